/-! ===== a sentence read: the class's ones without others in them ===== -/
section SC₁
variable {K₁ N₁ : MK} {I₁ : MI} {L₁ : ML} {R₁ : MR} {x₁ n₁ p₁ k₁ s₁ sc₁ : Nat} {B₁ : Nat → Nat} {NM₁ : Nat → List Nat} {l₁ l0₁ : List (Nat × Nat × Nat)}
theorem s_sadd {c₁ g₁ v₁ : Nat} {Q₁ : MI → Prop} (hC₁ : SEL K₁ N₁ R₁ s₁) (hS₁ : SED₁ I₁ s₁ l₁)
    (h₁ : ∀ J₁ l'₁, SED₁ J₁ s₁ l'₁ → (l₁.length < 40 → l'₁ = l₁ ++ [(c₁, g₁, v₁)]) → (∀ b₁, b₁ < s₁ ∨ s₁ + 3 < b₁ → J₁ b₁ = I₁ b₁) → Q₁ J₁) : w_X5_add s₁ (nI c₁) (nI g₁) (nI v₁) K₁ N₁ I₁ L₁ R₁ Q₁ := by
  obtain ⟨p1₁, p2₁, p3₁, p4₁, p5₁, p6₁, p7₁, p8₁, p9₁, p10₁, p11₁, p12₁, p13₁⟩ := hC₁
  obtain ⟨d1₁, d2₁, d3₁⟩ := hS₁
  delta w_X5_add
  rw [d1₁, show (40 : Int32) = nI 40 from rfl, leN (by omega) (by omega)]
  refine ⟨p1₁, fun q₁ => h₁ I₁ l₁ ⟨d1₁, d2₁, d3₁⟩ (fun z₁ => by omega) (fun _ _ => rfl), fun q₁ => ⟨_, p2₁, p6₁, by rw [p7₁]; exact (vp_nI (by omega)).mpr (by omega), fun I5₁ g5₁ => ?_⟩⟩
  rw [ix_nI (by omega)] at g5₁
  have e5₁ : I5₁ s₁ 0 = nI l₁.length := by rw [g5₁, mup_ne (by omega)]; exact d1₁
  rw [e5₁]
  refine ⟨_, p3₁, p8₁, by rw [p9₁]; exact (vp_nI (by omega)).mpr (by omega), fun I9₁ g9₁ => ?_⟩
  rw [ix_nI (by omega)] at g9₁
  have e9₁ : I9₁ s₁ 0 = nI l₁.length := by rw [g9₁, mup_ne (by omega)]; exact e5₁
  rw [e9₁]
  refine ⟨_, p4₁, p10₁, by rw [p11₁]; exact (vp_nI (by omega)).mpr (by omega), fun I13₁ g13₁ I14₁ g14₁ => ?_⟩
  rw [ix_nI (by omega)] at g13₁
  have e13₁ : I13₁ s₁ 0 = nI l₁.length := by rw [g13₁, mup_ne (by omega)]; exact e9₁
  rw [e13₁, nI_1] at g14₁
  refine h₁ I14₁ (l₁ ++ [(c₁, g₁, v₁)]) ⟨by rw [g14₁, mup_at, List.length_append]; rfl, by rw [List.length_append, List.length_singleton]; omega, fun i₁ hi₁ => ?_⟩ (fun _ => rfl) (fun b₁ hb₁ => by rw [g14₁, mup_ne (by omega), g13₁, mup_ne (by omega), g9₁, mup_ne (by omega), g5₁, mup_ne (by omega)])
  rw [List.length_append, List.length_singleton] at hi₁
  have a1₁ : I14₁ (s₁ + 1) i₁ = mup I₁ (s₁ + 1) l₁.length (nI c₁) (s₁ + 1) i₁ := by rw [g14₁, mup_ne (by omega), g13₁, mup_ne (by omega), g9₁, mup_ne (by omega), g5₁]
  have a2₁ : I14₁ (s₁ + 2) i₁ = mup I5₁ (s₁ + 2) l₁.length (nI g₁) (s₁ + 2) i₁ := by rw [g14₁, mup_ne (by omega), g13₁, mup_ne (by omega), g9₁]
  have a3₁ : I14₁ (s₁ + 3) i₁ = mup I9₁ (s₁ + 3) l₁.length (nI v₁) (s₁ + 3) i₁ := by rw [g14₁, mup_ne (by omega), g13₁]
  rw [getD_sn _ _ _ _ hi₁, a1₁, a2₁, a3₁]
  by_cases q2₁ : i₁ = l₁.length
  · rw [if_pos q2₁, q2₁, mup_at, mup_at, mup_at]; exact ⟨rfl, rfl, rfl⟩
  · rw [if_neg q2₁, mup_k q2₁, mup_k q2₁, mup_k q2₁, g5₁, mup_ne (by omega), g9₁, mup_ne (by omega), g5₁, mup_ne (by omega)]; exact d3₁ i₁ (by omega)
/-- what reading a sentence leaves as it was -/
def frSn (x₁ : Nat) (J₁ I₁ : MI) (M₁ L₁ : ML) : Prop := (∀ b₁, b₁ ≠ x₁ + 1 → b₁ < x₁ + 53 ∨ x₁ + 57 < b₁ → J₁ b₁ = I₁ b₁) ∧ ∀ b₁, b₁ ≠ x₁ + 1 → M₁ b₁ = L₁ b₁
def SNC₁ (K₁ N₁ : MK) (R₁ : MR) (I₁ : MI) (L₁ : ML) (x₁ : Nat) (B₁ : Nat → Nat) (n₁ p₁ k₁ : Nat) (l₁ : List (Nat × Nat × Nat)) : Prop := TCS₁ K₁ N₁ R₁ I₁ L₁ (x₁ + 1) B₁ n₁ 200 p₁ ∧ SED₁ I₁ (x₁ + 54) l₁ ∧ I₁ (x₁ + 53) 1 = nI k₁
def SNB₁ (J₁ : MI) (x₁ e₁ pl₁ : Nat) : Prop := J₁ (x₁ + 1) 10 = nI e₁ ∧ J₁ (x₁ + 1) 11 = nI pl₁ ∧ ∃ l₁, SED₁ J₁ (x₁ + 54) l₁
/-- the names of the scopes of the unit -/
def NMC₁ (I₁ : MI) (L₁ : ML) (x₁ : Nat) (NM₁ : Nat → List Nat) (sc₁ : Nat) : Prop := TD I₁ (x₁ + 7) 10 4 sc₁ ∧ (∀ j₁, j₁ < sc₁ → wdOK (NM₁ (0 + j₁))) ∧ ∀ j₁, j₁ < sc₁ → L₁ (x₁ + 8) j₁ = encB 32 (NM₁ (0 + j₁))
theorem frSn_r : frSn x₁ I₁ I₁ L₁ L₁ := ⟨fun _ _ _ => rfl, fun _ _ => rfl⟩
theorem frSn_t {J₁ J'₁ : MI} {M₁ M'₁ : ML} (h₁ : frSn x₁ J'₁ J₁ M'₁ M₁) (h2₁ : frSn x₁ J₁ I₁ M₁ L₁) : frSn x₁ J'₁ I₁ M'₁ L₁ := ⟨fun b₁ h3₁ h4₁ => by rw [h₁.1 b₁ h3₁ h4₁, h2₁.1 b₁ h3₁ h4₁], fun b₁ h3₁ => by rw [h₁.2 b₁ h3₁, h2₁.2 b₁ h3₁]⟩
theorem frSn_K {J₁ : MI} {M₁ : ML} (h₁ : frK₁ (x₁ + 1) J₁ I₁ M₁ L₁) : frSn x₁ J₁ I₁ M₁ L₁ := ⟨fun b₁ q₁ _ => h₁.1 b₁ q₁, fun b₁ q₁ => h₁.2.2 b₁ q₁⟩
theorem frSn_f {J₁ : MI} {e₁ pl₁ : Nat} (h₁ : flC₁ (x₁ + 1) e₁ pl₁ J₁ I₁) : frSn x₁ J₁ I₁ L₁ L₁ := ⟨fun b₁ q₁ _ => h₁.2.2.1 b₁ q₁, fun _ _ => rfl⟩
theorem frSn_a {J₁ : MI} (h₁ : ∀ b₁, b₁ < x₁ + 54 ∨ x₁ + 54 + 3 < b₁ → J₁ b₁ = I₁ b₁) : frSn x₁ J₁ I₁ L₁ L₁ := ⟨fun b₁ _ q₁ => h₁ b₁ (by omega), fun _ _ => rfl⟩
theorem NMC_fr {J₁ : MI} {M₁ : ML} (h₁ : NMC₁ I₁ L₁ x₁ NM₁ sc₁) (g₁ : frSn x₁ J₁ I₁ M₁ L₁) : NMC₁ J₁ M₁ x₁ NM₁ sc₁ := ⟨h₁.1.fr (g₁.1 _ (by omega) (by omega)), h₁.2.1, fun j₁ hj₁ => by rw [g₁.2 _ (by omega)]; exact h₁.2.2 j₁ hj₁⟩
theorem SNB_f {J₁ : MI} {e₁ pl₁ : Nat} (hS₁ : SNC₁ K₁ N₁ R₁ I₁ L₁ x₁ B₁ n₁ p₁ k₁ l₁) (h₁ : flC₁ (x₁ + 1) e₁ pl₁ J₁ I₁) : SNB₁ J₁ x₁ e₁ pl₁ := ⟨h₁.1, h₁.2.1, l₁, SED_fr hS₁.2.1 (fun b₁ q1₁ q2₁ => h₁.2.2.1 b₁ (by omega))⟩
/-- one token on -/
theorem s_snext {Q₁ : MI → ML → Prop} (hS₁ : SNC₁ K₁ N₁ R₁ I₁ L₁ x₁ B₁ n₁ p₁ k₁ l₁) (h₁ : ∀ J₁ M₁, SNC₁ K₁ N₁ R₁ J₁ M₁ x₁ B₁ n₁ (tkN₁ B₁ n₁ 200 p₁) k₁ l₁ → J₁ (x₁ + 1) 10 = I₁ (x₁ + 1) 10 → frSn x₁ J₁ I₁ M₁ L₁ → Q₁ J₁ M₁) : w_X8_advance (x₁ + 1) K₁ N₁ I₁ L₁ R₁ Q₁ :=
  s_next hS₁.1 (fun J₁ M₁ t₁ f₁ => h₁ J₁ M₁ ⟨t₁, SED_fr hS₁.2.1 (fun b₁ q1₁ q2₁ => f₁.1 b₁ (by omega)), by rw [f₁.1 _ (by omega)]; exact hS₁.2.2⟩ (frK_10 f₁) (frSn_K f₁))
/-- an entry more -/
theorem s_sput {c₁ g₁ v₁ : Nat} {Q₁ : MI → Prop} (hX₁ : PDL K₁ N₁ R₁ x₁) (hS₁ : SNC₁ K₁ N₁ R₁ I₁ L₁ x₁ B₁ n₁ p₁ k₁ l₁) (hl₁ : l₁.length < 40) (h₁ : ∀ J₁, SNC₁ K₁ N₁ R₁ J₁ L₁ x₁ B₁ n₁ p₁ k₁ (l₁ ++ [(c₁, g₁, v₁)]) → J₁ (x₁ + 1) = I₁ (x₁ + 1) → frSn x₁ J₁ I₁ L₁ L₁ → Q₁ J₁) : w_X5_add (x₁ + 54) (nI c₁) (nI g₁) (nI v₁) K₁ N₁ I₁ L₁ R₁ Q₁ :=
  s_sadd hX₁.srd_s hS₁.2.1 (fun J₁ l'₁ s1₁ e₁ f₁ => h₁ J₁ ⟨TCS_fr hS₁.1 (f₁ _ (by omega)) (fun y₁ _ _ => by rw [f₁ _ (by omega)]) rfl, by rw [← e₁ hl₁]; exact s1₁, by rw [f₁ _ (by omega)]; exact hS₁.2.2⟩ (f₁ _ (by omega)) (frSn_a f₁))
theorem s_snScope {Q₁ : Bool → MI → ML → Prop} (hX₁ : PDL K₁ N₁ R₁ x₁) (hS₁ : SNC₁ K₁ N₁ R₁ I₁ L₁ x₁ B₁ n₁ p₁ k₁ l0₁) (hN₁ : NMC₁ I₁ L₁ x₁ NM₁ sc₁) (hl₁ : l0₁.length < 40)
    (hbad : ∀ e₁ pl₁, pLef B₁ n₁ 200 NM₁ sc₁ 30 p₁ = .inl (e₁, pl₁) → ∀ J₁ M₁, SNB₁ J₁ x₁ e₁ pl₁ → frSn x₁ J₁ I₁ M₁ L₁ → Q₁ false J₁ M₁)
    (hok₁ : ∀ l₁ q₁, pLef B₁ n₁ 200 NM₁ sc₁ 30 p₁ = .inr (l₁, q₁) → ∀ J₁ M₁, SNC₁ K₁ N₁ R₁ J₁ M₁ x₁ B₁ n₁ q₁ k₁ (l0₁ ++ l₁) → J₁ (x₁ + 1) 10 = I₁ (x₁ + 1) 10 → frSn x₁ J₁ I₁ M₁ L₁ → Q₁ true J₁ M₁) : w_X6_readScopeName (x₁ + 53) (x₁ + 1) (x₁ + 3) K₁ N₁ I₁ L₁ R₁ Q₁ := by
  have sp₁ : pLef B₁ n₁ 200 NM₁ sc₁ 30 p₁ = if isNm B₁ n₁ 200 p₁ = false then .inl (1, tkS₁ B₁ n₁ 200 p₁) else if fndS NM₁ 0 sc₁ (tkW₁ B₁ n₁ p₁) = -1 then .inl (3, tkS₁ B₁ n₁ 200 p₁) else .inr ([(30, 0, ix (fndS NM₁ 0 sc₁ (tkW₁ B₁ n₁ p₁)))], tkN₁ B₁ n₁ 200 p₁) := by
    rw [pLef, if_neg (by decide), if_pos rfl]
  rw [sp₁] at hbad hok₁
  have hu₁ := hX₁.un
  delta w_X6_readScopeName
  refine ⟨hX₁.tok, s_needsName hS₁.1 (fun e1₁ k1₁ e6₁ => ⟨fun _ => ⟨hu₁.1, _, hu₁.2.2.1, hu₁.2.2.2.2.2.2.2.1.1, ?_⟩, fun y₁ => absurd y₁ (by decide)⟩) (fun e1₁ J₁ f₁ => ⟨fun y₁ => absurd y₁ (by decide), fun _ => hbad _ _ (by rw [if_pos e1₁]) J₁ L₁ (SNB_f hS₁ f₁) (frSn_f f₁)⟩)⟩
  rw [e6₁]
  refine s_find (b₁ := 0) (NM₁ := NM₁) hu₁.2.2.2.2.2.2.2.1 hN₁.1 (tkW_ok k1₁) hN₁.2.1 hN₁.2.2 ⟨fun z₁ => ⟨hX₁.srd, _, hX₁.srd_r, hX₁.srd_s.1, ?_⟩, fun z₁ => s_failT (k₁ := 3) hS₁.1 (fun J₁ f₁ => hbad _ _ (by rw [if_neg (by rw [e1₁]; decide), if_pos z₁]) J₁ L₁ (SNB_f hS₁ f₁) (frSn_f f₁))⟩
  obtain ⟨j₁, hj₁, ej₁⟩ := (fndS_or NM₁ 0 sc₁ (tkW₁ B₁ n₁ p₁)).resolve_left z₁
  have hc₁ := hN₁.1.2.2
  have hok' := hok₁ [(30, 0, j₁)] (tkN₁ B₁ n₁ 200 p₁) (by rw [if_neg (by rw [e1₁]; decide), if_neg z₁, ej₁, ix_nI (by omega)])
  rw [ej₁]
  exact s_sput (c₁ := 30) (g₁ := 0) (v₁ := j₁) hX₁ hS₁ hl₁ (fun J₁ s1₁ e2₁ f1₁ => s_snext s1₁ (fun J2₁ M2₁ s2₁ e3₁ f2₁ => hok' J2₁ M2₁ s2₁ (by rw [e3₁, e2₁]) (frSn_t f2₁ f1₁)))
theorem sgn_e : (isSn B₁ n₁ 200 p₁ 60 = true → sgnS B₁ n₁ 200 p₁ = 60) ∧ (isSn B₁ n₁ 200 p₁ 60 = false → isSn B₁ n₁ 200 p₁ 61 = true → sgnS B₁ n₁ 200 p₁ = 61) ∧ (isSn B₁ n₁ 200 p₁ 60 = false → isSn B₁ n₁ 200 p₁ 61 = false → isSn B₁ n₁ 200 p₁ 62 = true → sgnS B₁ n₁ 200 p₁ = 62) ∧ (isSn B₁ n₁ 200 p₁ 60 = false → isSn B₁ n₁ 200 p₁ 61 = false → isSn B₁ n₁ 200 p₁ 62 = false → sgnS B₁ n₁ 200 p₁ = 0) := by
  refine ⟨fun h₁ => ?_, fun h₁ h1₁ => ?_, fun h₁ h1₁ h2₁ => ?_, fun h₁ h1₁ h2₁ => ?_⟩
  · rw [sgnS, if_pos h₁]
  · rw [sgnS, if_neg (by rw [h₁]; decide), if_pos h1₁]
  · rw [sgnS, if_neg (by rw [h₁]; decide), if_neg (by rw [h1₁]; decide), if_pos h2₁]
  · rw [sgnS, if_neg (by rw [h₁]; decide), if_neg (by rw [h1₁]; decide), if_neg (by rw [h2₁]; decide)]
theorem isSn_9 {t₁ g₁ : Nat} (hT₁ : TCS₁ K₁ N₁ R₁ I₁ L₁ t₁ B₁ n₁ 200 p₁) (h₁ : isSn B₁ n₁ 200 p₁ g₁ = true) : I₁ t₁ 9 = nI g₁ := by
  rw [isSn, Bool.and_eq_true, decide_eq_true_eq, decide_eq_true_eq] at h₁
  rw [hT₁.2.2.2.2.2.2.2.2.2.2.2.2.2 h₁.1, h₁.2]
theorem s_snCmp {c₁ : Nat} {Q₁ : Bool → MI → ML → Prop} (hX₁ : PDL K₁ N₁ R₁ x₁) (hS₁ : SNC₁ K₁ N₁ R₁ I₁ L₁ x₁ B₁ n₁ p₁ k₁ l0₁) (hl₁ : l0₁.length < 40) (hc₁ : ¬ (c₁ = 28 ∨ c₁ = 29 ∨ c₁ = 7) ∧ c₁ ≠ 30)
    (hbad : ∀ e₁ pl₁, pLef B₁ n₁ 200 NM₁ sc₁ c₁ p₁ = .inl (e₁, pl₁) → ∀ J₁ M₁, SNB₁ J₁ x₁ e₁ pl₁ → frSn x₁ J₁ I₁ M₁ L₁ → Q₁ false J₁ M₁)
    (hok₁ : ∀ l₁ q₁, pLef B₁ n₁ 200 NM₁ sc₁ c₁ p₁ = .inr (l₁, q₁) → ∀ J₁ M₁, SNC₁ K₁ N₁ R₁ J₁ M₁ x₁ B₁ n₁ q₁ k₁ (l0₁ ++ l₁) → J₁ (x₁ + 1) 10 = I₁ (x₁ + 1) 10 → frSn x₁ J₁ I₁ M₁ L₁ → Q₁ true J₁ M₁) : w_X6_readCompared (x₁ + 53) (x₁ + 1) (nI c₁) K₁ N₁ I₁ L₁ R₁ Q₁ := by
  have sp₁ : pLef B₁ n₁ 200 NM₁ sc₁ c₁ p₁ = if sgnS B₁ n₁ 200 p₁ = 0 then .inl (1, tkS₁ B₁ n₁ 200 p₁)
      else if nmS₁ B₁ n₁ 200 (tkN₁ B₁ n₁ 200 p₁) 0 999 ≠ 0 then .inl (nmS₁ B₁ n₁ 200 (tkN₁ B₁ n₁ 200 p₁) 0 999, tkS₁ B₁ n₁ 200 (tkN₁ B₁ n₁ 200 p₁))
      else .inr ([(c₁, sgnS B₁ n₁ 200 p₁, tkV₁ B₁ n₁ (tkN₁ B₁ n₁ 200 p₁))], tkN₁ B₁ n₁ 200 (tkN₁ B₁ n₁ 200 p₁)) := by
    rw [pLef, if_neg hc₁.1, if_neg hc₁.2]
  rw [sp₁] at hbad hok₁
  obtain ⟨g1₁, g2₁, g3₁, g4₁⟩ := sgn_e (B₁ := B₁) (n₁ := n₁) (p₁ := p₁)
  have run₁ : ∀ g₁ : Nat, isSn B₁ n₁ 200 p₁ g₁ = true → sgnS B₁ n₁ 200 p₁ = g₁ → g₁ ≠ 0 → w_X6_readCompared_33 (x₁ + 53) (x₁ + 1) (nI c₁) K₁ N₁ I₁ L₁ R₁ Q₁ := fun g₁ e1₁ e2₁ hg₁ => by
    rw [e2₁, if_neg hg₁] at hbad hok₁
    delta w_X6_readCompared_33
    refine ⟨hX₁.tok, ?_⟩
    rw [isSn_9 hS₁.1 e1₁]
    rintro v4₁ rfl
    refine s_snext hS₁ (fun J₁ M₁ s1₁ j10₁ f1₁ => s_needsNumber (lo₁ := 0) (hi₁ := 999) s1₁.1 (by decide) (by decide) (fun z₁ _ _ _ e8₁ => ⟨fun _ => ⟨hX₁.srd, _, hX₁.srd_r, hX₁.srd_s.1, ?_⟩, fun y₁ => absurd y₁ (by decide)⟩) (fun z₁ J2₁ f2₁ => ⟨fun y₁ => absurd y₁ (by decide), fun _ => hbad _ _ (by rw [if_pos z₁]) J2₁ M₁ (SNB_f s1₁ f2₁) (frSn_t (frSn_f f2₁) f1₁)⟩))
    rw [e8₁]
    exact s_sput (c₁ := c₁) (g₁ := g₁) (v₁ := tkV₁ B₁ n₁ (tkN₁ B₁ n₁ 200 p₁)) hX₁ s1₁ hl₁ (fun J2₁ s2₁ e3₁ f2₁ => s_snext s2₁ (fun J3₁ M3₁ s3₁ e4₁ f3₁ => hok₁ _ _ (by rw [if_neg (fun w₁ => w₁ z₁)]) J3₁ M3₁ s3₁ (by rw [e4₁, e3₁, j10₁]) (frSn_t f3₁ (frSn_t f2₁ f1₁))))
  delta w_X6_readCompared
  refine ⟨hX₁.tok, s_isSign (c₁ := 60) hS₁.1 (by decide) ⟨fun a₁ => run₁ 60 a₁ (g1₁ a₁) (by decide), fun a₁ => s_isSign (c₁ := 61) hS₁.1 (by decide) ⟨fun b₁ => run₁ 61 b₁ (g2₁ a₁ b₁) (by decide), fun b₁ => s_isSign (c₁ := 62) hS₁.1 (by decide) ⟨fun d₁ => run₁ 62 d₁ (g3₁ a₁ b₁ d₁) (by decide), fun d₁ => s_failT (k₁ := 1) hS₁.1 (fun J₁ f₁ => hbad _ _ (by rw [if_pos (g4₁ a₁ b₁ d₁)]) J₁ L₁ (SNB_f hS₁ f₁) (frSn_f f₁))⟩⟩⟩⟩
end SC₁
