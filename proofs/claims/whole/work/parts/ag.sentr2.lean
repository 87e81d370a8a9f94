/-! ===== a sentence read: the reference's one ===== -/
section RS₁
variable {K₁ N₁ : MK} {I₁ : MI} {L₁ : ML} {R₁ : MR} {m₁ n₁ p₁ k₁ sc₁ : Nat} {B₁ : Nat → Nat} {NM₁ : Nat → List Nat}
/-- which first word it is, as the reference looks for it -/
theorem swK_no (hw₁ : ∀ j₁, j₁ < 9 → isWd B₁ n₁ 200 p₁ (25 + j₁) = false) : swK₁ B₁ n₁ 200 p₁ = 0 := by
  rw [swK₁, if_neg (by rw [hw₁ 0 (by decide)]; decide), if_neg (by rw [hw₁ 1 (by decide)]; decide), if_neg (by rw [hw₁ 2 (by decide)]; decide), if_neg (by rw [hw₁ 3 (by decide)]; decide), if_neg (by rw [hw₁ 4 (by decide)]; decide), if_neg (by rw [hw₁ 5 (by decide)]; decide), if_neg (by rw [hw₁ 6 (by decide)]; decide), if_neg (by rw [hw₁ 7 (by decide)]; decide), if_neg (by rw [hw₁ 8 (by decide)]; decide)]
theorem swK_i {i₁ : Nat} (hi₁ : i₁ < 9) (hw₁ : ∀ j₁, j₁ < i₁ → isWd B₁ n₁ 200 p₁ (25 + j₁) = false) (h₁ : isWd B₁ n₁ 200 p₁ (25 + i₁) = true) : swK₁ B₁ n₁ 200 p₁ = scL₁.getD i₁ 0 := by
  have h9₁ : i₁ = 0 ∨ i₁ = 1 ∨ i₁ = 2 ∨ i₁ = 3 ∨ i₁ = 4 ∨ i₁ = 5 ∨ i₁ = 6 ∨ i₁ = 7 ∨ i₁ = 8 := by omega
  rcases h9₁ with rfl | rfl | rfl | rfl | rfl | rfl | rfl | rfl | rfl
  · rw [swK₁, if_pos h₁]; rfl
  · rw [swK₁, if_neg (by rw [hw₁ 0 (by decide)]; decide), if_pos h₁]; rfl
  · rw [swK₁, if_neg (by rw [hw₁ 0 (by decide)]; decide), if_neg (by rw [hw₁ 1 (by decide)]; decide), if_pos h₁]; rfl
  · rw [swK₁, if_neg (by rw [hw₁ 0 (by decide)]; decide), if_neg (by rw [hw₁ 1 (by decide)]; decide), if_neg (by rw [hw₁ 2 (by decide)]; decide), if_pos h₁]; rfl
  · rw [swK₁, if_neg (by rw [hw₁ 0 (by decide)]; decide), if_neg (by rw [hw₁ 1 (by decide)]; decide), if_neg (by rw [hw₁ 2 (by decide)]; decide), if_neg (by rw [hw₁ 3 (by decide)]; decide), if_pos h₁]; rfl
  · rw [swK₁, if_neg (by rw [hw₁ 0 (by decide)]; decide), if_neg (by rw [hw₁ 1 (by decide)]; decide), if_neg (by rw [hw₁ 2 (by decide)]; decide), if_neg (by rw [hw₁ 3 (by decide)]; decide), if_neg (by rw [hw₁ 4 (by decide)]; decide), if_pos h₁]; rfl
  · rw [swK₁, if_neg (by rw [hw₁ 0 (by decide)]; decide), if_neg (by rw [hw₁ 1 (by decide)]; decide), if_neg (by rw [hw₁ 2 (by decide)]; decide), if_neg (by rw [hw₁ 3 (by decide)]; decide), if_neg (by rw [hw₁ 4 (by decide)]; decide), if_neg (by rw [hw₁ 5 (by decide)]; decide), if_pos h₁]; rfl
  · rw [swK₁, if_neg (by rw [hw₁ 0 (by decide)]; decide), if_neg (by rw [hw₁ 1 (by decide)]; decide), if_neg (by rw [hw₁ 2 (by decide)]; decide), if_neg (by rw [hw₁ 3 (by decide)]; decide), if_neg (by rw [hw₁ 4 (by decide)]; decide), if_neg (by rw [hw₁ 5 (by decide)]; decide), if_neg (by rw [hw₁ 6 (by decide)]; decide), if_pos h₁]; rfl
  · rw [swK₁, if_neg (by rw [hw₁ 0 (by decide)]; decide), if_neg (by rw [hw₁ 1 (by decide)]; decide), if_neg (by rw [hw₁ 2 (by decide)]; decide), if_neg (by rw [hw₁ 3 (by decide)]; decide), if_neg (by rw [hw₁ 4 (by decide)]; decide), if_neg (by rw [hw₁ 5 (by decide)]; decide), if_neg (by rw [hw₁ 6 (by decide)]; decide), if_neg (by rw [hw₁ 7 (by decide)]; decide), if_pos h₁]; rfl
theorem isNm_k (h₁ : isNm B₁ n₁ 200 p₁ = true) : tkK₁ B₁ n₁ 200 p₁ = 1 := by
  rw [isNm, Bool.and_eq_true, decide_eq_true_eq] at h₁; exact h₁.1
theorem isSn_k {c₁ : Nat} (h₁ : isSn B₁ n₁ 200 p₁ c₁ = true) : tkK₁ B₁ n₁ 200 p₁ = 3 := by
  rw [isSn, Bool.and_eq_true, decide_eq_true_eq] at h₁; exact h₁.1
/-- a name of a scope, and what is made of it -/
theorem r_snScope {nd₁ d₁ : Nat} {Q₁ : Bool → MI → ML → Prop} (hM₁ : MDL K₁ N₁ R₁ m₁) (hS₁ : SRN₁ I₁ L₁ m₁ B₁ n₁ p₁ nd₁ k₁ d₁) (hN₁ : NMN₁ I₁ L₁ m₁ NM₁ sc₁) (hd₁ : nd₁ < 60)
    (hbad : ∀ e₁ pl₁, pLef B₁ n₁ 200 NM₁ sc₁ 30 p₁ = .inl (e₁, pl₁) → ∀ J₁, J₁ m₁ 10 = nI e₁ → J₁ m₁ 11 = nI pl₁ → frSr m₁ J₁ I₁ L₁ L₁ → Q₁ false J₁ L₁)
    (hok₁ : ∀ l₁ q₁, pLef B₁ n₁ 200 NM₁ sc₁ 30 p₁ = .inr (l₁, q₁) → l₁.length = 1 → ∀ J₁ M₁, SRN₁ J₁ M₁ m₁ B₁ n₁ q₁ (nd₁ + l₁.length) k₁ d₁ → J₁ m₁ 57 = nI nd₁ → trE₁ (J₁ (m₁ + 25)) (nd₁ + 1) l₁ nd₁ → (∀ y₁, y₁ < 4 * nd₁ → J₁ (m₁ + 25) y₁ = I₁ (m₁ + 25) y₁) → J₁ m₁ 10 = I₁ m₁ 10 → frSr m₁ J₁ I₁ M₁ L₁ → Q₁ true J₁ M₁) : w_X12_readOf m₁ (nI 29) K₁ N₁ I₁ L₁ R₁ Q₁ := by
  have sp₁ : pLef B₁ n₁ 200 NM₁ sc₁ 30 p₁ = if isNm B₁ n₁ 200 p₁ = false then .inl (1, tkS₁ B₁ n₁ 200 p₁) else if fndS NM₁ 0 sc₁ (tkW₁ B₁ n₁ p₁) = -1 then .inl (3, tkS₁ B₁ n₁ 200 p₁) else .inr ([(30, 0, ix (fndS NM₁ 0 sc₁ (tkW₁ B₁ n₁ p₁)))], tkN₁ B₁ n₁ 200 p₁) := by
    rw [pLef, if_neg (by decide), if_pos rfl]
  rw [sp₁] at hbad hok₁
  obtain ⟨n1₁, n2₁, n3₁, n4₁⟩ := hN₁
  delta w_X12_readOf w_X12_readScopeName
  refine ⟨hM₁.k, hM₁.k, r_isName hM₁ hS₁.1 ⟨fun e1₁ => ⟨_, hM₁.r20, _, hM₁.r14, hM₁.k2, by rw [hM₁.n2]; exact vp_c (by decide) (by decide), ?_⟩, fun e1₁ => r_bad (k₁ := 1) hM₁ hS₁.1 (fun _ => rfl) (fun J₁ f₁ => ⟨fun y₁ => absurd y₁ (by decide), fun _ => hbad _ _ (by rw [if_pos e1₁]) J₁ f₁.1 f₁.2.1 (frSr_f f₁)⟩)⟩⟩
  have k1₁ := isNm_k e1₁
  have e12₁ : L₁ m₁ 12 = encB 27 (tkW₁ B₁ n₁ p₁) := hS₁.1.2.2.2.2.2.2.2.2.2.2.1 k1₁
  rw [show ix (2 : Int32) = 2 from rfl, n1₁, e12₁]
  refine r_findIn (b₁ := 0) (NM₁ := NM₁) hM₁.k8 hM₁.n8 (by omega) (by decide) (tkW_ok k1₁) n3₁ n4₁ (fun I8₁ g8₁ => ?_)
  have e13₁ : I8₁ m₁ 13 = fndS NM₁ 0 sc₁ (tkW₁ B₁ n₁ p₁) := by rw [g8₁, mup_at]
  have t8₁ : TRS₁ I8₁ L₁ m₁ B₁ n₁ 200 p₁ := TRS_fr hS₁.1 (by rw [g8₁, mup_ne (by omega)]) (fun y₁ _ _ => by rw [g8₁, mup_k (by omega)]) rfl
  have y8₁ : ∀ y₁, y₁ ≠ 13 → I8₁ m₁ y₁ = I₁ m₁ y₁ := fun y₁ q₁ => by rw [g8₁, mup_k q₁]
  have f8₁ : frSr m₁ I8₁ I₁ L₁ L₁ := frSr_y g8₁ (by decide)
  rw [e13₁]
  refine ⟨fun z₁ => r_next hM₁ t8₁ (fun J₁ M₁ t9₁ f9₁ => ⟨fun _ => ?_, fun y₁ => absurd y₁ (by decide)⟩), fun z₁ => r_bad (k₁ := 3) hM₁ t8₁ (fun w₁ => by omega) (fun J₁ f₁ => ⟨fun y₁ => absurd y₁ (by decide), fun _ => hbad _ _ (by rw [if_neg (by rw [e1₁]; decide), if_pos z₁]) J₁ f₁.1 f₁.2.1 (frSr_t (frSr_f f₁) f8₁)⟩)⟩
  obtain ⟨j₁, hj₁, ej₁⟩ := (fndS_or NM₁ 0 sc₁ (tkW₁ B₁ n₁ p₁)).resolve_left z₁
  have hok' := hok₁ [(30, 0, j₁)] (tkN₁ B₁ n₁ 200 p₁) (by rw [if_neg (by rw [e1₁]; decide), if_neg z₁, ej₁, ix_nI (by omega)]) rfl
  have y9₁ : ∀ y₁, y₁ ≠ 13 → 9 < y₁ → J₁ m₁ y₁ = I₁ m₁ y₁ := fun y₁ q₁ q2₁ => by rw [f9₁.2.1 y₁ (by omega) (by omega) (by omega) (by omega) (by omega), y8₁ y₁ q₁]
  have j13₁ : J₁ m₁ 13 = nI j₁ := by rw [f9₁.2.1 13 (by decide) (by decide) (by decide) (by decide) (by decide), e13₁, ej₁]
  have b9₁ : J₁ (m₁ + 25) = I₁ (m₁ + 25) := by rw [f9₁.1 _ (by omega), g8₁, mup_ne (by omega)]
  rw [j13₁]
  refine r_saysOne hM₁ (by rw [y9₁ 54 (by decide) (by decide)]; exact hS₁.2.1) hd₁ (fun J3₁ q54₁ z0₁ z1₁ z2₁ z3₁ zl₁ zb₁ zy₁ I7₁ g7₁ => hok' I7₁ M₁ ⟨TRS_fr t9₁ (by rw [g7₁, mup_ne (by omega)]; exact zb₁ _ (by omega) (by omega)) (fun y₁ _ _ => by rw [g7₁, mup_k (by omega)]; exact zy₁ y₁ (by omega)) rfl, by rw [g7₁, mup_k (by decide)]; exact q54₁, by rw [g7₁, mup_k (by decide), zy₁ 55 (by decide), y9₁ 55 (by decide) (by decide)]; exact hS₁.2.2.1, by rw [g7₁, mup_k (by decide), zy₁ 56 (by decide), y9₁ 56 (by decide) (by decide)]; exact hS₁.2.2.2⟩ (by rw [g7₁, mup_at]) ?_ (fun y₁ hy₁ => by rw [g7₁, mup_ne (by omega), zl₁ y₁ hy₁, b9₁]) (by rw [g7₁, mup_k (by decide), zy₁ 10 (by decide), y9₁ 10 (by decide) (by decide)]) (frSr_t (frSr_y g7₁ (by decide)) (frSr_t (frSr_s zb₁ zy₁) (frSr_t (frSr_V f9₁) f8₁))))
  rw [trE₁, g7₁, mup_ne (by omega)]
  exact Or.inl ⟨30, 0, j₁, rfl, z0₁, Or.inr (Or.inl ⟨rfl, z1₁, by omega⟩)⟩
/-- a number compared -/
theorem r_snCmp {c₁ w₁ nd₁ d₁ : Nat} {Q₁ : Bool → MI → ML → Prop} (hM₁ : MDL K₁ N₁ R₁ m₁) (hS₁ : SRN₁ I₁ L₁ m₁ B₁ n₁ p₁ nd₁ k₁ d₁) (hd₁ : nd₁ < 60) (hc₁ : c₁ = 31 ∧ w₁ = 30 ∨ c₁ = 32 ∧ w₁ = 31 ∨ c₁ = 9 ∧ w₁ = 32 ∨ c₁ = 33 ∧ w₁ = 33)
    (hbad : ∀ e₁ pl₁, pLef B₁ n₁ 200 NM₁ sc₁ c₁ p₁ = .inl (e₁, pl₁) → ∀ J₁ M₁, J₁ m₁ 10 = nI e₁ → J₁ m₁ 11 = nI pl₁ → frSr m₁ J₁ I₁ M₁ L₁ → Q₁ false J₁ M₁)
    (hok₁ : ∀ l₁ q₁, pLef B₁ n₁ 200 NM₁ sc₁ c₁ p₁ = .inr (l₁, q₁) → l₁.length = 1 → ∀ J₁ M₁, SRN₁ J₁ M₁ m₁ B₁ n₁ q₁ (nd₁ + l₁.length) k₁ d₁ → J₁ m₁ 57 = nI nd₁ → trE₁ (J₁ (m₁ + 25)) (nd₁ + 1) l₁ nd₁ → (∀ y₁, y₁ < 4 * nd₁ → J₁ (m₁ + 25) y₁ = I₁ (m₁ + 25) y₁) → J₁ m₁ 10 = I₁ m₁ 10 → frSr m₁ J₁ I₁ M₁ L₁ → Q₁ true J₁ M₁) : w_X12_readCompare m₁ (nI w₁) K₁ N₁ I₁ L₁ R₁ Q₁ := by
  have sp₁ : pLef B₁ n₁ 200 NM₁ sc₁ c₁ p₁ = if sgnS B₁ n₁ 200 p₁ = 0 then .inl (1, tkS₁ B₁ n₁ 200 p₁)
      else if nmS₁ B₁ n₁ 200 (tkN₁ B₁ n₁ 200 p₁) 0 999 ≠ 0 then .inl (nmS₁ B₁ n₁ 200 (tkN₁ B₁ n₁ 200 p₁) 0 999, tkS₁ B₁ n₁ 200 (tkN₁ B₁ n₁ 200 p₁))
      else .inr ([(c₁, sgnS B₁ n₁ 200 p₁, tkV₁ B₁ n₁ (tkN₁ B₁ n₁ 200 p₁))], tkN₁ B₁ n₁ 200 (tkN₁ B₁ n₁ 200 p₁)) := by
    rw [pLef, if_neg (by omega), if_neg (by omega)]
  rw [sp₁] at hbad hok₁
  have ew₁ : 50 + w₁ = 50 + wpL₁.getD c₁ 0 := by rcases hc₁ with ⟨rfl, rfl⟩ | ⟨rfl, rfl⟩ | ⟨rfl, rfl⟩ | ⟨rfl, rfl⟩ <;> rfl
  obtain ⟨g1₁, g2₁, g3₁, g4₁⟩ := sgn_e (B₁ := B₁) (n₁ := n₁) (p₁ := p₁)
  have run₁ : ∀ g₁ : Nat, isSn B₁ n₁ 200 p₁ g₁ = true → sgnS B₁ n₁ 200 p₁ = g₁ → (g₁ = 60 ∨ g₁ = 61 ∨ g₁ = 62) → w_X12_readCompare_33 m₁ (nI w₁) K₁ N₁ I₁ L₁ R₁ Q₁ := fun g₁ e1₁ e2₁ hg₁ => by
    rw [e2₁, if_neg (by omega)] at hbad hok₁
    delta w_X12_readCompare_33
    refine ⟨hM₁.k, ?_⟩
    have e9₁ : I₁ m₁ 9 = nI g₁ := by
      rw [isSn, Bool.and_eq_true, decide_eq_true_eq, decide_eq_true_eq] at e1₁
      rw [hS₁.1.2.2.2.2.2.2.2.2.2.2.2.2 e1₁.1, e1₁.2]
    rw [e9₁, show (50 : Int32) = nI 50 from rfl, addN, ew₁]
    rintro v4₁ rfl
    refine r_next hM₁ hS₁.1 (fun J₁ M₁ t1₁ f1₁ => r_readNumber (lo₁ := 0) (hi₁ := 999) hM₁ t1₁ (by decide) (by decide) (fun z₁ _ _ v999 J2₁ M2₁ t2₁ e13₁ f2₁ => ⟨fun _ => ?_, fun y₁ => absurd y₁ (by decide)⟩) (fun z₁ J2₁ f2₁ => ⟨fun y₁ => absurd y₁ (by decide), fun _ => hbad _ _ (by rw [if_pos z₁]) J2₁ M₁ f2₁.1 f2₁.2.1 (frSr_t (frSr_f f2₁) (frSr_V f1₁))⟩))
    have y2₁ : ∀ y₁, y₁ ≠ 13 → 9 < y₁ → J2₁ m₁ y₁ = I₁ m₁ y₁ := fun y₁ q₁ q2₁ => by rw [f2₁.2.1 y₁ (by omega) (by omega) (by omega) (by omega) (by omega), mup_k q₁, f1₁.2.1 y₁ (by omega) (by omega) (by omega) (by omega) (by omega)]
    have b2₁ : J2₁ (m₁ + 25) = I₁ (m₁ + 25) := by rw [f2₁.1 _ (by omega), mup_ne (by omega), f1₁.1 _ (by omega)]
    have fr2₁ : frSr m₁ J2₁ I₁ M2₁ L₁ := frSr_t (frSr_V f2₁) (frSr_t (frSr_y rfl (by decide)) (frSr_V f1₁))
    have hok' := hok₁ [(c₁, g₁, tkV₁ B₁ n₁ (tkN₁ B₁ n₁ 200 p₁))] (tkN₁ B₁ n₁ 200 (tkN₁ B₁ n₁ 200 p₁)) (by rw [if_neg (fun y₁ => y₁ z₁)]) rfl
    rw [e13₁]
    refine r_saysOne hM₁ (by rw [y2₁ 54 (by decide) (by decide)]; exact hS₁.2.1) hd₁ (fun J3₁ q54₁ z0₁ z1₁ z2₁ z3₁ zl₁ zb₁ zy₁ I7₁ g7₁ => hok' I7₁ M2₁ ⟨TRS_fr t2₁ (by rw [g7₁, mup_ne (by omega)]; exact zb₁ _ (by omega) (by omega)) (fun y₁ _ _ => by rw [g7₁, mup_k (by omega)]; exact zy₁ y₁ (by omega)) rfl, by rw [g7₁, mup_k (by decide)]; exact q54₁, by rw [g7₁, mup_k (by decide), zy₁ 55 (by decide), y2₁ 55 (by decide) (by decide)]; exact hS₁.2.2.1, by rw [g7₁, mup_k (by decide), zy₁ 56 (by decide), y2₁ 56 (by decide) (by decide)]; exact hS₁.2.2.2⟩ (by rw [g7₁, mup_at]) ?_ (fun y₁ hy₁ => by rw [g7₁, mup_ne (by omega), zl₁ y₁ hy₁, b2₁]) (by rw [g7₁, mup_k (by decide), zy₁ 10 (by decide), y2₁ 10 (by decide) (by decide)]) (frSr_t (frSr_y g7₁ (by decide)) (frSr_t (frSr_s zb₁ zy₁) fr2₁)))
    rw [trE₁, g7₁, mup_ne (by omega)]
    exact Or.inl ⟨c₁, g₁, tkV₁ B₁ n₁ (tkN₁ B₁ n₁ 200 p₁), rfl, z0₁, Or.inr (Or.inr ⟨by omega, z2₁, by omega, z3₁, hg₁⟩)⟩
  delta w_X12_readCompare
  refine ⟨hM₁.k, r_isSign (c₁ := 60) hM₁ hS₁.1 (by decide) ⟨fun a₁ => run₁ 60 a₁ (g1₁ a₁) (by decide), fun a₁ => r_isSign (c₁ := 61) hM₁ hS₁.1 (by decide) ⟨fun b₁ => run₁ 61 b₁ (g2₁ a₁ b₁) (by decide), fun b₁ => r_isSign (c₁ := 62) hM₁ hS₁.1 (by decide) ⟨fun e₁ => run₁ 62 e₁ (g3₁ a₁ b₁ e₁) (by decide), fun e₁ => r_bad (k₁ := 1) hM₁ hS₁.1 (fun _ => rfl) (fun J₁ f₁ => hbad _ _ (by rw [if_pos (g4₁ a₁ b₁ e₁)]) J₁ L₁ f₁.1 f₁.2.1 (frSr_f f₁))⟩⟩⟩⟩
/-- a one, when its first token is known -/
theorem r_said46 {d₁ nd₁ w₁ : Nat} {b₁ : Bool} {Q₁ : Bool → MI → ML → Prop} {W₁ : Nat → MK → MK → MI → ML → MR → (Bool → MI → ML → Prop) → Prop} (hM₁ : MDL K₁ N₁ R₁ m₁) (hd₁ : d₁ ≤ 8) (hW₁ : ∀ e₁, d₁ = e₁ + 1 → RSP₁ K₁ N₁ R₁ m₁ B₁ n₁ NM₁ sc₁ W₁ e₁ (pOneD B₁ n₁ 200 NM₁ sc₁ e₁))
    (hS₁ : SRN₁ I₁ L₁ m₁ B₁ n₁ p₁ nd₁ k₁ d₁) (hN₁ : NMN₁ I₁ L₁ m₁ NM₁ sc₁) (hk₁ : k₁ ≤ 20) (hnd₁ : nd₁ ≤ 2 * k₁) (hb₁ : isSn B₁ n₁ 200 p₁ 40 = b₁) (hw₁ : b₁ = true ∨ 25 ≤ w₁ ∧ w₁ ≤ 33 ∧ isWd B₁ n₁ 200 p₁ w₁ = true ∧ swK₁ B₁ n₁ 200 p₁ = scL₁.getD (w₁ - 25) 0)
    (hbad : ∀ e₁ pl₁, pOneD B₁ n₁ 200 NM₁ sc₁ d₁ k₁ p₁ = .inl (e₁, pl₁) → ∀ J₁ M₁, J₁ m₁ 10 = nI e₁ → J₁ m₁ 11 = nI pl₁ → frSr m₁ J₁ I₁ M₁ L₁ → Q₁ false J₁ M₁)
    (hok₁ : ∀ l₁ k'₁ p'₁, pOneD B₁ n₁ 200 NM₁ sc₁ d₁ k₁ p₁ = .inr (l₁, k'₁, p'₁) → ∀ J₁ M₁ t₁, SRN₁ J₁ M₁ m₁ B₁ n₁ p'₁ (nd₁ + l₁.length) k'₁ d₁ → J₁ m₁ 57 = nI t₁ → t₁ < nd₁ + l₁.length → trE₁ (J₁ (m₁ + 25)) (t₁ + 1) l₁ t₁ → (∀ y₁, y₁ < 4 * nd₁ → J₁ (m₁ + 25) y₁ = I₁ (m₁ + 25) y₁) → J₁ m₁ 10 = I₁ m₁ 10 → frSr m₁ J₁ I₁ M₁ L₁ → Q₁ true J₁ M₁) : w_X12_readSaid_46 (w_X12_readBracket (w_X12_readOr (w_X12_readAnd W₁))) (w_X12_readNot W₁) m₁ b₁ (nI w₁) K₁ N₁ I₁ L₁ R₁ Q₁ := by
  have sp0₁ : ¬ (isSn B₁ n₁ 200 p₁ 40 = false ∧ swK₁ B₁ n₁ 200 p₁ = 0) := fun z₁ => by
    rcases hw₁ with h0₁ | ⟨h1₁, h2₁, h3₁, h4₁⟩
    · rw [hb₁, h0₁] at z₁; exact absurd z₁.1 (by decide)
    · have h9₁ : w₁ = 25 ∨ w₁ = 26 ∨ w₁ = 27 ∨ w₁ = 28 ∨ w₁ = 29 ∨ w₁ = 30 ∨ w₁ = 31 ∨ w₁ = 32 ∨ w₁ = 33 := by omega
      rw [h4₁] at z₁
      rcases h9₁ with rfl | rfl | rfl | rfl | rfl | rfl | rfl | rfl | rfl <;> exact absurd z₁.2 (by decide)
  have tk4₁ : tkK₁ B₁ n₁ 200 p₁ ≠ 4 := by
    rcases hw₁ with h0₁ | ⟨h1₁, h2₁, h3₁, h4₁⟩
    · rw [isSn_k (hb₁.trans h0₁)]; decide
    · rw [isWd_k h3₁]; decide
  delta w_X12_readSaid_46
  rw [hS₁.2.2.1, hS₁.2.2.2, show (20 : Int32) = nI 20 from rfl, eqN (by omega) (by omega), show (8 : Int32) = nI 8 from rfl, eqN (by omega) (by omega)]
  refine ⟨hM₁.k, fun q₁ => r_bad (k₁ := 4) hM₁ hS₁.1 (fun z₁ => absurd z₁ tk4₁) (fun J₁ f₁ => hbad 4 (tkS₁ B₁ n₁ 200 p₁) ?_ J₁ L₁ f₁.1 f₁.2.1 (frSr_f f₁)), fun q₁ => ⟨fun q8₁ => ?_, fun q8₁ => r_bad (k₁ := 4) hM₁ hS₁.1 (fun z₁ => absurd z₁ tk4₁) (fun J₁ f₁ => hbad 4 (tkS₁ B₁ n₁ 200 p₁) ?_ J₁ L₁ f₁.1 f₁.2.1 (frSr_f f₁))⟩⟩
  · cases d₁ with
    | zero => rw [pOneD, if_neg sp0₁]
    | succ e₁ => rw [pOneD, if_neg sp0₁, if_pos q₁]
  rotate_left
  · cases d₁ with
    | zero => rw [pOneD, if_neg sp0₁]
    | succ e₁ => omega
  obtain ⟨e₁, rfl⟩ : ∃ e₁, d₁ = e₁ + 1 := ⟨d₁ - 1, by omega⟩
  have pok₁ := pOneD_ok (B₁ := B₁) (n₁ := n₁) (lm₁ := 200) (NM₁ := NM₁) (sc₁ := sc₁) e₁
  intro I6₁ g6₁ I7₁ g7₁
  have y7₁ : ∀ y₁, y₁ ≠ 55 → y₁ ≠ 56 → I7₁ m₁ y₁ = I₁ m₁ y₁ := fun y₁ q1₁ q2₁ => by rw [g7₁, mup_k q2₁, g6₁, mup_k q1₁]
  have b7₁ : ∀ c₁, c₁ ≠ m₁ → I7₁ c₁ = I₁ c₁ := fun c₁ q1₁ => by rw [g7₁, mup_ne q1₁, g6₁, mup_ne q1₁]
  have s7₁ : SRN₁ I7₁ L₁ m₁ B₁ n₁ p₁ nd₁ (k₁ + 1) e₁ := ⟨TRS_fr hS₁.1 (b7₁ _ (by omega)) (fun y₁ _ _ => y7₁ y₁ (by omega) (by omega)) rfl, by rw [y7₁ 54 (by decide) (by decide)]; exact hS₁.2.1, by rw [g7₁, mup_k (by decide), g6₁, mup_at, nI_1], by rw [g7₁, mup_at, g6₁, mup_k (by decide), hS₁.2.2.2, nI_1, show 8 - (e₁ + 1) + 1 = 8 - e₁ by omega]⟩
  have f7₁ : frSr m₁ I7₁ I₁ L₁ L₁ := ⟨fun c₁ q1₁ _ => b7₁ c₁ q1₁, fun y₁ _ _ q1₁ q2₁ _ => y7₁ y₁ q1₁ q2₁, fun _ _ => rfl⟩
  refine r_next hM₁ s7₁.1 (fun J₁ M₁ t9₁ f9₁ => ?_)
  have y9₁ : ∀ y₁, 9 < y₁ → J₁ m₁ y₁ = I7₁ m₁ y₁ := fun y₁ q2₁ => f9₁.2.1 y₁ (by omega) (by omega) (by omega) (by omega) (by omega)
  have s9₁ : SRN₁ J₁ M₁ m₁ B₁ n₁ (tkN₁ B₁ n₁ 200 p₁) nd₁ (k₁ + 1) e₁ := ⟨t9₁, by rw [y9₁ 54 (by decide)]; exact s7₁.2.1, by rw [y9₁ 55 (by decide)]; exact s7₁.2.2.1, by rw [y9₁ 56 (by decide)]; exact s7₁.2.2.2⟩
  have fr9₁ : frSr m₁ J₁ I₁ M₁ L₁ := frSr_t (frSr_V f9₁) f7₁
  have e9₁ : J₁ m₁ 10 = I₁ m₁ 10 := by rw [y9₁ 10 (by decide), y7₁ 10 (by decide) (by decide)]
  have c9₁ : J₁ (m₁ + 25) = I₁ (m₁ + 25) := by rw [f9₁.1 _ (by omega), b7₁ _ (by omega)]
  have hN9₁ := NMN_fr hN₁ fr9₁
  have nd60 : nd₁ < 60 := by omega
  have finB : ∀ (e'₁ pl₁ : Nat) (J2₁ : MI) (M2₁ : ML), pOneD B₁ n₁ 200 NM₁ sc₁ (e₁ + 1) k₁ p₁ = .inl (e'₁, pl₁) → J2₁ m₁ 10 = nI e'₁ → J2₁ m₁ 11 = nI pl₁ → frSr m₁ J2₁ J₁ M2₁ M₁ → ∀ I13₁ : MI, I13₁ = mup J2₁ m₁ 56 (J2₁ m₁ 56 - 1) → Q₁ false I13₁ M2₁ := fun e'₁ pl₁ J2₁ M2₁ he₁ j10₁ j11₁ f2₁ I13₁ g13₁ => hbad e'₁ pl₁ he₁ I13₁ M2₁ (by rw [g13₁, mup_k (by decide)]; exact j10₁) (by rw [g13₁, mup_k (by decide)]; exact j11₁) (frSr_t (frSr_y g13₁ (by decide)) (frSr_t f2₁ fr9₁))
  have finO : ∀ (l₁ : List (Nat × Nat × Nat)) (k'₁ q₁ : Nat) (J2₁ : MI) (M2₁ : ML) (t₁ : Nat), pOneD B₁ n₁ 200 NM₁ sc₁ (e₁ + 1) k₁ p₁ = .inr (l₁, k'₁, q₁) → SRN₁ J2₁ M2₁ m₁ B₁ n₁ q₁ (nd₁ + l₁.length) k'₁ e₁ → J2₁ m₁ 57 = nI t₁ → t₁ < nd₁ + l₁.length → trE₁ (J2₁ (m₁ + 25)) (t₁ + 1) l₁ t₁ → (∀ y₁, y₁ < 4 * nd₁ → J2₁ (m₁ + 25) y₁ = J₁ (m₁ + 25) y₁) → J2₁ m₁ 10 = J₁ m₁ 10 → frSr m₁ J2₁ J₁ M2₁ M₁ → ∀ I13₁ : MI, I13₁ = mup J2₁ m₁ 56 (J2₁ m₁ 56 - 1) → Q₁ true I13₁ M2₁ := fun l₁ k'₁ q₁ J2₁ M2₁ t₁ he₁ s2₁ j57₁ ht₁ tr₁ c2₁ j10₁ f2₁ I13₁ g13₁ => by
    rw [s2₁.2.2.2, show 8 - e₁ = (8 - (e₁ + 1)) + 1 by omega, nI_pred] at g13₁
    exact hok₁ l₁ k'₁ q₁ he₁ I13₁ M2₁ t₁ ⟨TRS_fr s2₁.1 (by rw [g13₁, mup_ne (by omega)]) (fun y₁ _ _ => by rw [g13₁, mup_k (by omega)]) rfl, by rw [g13₁, mup_k (by decide)]; exact s2₁.2.1, by rw [g13₁, mup_k (by decide)]; exact s2₁.2.2.1, by rw [g13₁, mup_at]⟩ (by rw [g13₁, mup_k (by decide)]; exact j57₁) ht₁ (by rw [g13₁, mup_ne (by omega)]; exact tr₁) (fun y₁ hy₁ => by rw [g13₁, mup_ne (by omega), c2₁ y₁ hy₁, c9₁]) (by rw [g13₁, mup_k (by decide), j10₁, e9₁]) (frSr_t (frSr_y g13₁ (by decide)) (frSr_t f2₁ fr9₁))
  rw [pOneD, if_neg sp0₁, if_neg q₁] at finB finO
  cases b₁ with
  | true =>
    refine ⟨fun y₁ => absurd y₁ (by decide), fun _ => ?_⟩
    rw [if_pos hb₁] at finB finO
    delta w_X12_readBracket
    refine ⟨hM₁.k, r_or hM₁ (r_and hM₁ (hW₁ e₁ rfl) pok₁) (allP_ok pok₁) J₁ M₁ _ nd₁ (k₁ + 1) _ s9₁ hN9₁ (by omega) (by omega) (fun e'₁ pl₁ he₁ J2₁ M2₁ j10₁ j11₁ f2₁ => ⟨fun y₁ => absurd y₁ (by decide), fun _ => finB e'₁ pl₁ J2₁ M2₁ (by rw [he₁]) j10₁ j11₁ f2₁⟩) (fun l₁ k'₁ q'₁ he₁ J2₁ M2₁ t₁ s2₁ j57₁ ht₁ tr₁ c2₁ j10₁ f2₁ => ⟨fun _ => ?_, fun y₁ => absurd y₁ (by decide)⟩)⟩
    rw [he₁] at finB finO
    refine r_isSign (c₁ := 41) hM₁ s2₁.1 (by decide) ⟨fun es₁ => r_next hM₁ s2₁.1 (fun J3₁ M3₁ t3₁ f3₁ => ?_), fun es₁ => r_bad (k₁ := 1) hM₁ s2₁.1 (fun _ => rfl) (fun J3₁ f3₁ => finB 1 (tkS₁ B₁ n₁ 200 q'₁) J3₁ M2₁ (by simp only [es₁, Bool.false_eq_true, if_false]) f3₁.1 f3₁.2.1 (frSr_t (frSr_f f3₁) f2₁))⟩
    have y3₁ : ∀ y₁, 9 < y₁ → J3₁ m₁ y₁ = J2₁ m₁ y₁ := fun y₁ q2₁ => f3₁.2.1 y₁ (by omega) (by omega) (by omega) (by omega) (by omega)
    exact finO l₁ k'₁ (tkN₁ B₁ n₁ 200 q'₁) J3₁ M3₁ t₁ (by simp only [es₁, if_true]) ⟨t3₁, by rw [y3₁ 54 (by decide)]; exact s2₁.2.1, by rw [y3₁ 55 (by decide)]; exact s2₁.2.2.1, by rw [y3₁ 56 (by decide)]; exact s2₁.2.2.2⟩ (by rw [y3₁ 57 (by decide)]; exact j57₁) ht₁ (by rw [f3₁.1 _ (by omega)]; exact tr₁) (fun y₁ hy₁ => by rw [f3₁.1 _ (by omega)]; exact c2₁ y₁ hy₁) (by rw [y3₁ 10 (by decide)]; exact j10₁) (frSr_t (frSr_V f3₁) f2₁)
  | false =>
    refine ⟨fun _ => ?_, fun y₁ => absurd y₁ (by decide)⟩
    rw [if_neg (by rw [hb₁]; decide)] at finB finO
    obtain ⟨w25₁, w33₁, hwd₁, hsw₁⟩ := hw₁.resolve_left (by decide)
    rw [hsw₁] at finB finO
    rw [show (25 : Int32) = nI 25 from rfl, eqN (by omega) (by omega), show (29 : Int32) = nI 29 from rfl, leN (by omega) (by omega), show (30 : Int32) = nI 30 from rfl, leN (by omega) (by omega)]
    refine ⟨fun a25₁ => ⟨fun a29₁ => ⟨fun a30₁ => ?_, fun a30₁ => ?_⟩, fun a29₁ => ?_⟩, fun a25₁ => ?_⟩
    · have hc₁ : scL₁.getD (w₁ - 25) 0 = 31 ∧ w₁ = 30 ∨ scL₁.getD (w₁ - 25) 0 = 32 ∧ w₁ = 31 ∨ scL₁.getD (w₁ - 25) 0 = 9 ∧ w₁ = 32 ∨ scL₁.getD (w₁ - 25) 0 = 33 ∧ w₁ = 33 := by
        have h9₁ : w₁ = 30 ∨ w₁ = 31 ∨ w₁ = 32 ∨ w₁ = 33 := by omega
        rcases h9₁ with rfl | rfl | rfl | rfl <;> decide
      rw [if_neg (by omega)] at finB finO
      generalize scL₁.getD (w₁ - 25) 0 = c₁ at finB finO hc₁
      exact r_snCmp (NM₁ := NM₁) (sc₁ := sc₁) hM₁ s9₁ nd60 hc₁ (fun e'₁ pl₁ he₁ J2₁ M2₁ j10₁ j11₁ f2₁ => finB e'₁ pl₁ J2₁ M2₁ (by rw [he₁]) j10₁ j11₁ f2₁) (fun l₁ q'₁ he₁ hl₁ J2₁ M2₁ s2₁ j57₁ tr₁ c2₁ j10₁ f2₁ => finO l₁ (k₁ + 1) q'₁ J2₁ M2₁ nd₁ (by rw [he₁]) s2₁ j57₁ (by omega) tr₁ c2₁ j10₁ f2₁)
    · have e29₁ : w₁ = 29 := by omega
      subst e29₁
      rw [show scL₁.getD (29 - 25) 0 = 30 from rfl, if_neg (by decide)] at finB finO
      exact r_snScope hM₁ s9₁ hN9₁ nd60 (fun e'₁ pl₁ he₁ J2₁ j10₁ j11₁ f2₁ => finB e'₁ pl₁ J2₁ M₁ (by rw [he₁]) j10₁ j11₁ f2₁) (fun l₁ q'₁ he₁ hl₁ J2₁ M2₁ s2₁ j57₁ tr₁ c2₁ j10₁ f2₁ => finO l₁ (k₁ + 1) q'₁ J2₁ M2₁ nd₁ (by rw [he₁]) s2₁ j57₁ (by omega) tr₁ c2₁ j10₁ f2₁)
    · have hc₁ : (scL₁.getD (w₁ - 25) 0 = 28 ∨ scL₁.getD (w₁ - 25) 0 = 29 ∨ scL₁.getD (w₁ - 25) 0 = 7) ∧ 50 + wpL₁.getD (scL₁.getD (w₁ - 25) 0) 0 = 50 + w₁ := by
        have h9₁ : w₁ = 26 ∨ w₁ = 27 ∨ w₁ = 28 := by omega
        rcases h9₁ with rfl | rfl | rfl <;> decide
      generalize scL₁.getD (w₁ - 25) 0 = c₁ at finB finO hc₁
      have pl₁ : pLef B₁ n₁ 200 NM₁ sc₁ c₁ (tkN₁ B₁ n₁ 200 p₁) = .inr ([(c₁, 0, 0)], tkN₁ B₁ n₁ 200 p₁) := by rw [pLef, if_pos hc₁.1]
      rw [if_neg (by omega), pl₁] at finO
      rw [show (50 : Int32) = nI 50 from rfl, addN, ← hc₁.2]
      refine r_saysOne hM₁ s9₁.2.1 nd60 (fun J3₁ q54₁ z0₁ z1₁ z2₁ z3₁ zl₁ zb₁ zy₁ I20₁ g20₁ => finO [(c₁, 0, 0)] (k₁ + 1) (tkN₁ B₁ n₁ 200 p₁) I20₁ M₁ nd₁ rfl ⟨TRS_fr s9₁.1 (by rw [g20₁, mup_ne (by omega)]; exact zb₁ _ (by omega) (by omega)) (fun y₁ _ _ => by rw [g20₁, mup_k (by omega)]; exact zy₁ y₁ (by omega)) rfl, by rw [g20₁, mup_k (by decide)]; exact q54₁, by rw [g20₁, mup_k (by decide), zy₁ 55 (by decide)]; exact s9₁.2.2.1, by rw [g20₁, mup_k (by decide), zy₁ 56 (by decide)]; exact s9₁.2.2.2⟩ (by rw [g20₁, mup_at]) (Nat.lt_succ_self nd₁) ?_ (fun y₁ hy₁ => by rw [g20₁, mup_ne (by omega)]; exact zl₁ y₁ hy₁) (by rw [g20₁, mup_k (by decide), zy₁ 10 (by decide)]) (frSr_t (frSr_y g20₁ (by decide)) (frSr_s zb₁ zy₁)))
      rw [trE₁, g20₁, mup_ne (by omega)]
      exact Or.inl ⟨c₁, 0, 0, rfl, z0₁, Or.inl hc₁.1⟩
    · subst a25₁
      rw [show scL₁.getD (25 - 25) 0 = 27 from rfl, if_pos rfl] at finB finO
      delta w_X12_readNot
      refine ⟨hM₁.k, hW₁ e₁ rfl J₁ M₁ _ nd₁ (k₁ + 1) _ s9₁ hN9₁ (by omega) (by omega) (fun e'₁ pl₁ he₁ J2₁ M2₁ j10₁ j11₁ f2₁ => ⟨fun y₁ => absurd y₁ (by decide), fun _ => finB e'₁ pl₁ J2₁ M2₁ (by rw [he₁]) j10₁ j11₁ f2₁⟩) (fun l₁ k'₁ q'₁ he₁ J2₁ M2₁ t₁ s2₁ j57₁ ht₁ tr₁ c2₁ j10₁ f2₁ => ⟨fun _ => ?_, fun y₁ => absurd y₁ (by decide)⟩)⟩
      obtain ⟨o1₁, o2₁, o3₁⟩ := pok₁ _ _ _ _ _ (by omega) he₁
      rw [he₁] at finO
      rw [j57₁]
      have ll₁ : nd₁ + (l₁ ++ [(27, 0, 0)] : List (Nat × Nat × Nat)).length = nd₁ + l₁.length + 1 := by rw [List.length_append, List.length_singleton]; omega
      refine r_saysOne hM₁ s2₁.2.1 (by omega) (fun J3₁ q54₁ z0₁ z1₁ z2₁ z3₁ zl₁ zb₁ zy₁ I20₁ g20₁ => finO (l₁ ++ [(27, 0, 0)]) k'₁ q'₁ I20₁ M2₁ (nd₁ + l₁.length) rfl ⟨TRS_fr s2₁.1 (by rw [g20₁, mup_ne (by omega)]; exact zb₁ _ (by omega) (by omega)) (fun y₁ _ _ => by rw [g20₁, mup_k (by omega)]; exact zy₁ y₁ (by omega)) rfl, by rw [g20₁, mup_k (by decide), ll₁]; exact q54₁, by rw [g20₁, mup_k (by decide), zy₁ 55 (by decide)]; exact s2₁.2.2.1, by rw [g20₁, mup_k (by decide), zy₁ 56 (by decide)]; exact s2₁.2.2.2⟩ (by rw [g20₁, mup_at]) (by omega) ?_ (fun y₁ hy₁ => by rw [g20₁, mup_ne (by omega), zl₁ y₁ (by omega)]; exact c2₁ y₁ hy₁) (by rw [g20₁, mup_k (by decide), zy₁ 10 (by decide)]; exact j10₁) (frSr_t (frSr_y g20₁ (by decide)) (frSr_t (frSr_s zb₁ zy₁) f2₁)))
      rw [trE₁, g20₁, mup_ne (by omega)]
      exact Or.inr (Or.inl ⟨l₁, t₁, rfl, ht₁, z0₁, z1₁, trE_m _ _ _ _ (by omega) (trE_fr _ _ _ (fun y₁ hy₁ => zl₁ y₁ (by omega)) tr₁)⟩)
theorem r_said {d₁ : Nat} {W₁ : Nat → MK → MK → MI → ML → MR → (Bool → MI → ML → Prop) → Prop} (hM₁ : MDL K₁ N₁ R₁ m₁) (hd₁ : d₁ ≤ 8) (hW₁ : ∀ e₁, d₁ = e₁ + 1 → RSP₁ K₁ N₁ R₁ m₁ B₁ n₁ NM₁ sc₁ W₁ e₁ (pOneD B₁ n₁ 200 NM₁ sc₁ e₁)) : RSP₁ K₁ N₁ R₁ m₁ B₁ n₁ NM₁ sc₁ (w_X12_readSaid (w_X12_readBracket (w_X12_readOr (w_X12_readAnd W₁))) (w_X12_readNot W₁)) d₁ (pOneD B₁ n₁ 200 NM₁ sc₁ d₁) := by
  intro I₁ L₁ p₁ nd₁ k₁ Q₁ hS₁ hN₁ hk₁ hnd₁ hbad hok₁
  delta w_X12_readSaid
  refine ⟨hM₁.k, r_isSign (c₁ := 40) hM₁ hS₁.1 (by decide) ?_⟩
  delta w_X12_readSaid_10
  refine ⟨fun n1₁ y0₁ y1₁ y2₁ I1₁ L1₁ => y0₁ = m₁ ∧ y1₁ = isSn B₁ n₁ 200 p₁ 40 ∧ I1₁ = I₁ ∧ L1₁ = L₁ ∧ ∃ i₁, y2₁ = nI (25 + i₁) ∧ i₁ ≤ 9 ∧ n1₁ = 9 - i₁ ∧ ∀ j₁, j₁ < i₁ → isWd B₁ n₁ 200 p₁ (25 + j₁) = false, ⟨9, rfl, rfl, rfl, rfl, 0, rfl, by decide, rfl, fun j₁ hj₁ => absurd hj₁ (Nat.not_lt_zero j₁)⟩, ?_⟩
  rintro n1₁ y0₁ y1₁ y2₁ I1₁ L1₁ ⟨e1₁, e2₁, e3₁, e4₁, i₁, e5₁, hi₁, e6₁, hw₁⟩
  subst e1₁ e2₁ e3₁ e4₁ e5₁ e6₁
  rw [show (33 : Int32) = nI 33 from rfl, ltN (by omega) (by omega)]
  have go₁ : ∀ w₁ : Nat, w₁ = 25 + i₁ → (w₁ ≤ 33 → isWd B₁ n₁ 200 p₁ w₁ = true) → w_X12_readSaid_30 (w_X12_readBracket (w_X12_readOr (w_X12_readAnd W₁))) (w_X12_readNot W₁) y0₁ (isSn B₁ n₁ 200 p₁ 40) (nI w₁) K₁ N₁ I1₁ L1₁ R₁ Q₁ := fun w₁ ew₁ hww₁ => by
    delta w_X12_readSaid_30
    rw [show (33 : Int32) = nI 33 from rfl, leN (by omega) (by omega)]
    refine ⟨fun yb₁ => r_said46 hM₁ hd₁ hW₁ hS₁ hN₁ hk₁ hnd₁ rfl (Or.inl yb₁) hbad hok₁, fun nb₁ => ⟨fun w33₁ => r_said46 hM₁ hd₁ hW₁ hS₁ hN₁ hk₁ hnd₁ rfl (Or.inr ⟨by omega, w33₁, hww₁ w33₁, ?_⟩) hbad hok₁, fun w33₁ => ⟨hM₁.k, r_bad (k₁ := 1) hM₁ hS₁.1 (fun _ => rfl) (fun J₁ f₁ => hbad 1 (tkS₁ B₁ n₁ 200 p₁) ?_ J₁ L1₁ f₁.1 f₁.2.1 (frSr_f f₁))⟩⟩⟩
    · rw [show w₁ - 25 = i₁ by omega]
      exact swK_i (by omega) hw₁ (by rw [← ew₁]; exact hww₁ w33₁)
    · have z₁ : swK₁ B₁ n₁ 200 p₁ = 0 := swK_no (fun j₁ hj₁ => hw₁ j₁ (by omega))
      cases d₁ with
      | zero => rw [pOneD, if_pos ⟨nb₁, z₁⟩]
      | succ e₁ => rw [pOneD, if_pos ⟨nb₁, z₁⟩]
  refine ⟨fun q₁ => go₁ _ rfl (fun z₁ => by omega), fun q₁ => ⟨hM₁.k, r_isWord hM₁ hS₁.1 (by omega) ⟨fun w₁ => go₁ _ rfl (fun _ => w₁), fun w₁ v37₁ g37₁ => ⟨9 - (i₁ + 1), by omega, rfl, rfl, rfl, rfl, i₁ + 1, by rw [g37₁, nI_1]; rfl, by omega, rfl, fun j₁ hj₁ => ?_⟩⟩⟩⟩
  by_cases q2₁ : j₁ = i₁
  · rw [q2₁]; exact w₁
  · exact hw₁ j₁ (by omega)
theorem r_saidD (hM₁ : MDL K₁ N₁ R₁ m₁) : ∀ e₁ d₁, d₁ ≤ 8 → d₁ < e₁ → RSP₁ K₁ N₁ R₁ m₁ B₁ n₁ NM₁ sc₁ (wd_X12_readSaid e₁) d₁ (pOneD B₁ n₁ 200 NM₁ sc₁ d₁)
  | 0, d₁, _, h₁ => absurd h₁ (Nat.not_lt_zero d₁)
  | e₁ + 1, d₁, hd₁, h₁ => by
    rw [wd_X12_readSaid]
    exact r_said hM₁ hd₁ (fun e'₁ he₁ => r_saidD hM₁ e₁ e'₁ (by omega) (by omega))
end RS₁
