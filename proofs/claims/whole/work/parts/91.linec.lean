/-! ===== names and ranges read: the class ===== -/
section UN₁
variable {K₁ N₁ : MK} {I₁ : MI} {L₁ : ML} {R₁ : MR} {n₁ lm₁ p₁ x₁ g₁ u₁ t₁ tb₁ mm₁ w₁ c₁ b₁ S₁ : Nat} {B₁ : Nat → Nat} {U₁ : Nat → Int32} {NM₁ : Nat → List Nat} {l₁ : List Nat}
theorem s_isNameTold {Q₁ : Bool → Prop} (hL₁ : UL K₁ N₁ R₁ u₁) (hD₁ : UD I₁ L₁ u₁ U₁ (eNM₁ NM₁)) (hN₁ : NOK₁ U₁ NM₁) (hl₁ : wdOK l₁) (h₁ : Q₁ (tdN₁ U₁ NM₁ l₁)) : w_X9_isNameTold u₁ (encB 32 l₁) K₁ N₁ I₁ L₁ R₁ Q₁ := by
  have t2₁ := hL₁.2.2.2.2.2.2.2.1
  have t3₁ := hL₁.2.2.2.2.2.2.2.2.1
  have t4₁ := hL₁.2.2.2.2.2.2.2.2.2.1
  have d2₁ := hD₁.2.2.1
  have d3₁ := hD₁.2.2.2.1
  have d4₁ := hD₁.2.2.2.2.1
  rw [tdN₁] at h₁
  refine ⟨hL₁.1, _, hL₁.2.2.1, t2₁.1, s_find (b₁ := 0) t2₁ d2₁.1 hl₁ hN₁.1 (fun k₁ hk₁ => by rw [Nat.zero_add]; exact nm_of (by have := hN₁.1 k₁ hk₁; rw [Nat.zero_add] at this; exact this) (d2₁.2 k₁ hk₁).2.2.2.2) ⟨fun z₁ => ?_, fun z₁ => ⟨_, hL₁.2.2.2.1, t3₁.1, s_find (b₁ := 10) t3₁ d3₁.1 hl₁ hN₁.2.1 (fun k₁ hk₁ => nm_of (hN₁.2.1 k₁ hk₁) (d3₁.2 k₁ hk₁).2.2.2) ⟨fun y₁ => ?_, fun y₁ => ⟨_, hL₁.2.2.2.2.1, t4₁.1, s_find (b₁ := 16) t4₁ d4₁.1 hl₁ hN₁.2.2 (fun k₁ hk₁ => nm_of (hN₁.2.2 k₁ hk₁) (d4₁.2 k₁ hk₁).2.2) ⟨fun q₁ => ?_, fun q₁ => ?_⟩⟩⟩⟩⟩⟩
  · rw [decide_eq_false z₁] at h₁; exact h₁
  · rw [decide_eq_true z₁, decide_eq_false y₁] at h₁; exact h₁
  · rw [decide_eq_true z₁, decide_eq_true y₁, decide_eq_true q₁] at h₁; exact h₁
  · rw [decide_eq_true z₁, decide_eq_true y₁, decide_eq_false q₁] at h₁; exact h₁
/-- a new name read into a table of the draft -/
theorem s_readNewName {Q₁ : Bool → MI → ML → Prop} (hX₁ : PDL K₁ N₁ R₁ x₁) (hT₁ : TCS₁ K₁ N₁ R₁ I₁ L₁ (x₁ + 1) B₁ n₁ lm₁ p₁) (hD₁ : UD I₁ L₁ (x₁ + 37) U₁ (eNM₁ NM₁)) (hN₁ : NOK₁ U₁ NM₁) (hTb₁ : TL K₁ N₁ R₁ tb₁ mm₁ w₁) (hd₁ : TD I₁ tb₁ mm₁ w₁ c₁) (hc₁ : c₁ < mm₁) (htb₁ : x₁ + 37 < tb₁)
    (h1₁ : isNm B₁ n₁ lm₁ p₁ = false → ∀ J₁, flC₁ (x₁ + 1) 1 (tkS₁ B₁ n₁ lm₁ p₁) J₁ I₁ → Q₁ false J₁ L₁) (h3₁ : isNm B₁ n₁ lm₁ p₁ = true → tdN₁ U₁ NM₁ (tkW₁ B₁ n₁ p₁) = true → ∀ J₁, flC₁ (x₁ + 1) 3 (tkS₁ B₁ n₁ lm₁ p₁) J₁ I₁ → Q₁ false J₁ L₁)
    (h0₁ : isNm B₁ n₁ lm₁ p₁ = true → tdN₁ U₁ NM₁ (tkW₁ B₁ n₁ p₁) = false → wdOK (tkW₁ B₁ n₁ p₁) → ∀ J₁ M₁, TCS₁ K₁ N₁ R₁ J₁ M₁ (x₁ + 1) B₁ n₁ lm₁ (tkN₁ B₁ n₁ lm₁ p₁) → TD J₁ tb₁ mm₁ w₁ (c₁ + 1) → M₁ (tb₁ + 1) c₁ = encB 32 (tkW₁ B₁ n₁ p₁) → (∀ b₁, b₁ ≠ x₁ + 1 → b₁ ≠ tb₁ → J₁ b₁ = I₁ b₁) → (∀ b₁, b₁ ≠ x₁ + 1 → b₁ ≠ tb₁ + 1 → M₁ b₁ = L₁ b₁) → (∀ k₁, k₁ ≠ c₁ → M₁ (tb₁ + 1) k₁ = L₁ (tb₁ + 1) k₁) → J₁ (x₁ + 1) 10 = I₁ (x₁ + 1) 10 → Q₁ true J₁ M₁) : w_X10_readNewName (x₁ + 36) (x₁ + 1) tb₁ K₁ N₁ I₁ L₁ R₁ Q₁ := by
  refine ⟨hX₁.tok, s_needsName hT₁ (fun e₁ k1₁ e6₁ => ⟨fun _ => ⟨hX₁.urd, _, hX₁.urd_r, hX₁.urd_u.1, ?_⟩, fun y₁ => absurd y₁ (by decide)⟩) (fun e₁ J₁ f₁ => ⟨fun y₁ => absurd y₁ (by decide), fun _ => h1₁ e₁ J₁ f₁⟩)⟩
  have hw₁ := tkW_ok k1₁
  rw [e6₁]
  refine s_isNameTold hX₁.urd_u hD₁ hN₁ hw₁ ⟨fun z₁ => ⟨hTb₁.1, s_add hTb₁ hd₁ hc₁ ?_⟩, fun z₁ => s_failT (k₁ := 3) hT₁ (h3₁ e₁ z₁)⟩
  have td1₁ : TD (mup I₁ tb₁ 3 (nI (c₁ + 1))) tb₁ mm₁ w₁ (c₁ + 1) := hd₁.many (by omega)
  have t1₁ : TCS₁ K₁ N₁ R₁ (mup I₁ tb₁ 3 (nI (c₁ + 1))) (mup L₁ (tb₁ + 1) c₁ (encB 32 (tkW₁ B₁ n₁ p₁))) (x₁ + 1) B₁ n₁ lm₁ p₁ := TCS_fr hT₁ (mup_ne (by omega)) (fun y₁ _ _ => by rw [mup_ne (by omega)]) (mup_ne (by omega))
  refine s_next t1₁ (fun J₁ M₁ t2₁ f2₁ => h0₁ e₁ z₁ hw₁ J₁ M₁ t2₁ (td1₁.fr (f2₁.1 _ (by omega))) ?_ (fun b₁ q1₁ q2₁ => by rw [f2₁.1 b₁ q1₁, mup_ne q2₁]) (fun b₁ q1₁ q2₁ => by rw [f2₁.2.2 b₁ q1₁, mup_ne q2₁]) (fun k₁ q₁ => by rw [f2₁.2.2 _ (by omega), mup_k q₁]) ?_)
  · rw [f2₁.2.2 _ (by omega), mup_at]
  · rw [frK_10 f2₁, mup_ne (by omega)]
theorem s_readToldName {Q₁ : Int32 → MI → ML → Prop} (hT₁ : TCS₁ K₁ N₁ R₁ I₁ L₁ t₁ B₁ n₁ lm₁ p₁) (hTb₁ : TL K₁ N₁ R₁ tb₁ mm₁ w₁) (hd₁ : TD I₁ tb₁ mm₁ w₁ c₁) (hok₁ : ∀ k₁, k₁ < c₁ → wdOK (NM₁ (b₁ + k₁))) (hNm₁ : ∀ k₁, k₁ < c₁ → L₁ (tb₁ + 1) k₁ = encB 32 (NM₁ (b₁ + k₁)))
    (h1₁ : isNm B₁ n₁ lm₁ p₁ = false → ∀ J₁, flC₁ t₁ 1 (tkS₁ B₁ n₁ lm₁ p₁) J₁ I₁ → Q₁ (-1) J₁ L₁) (h3₁ : isNm B₁ n₁ lm₁ p₁ = true → fndS NM₁ b₁ c₁ (tkW₁ B₁ n₁ p₁) = -1 → ∀ J₁, flC₁ t₁ 3 (tkS₁ B₁ n₁ lm₁ p₁) J₁ I₁ → Q₁ (-1) J₁ L₁)
    (h0₁ : isNm B₁ n₁ lm₁ p₁ = true → ∀ k₁, fndS NM₁ b₁ c₁ (tkW₁ B₁ n₁ p₁) = nI k₁ → k₁ < c₁ → ∀ J₁ M₁, TCS₁ K₁ N₁ R₁ J₁ M₁ t₁ B₁ n₁ lm₁ (tkN₁ B₁ n₁ lm₁ p₁) → frK₁ t₁ J₁ I₁ M₁ L₁ → Q₁ (nI k₁) J₁ M₁) : w_X10_readToldName g₁ t₁ tb₁ K₁ N₁ I₁ L₁ R₁ Q₁ := by
  have hc₁ : c₁ < 100000 := by have := hTb₁.2.2.2.2.2.2.2.2.1; have := hd₁.2.2; omega
  refine ⟨hT₁.1.1, s_needsName hT₁ (fun e₁ k1₁ e6₁ => ⟨fun _ => ⟨hTb₁.1, ?_⟩, fun y₁ => absurd y₁ (by decide)⟩) (fun e₁ J₁ f₁ => ⟨fun y₁ => absurd y₁ (by decide), fun _ => h1₁ e₁ J₁ f₁⟩)⟩
  rw [e6₁]
  refine s_find (b₁ := b₁) hTb₁ hd₁ (tkW_ok k1₁) hok₁ hNm₁ ⟨fun z₁ => ?_, fun z₁ => s_failT (k₁ := 3) hT₁ (fun J₁ f₁ => by rw [z₁]; exact h3₁ e₁ z₁ J₁ f₁)⟩
  obtain ⟨k₁, hk₁, ek₁⟩ := (fndS_or NM₁ b₁ c₁ (tkW₁ B₁ n₁ p₁)).resolve_left z₁
  rw [ek₁]
  exact s_next hT₁ (h0₁ e₁ k₁ ek₁ hk₁)
/-- FROM and TO read, the TO not passed -/
theorem s_readRange {k₁ : Nat} {Q₁ : Bool → MI → ML → Prop} (hX₁ : PDL K₁ N₁ R₁ x₁) (hT₁ : TCS₁ K₁ N₁ R₁ I₁ L₁ (x₁ + 1) B₁ n₁ lm₁ p₁) (hS₁ : I₁ (x₁ + 37) 0 = nI S₁) (hS1₁ : 1 ≤ S₁) (hS2₁ : S₁ ≤ 256) (hTb₁ : TL K₁ N₁ R₁ tb₁ mm₁ w₁) (hd₁ : TD I₁ tb₁ mm₁ w₁ c₁) (hk₁ : k₁ < c₁) (hw₁ : 1 < w₁) (htb₁ : x₁ + 37 < tb₁)
    (h1₁ : nmS₁ B₁ n₁ lm₁ p₁ 0 (S₁ - 1) ≠ 0 → ∀ J₁, flC₁ (x₁ + 1) (nmS₁ B₁ n₁ lm₁ p₁ 0 (S₁ - 1)) (tkS₁ B₁ n₁ lm₁ p₁) J₁ I₁ → Q₁ false J₁ L₁)
    (h2₁ : nmS₁ B₁ n₁ lm₁ p₁ 0 (S₁ - 1) = 0 → nmS₁ B₁ n₁ lm₁ (tkN₁ B₁ n₁ lm₁ p₁) (tkV₁ B₁ n₁ p₁ + 1) S₁ ≠ 0 → ∀ J₁ M₁ J2₁, frK₁ (x₁ + 1) J₁ I₁ M₁ L₁ → flC₁ (x₁ + 1) (nmS₁ B₁ n₁ lm₁ (tkN₁ B₁ n₁ lm₁ p₁) (tkV₁ B₁ n₁ p₁ + 1) S₁) (tkS₁ B₁ n₁ lm₁ (tkN₁ B₁ n₁ lm₁ p₁)) J2₁ J₁ → Q₁ false J2₁ M₁)
    (h0₁ : nmS₁ B₁ n₁ lm₁ p₁ 0 (S₁ - 1) = 0 → nmS₁ B₁ n₁ lm₁ (tkN₁ B₁ n₁ lm₁ p₁) (tkV₁ B₁ n₁ p₁ + 1) S₁ = 0 → tkK₁ B₁ n₁ lm₁ (tkN₁ B₁ n₁ lm₁ p₁) = 2 → tkV₁ B₁ n₁ p₁ < tkV₁ B₁ n₁ (tkN₁ B₁ n₁ lm₁ p₁) → tkV₁ B₁ n₁ (tkN₁ B₁ n₁ lm₁ p₁) ≤ S₁ → ∀ J₁ M₁, TCS₁ K₁ N₁ R₁ J₁ M₁ (x₁ + 1) B₁ n₁ lm₁ (tkN₁ B₁ n₁ lm₁ p₁) → TD J₁ tb₁ mm₁ w₁ c₁ → J₁ (tb₁ + 2) (k₁ * w₁ + 0) = nI (tkV₁ B₁ n₁ p₁) → J₁ (tb₁ + 2) (k₁ * w₁ + 1) = nI (tkV₁ B₁ n₁ (tkN₁ B₁ n₁ lm₁ p₁)) → (∀ b₁, b₁ ≠ x₁ + 1 → b₁ ≠ tb₁ + 2 → J₁ b₁ = I₁ b₁) → (∀ j₁, j₁ ≠ k₁ * w₁ + 0 → j₁ ≠ k₁ * w₁ + 1 → J₁ (tb₁ + 2) j₁ = I₁ (tb₁ + 2) j₁) → (∀ b₁, b₁ ≠ x₁ + 1 → M₁ b₁ = L₁ b₁) → J₁ (x₁ + 1) 10 = I₁ (x₁ + 1) 10 → Q₁ true J₁ M₁) : w_X10_readRange (x₁ + 36) (x₁ + 1) tb₁ (nI k₁) K₁ N₁ I₁ L₁ R₁ Q₁ := by
  refine ⟨hX₁.urd, _, hX₁.urd_r, hX₁.urd_u.1, hX₁.tok, ?_⟩
  rw [hS₁, show nI S₁ - 1 = nI (S₁ - 1) from by rw [show (1 : Int32) = nI 1 from rfl, subN hS1₁]]
  refine s_needsNumber (lo₁ := 0) hT₁ (by decide) (by omega) (fun e0₁ k2₁ v1₁ v2₁ e8₁ => ⟨fun _ v7₁ g7₁ => ?_, fun y₁ => absurd y₁ (by decide)⟩) (fun e₁ J₁ f₁ => ⟨fun y₁ => absurd y₁ (by decide), fun _ => h1₁ e₁ J₁ f₁⟩)
  rw [e8₁] at g7₁
  subst g7₁
  refine s_next hT₁ (fun J1₁ M1₁ t1₁ f1₁ => ?_)
  rw [f1₁.1 (x₁ + 37) (by omega), hS₁, nI_1]
  refine s_needsNumber t1₁ (by omega) (by omega) (fun e0'₁ k2'₁ v1'₁ v2'₁ e8'₁ => ⟨fun _ => ⟨hTb₁.1, ?_⟩, fun y₁ => absurd y₁ (by decide)⟩) (fun e₁ J₁ f₁ => ⟨fun y₁ => absurd y₁ (by decide), fun _ => h2₁ e0₁ e₁ J1₁ M1₁ J₁ f1₁ f₁⟩)
  have td1₁ := hd₁.fr (f1₁.1 tb₁ (by omega))
  refine s_put (c₁ := 0) hTb₁ td1₁ hk₁ (by omega) ?_
  rw [mup_ne (by omega), e8'₁]
  refine s_put (n₁ := c₁) (c₁ := 1) hTb₁ (td1₁.fr (mup_ne (by omega))) hk₁ hw₁ (h0₁ e0₁ e0'₁ k2'₁ (by omega) v2'₁ _ M1₁ (TCS_fr t1₁ (by rw [mup_ne (by omega), mup_ne (by omega)]) (fun y₁ _ _ => by rw [mup_ne (by omega), mup_ne (by omega)]) rfl) ((td1₁.fr (mup_ne (by omega))).fr (mup_ne (by omega))) ?_ ?_ (fun b₁ q1₁ q2₁ => by rw [mup_ne q2₁, mup_ne q2₁, f1₁.1 b₁ q1₁]) (fun j₁ q1₁ q2₁ => by rw [mup_k q2₁, mup_k q1₁, f1₁.1 _ (by omega)]) f1₁.2.2 ?_)
  · rw [mup_k (by omega), mup_at]
  · rw [mup_at]
  · rw [mup_ne (by omega), mup_ne (by omega), frK_10 f1₁]
theorem s_cutsScope {f₁ v₁ : Int32} {lo₁ hi₁ : Nat → Int32} {Q₁ : Bool → Prop} (hL₁ : UL K₁ N₁ R₁ u₁) (hd₁ : TD I₁ (u₁ + 4) 10 4 c₁) (hrow : ∀ k₁, k₁ < c₁ → I₁ (u₁ + 4 + 2) (k₁ * 4 + 0) = lo₁ k₁ ∧ I₁ (u₁ + 4 + 2) (k₁ * 4 + 1) = hi₁ k₁) (h₁ : Q₁ (cutG lo₁ hi₁ f₁ v₁ c₁ 0)) : w_X9_cutsScope u₁ f₁ v₁ K₁ N₁ I₁ L₁ R₁ Q₁ := by
  have t2₁ := hL₁.2.2.2.2.2.2.2.1
  have hc₁ := hd₁.2.2
  delta w_X9_cutsScope w_X9_cutsScope_2
  refine ⟨fun n1₁ y0₁ y1₁ y2₁ y3₁ => y0₁ = u₁ ∧ y1₁ = f₁ ∧ y2₁ = v₁ ∧ ∃ i₁, i₁ ≤ c₁ ∧ n1₁ = c₁ - i₁ ∧ y3₁ = nI i₁ ∧ cutG lo₁ hi₁ f₁ v₁ (c₁ - i₁) i₁ = cutG lo₁ hi₁ f₁ v₁ c₁ 0, ⟨c₁, rfl, rfl, rfl, 0, by omega, rfl, rfl, rfl⟩, ?_⟩
  rintro n1₁ y0₁ y1₁ y2₁ y3₁ ⟨rfl, rfl, rfl, i₁, hi1₁, rfl, rfl, hB₁⟩
  refine ⟨hL₁.1, _, hL₁.2.2.1, t2₁.1, ?_⟩
  rw [hd₁.2.1, leN (by omega) (by omega)]
  refine ⟨fun z₁ => ?_, fun z₁ => s_at t2₁ hd₁ ?_⟩
  · rw [show c₁ - i₁ = 0 by omega, cutG] at hB₁
    rw [hB₁]; exact h₁
  rw [show (0 : Int32) = nI 0 from rfl, tat_in (by omega) (by omega) (by omega) (by omega), (hrow i₁ (by omega)).1]
  refine s_at t2₁ hd₁ ?_
  rw [show (1 : Int32) = nI 1 from rfl, tat_in (by omega) (by omega) (by omega) (by omega), (hrow i₁ (by omega)).2]
  have hB2₁ : cutG lo₁ hi₁ y1₁ y2₁ (c₁ - (i₁ + 1) + 1) i₁ = cutG lo₁ hi₁ y1₁ y2₁ c₁ 0 := by rw [show c₁ - (i₁ + 1) + 1 = c₁ - i₁ by omega]; exact hB₁
  rw [cutG] at hB2₁
  have next : cutP y1₁ y2₁ (lo₁ i₁) (hi₁ i₁) = false → ∀ v10₁ : Int32, v10₁ = nI i₁ + nI 1 → ∃ n1₁, n1₁ < c₁ - i₁ ∧ ((fun n1₁ y0'₁ y1'₁ y2'₁ y3₁ => y0'₁ = y0₁ ∧ y1'₁ = y1₁ ∧ y2'₁ = y2₁ ∧ ∃ i₁, i₁ ≤ c₁ ∧ n1₁ = c₁ - i₁ ∧ y3₁ = nI i₁ ∧ cutG lo₁ hi₁ y1₁ y2₁ (c₁ - i₁) i₁ = cutG lo₁ hi₁ y1₁ y2₁ c₁ 0 : Nat → Nat → Int32 → Int32 → Int32 → Prop) n1₁ y0₁ y1₁ y2₁ v10₁) := fun e₁ v10₁ g10₁ => by
    rw [if_neg (by rw [e₁]; decide)] at hB2₁
    exact ⟨c₁ - (i₁ + 1), by omega, rfl, rfl, rfl, i₁ + 1, by omega, rfl, by rw [g10₁, addN], hB2₁⟩
  have yes₁ : cutP y1₁ y2₁ (lo₁ i₁) (hi₁ i₁) = true → Q₁ true := fun e₁ => by
    rw [if_pos e₁] at hB2₁
    rw [← hB2₁] at h₁; exact h₁
  have s52₁ : ∀ s0₁ : Int32, (s0₁ = nI 1 ∨ s0₁ = nI 0) → ((y2₁ ≤ lo₁ i₁ ∨ ¬ y1₁ < hi₁ i₁) ↔ s0₁ = nI 1) → w_X9_cutsScope_52 y0₁ y1₁ y2₁ (nI i₁) (lo₁ i₁) (hi₁ i₁) s0₁ K₁ N₁ I₁ L₁ R₁ (fun z0₁ z1₁ z2₁ z3₁ => ∃ n1₁, n1₁ < c₁ - i₁ ∧ ((fun n1₁ y0'₁ y1'₁ y2'₁ y3₁ => y0'₁ = y0₁ ∧ y1'₁ = y1₁ ∧ y2'₁ = y2₁ ∧ ∃ i₁, i₁ ≤ c₁ ∧ n1₁ = c₁ - i₁ ∧ y3₁ = nI i₁ ∧ cutG lo₁ hi₁ y1₁ y2₁ (c₁ - i₁) i₁ = cutG lo₁ hi₁ y1₁ y2₁ c₁ 0 : Nat → Nat → Int32 → Int32 → Int32 → Prop) n1₁ z0₁ z1₁ z2₁ z3₁)) Q₁ := by
    intro s0₁ hs0₁ hap₁
    have key₁ : cutP y1₁ y2₁ (lo₁ i₁) (hi₁ i₁) = (decide (s0₁ = nI 0) && !(!(decide (y1₁ < lo₁ i₁)) && decide (y2₁ ≤ hi₁ i₁)) && !(!(decide (lo₁ i₁ < y1₁)) && !(decide (y2₁ < hi₁ i₁)))) := by
      rw [cutP]
      rcases hs0₁ with e₁ | e₁
      · have := hap₁.mpr e₁
        rw [e₁, decide_eq_false (show ¬ nI 1 = nI 0 by decide)]
        rcases this with z₁ | z₁
        · rw [decide_eq_true z₁]; rfl
        · rw [decide_eq_false z₁]; simp
      · have no₁ : ¬ (y2₁ ≤ lo₁ i₁ ∨ ¬ y1₁ < hi₁ i₁) := fun z₁ => by rw [hap₁.mp z₁] at e₁; exact absurd e₁ (by decide)
        rw [e₁, decide_eq_true (show nI 0 = nI 0 from rfl), decide_eq_false (fun z₁ => no₁ (Or.inl z₁)), decide_eq_true (Decidable.not_not.mp (fun z₁ => no₁ (Or.inr z₁)))]; rfl
    have z01₁ : ∀ {s₁ : Int32}, (s₁ = nI 1 ∨ s₁ = nI 0) → ((s₁ = 0) = (s₁ = nI 0)) := fun _ => rfl
    delta w_X9_cutsScope_52
    have s66₁ : (y1₁ < lo₁ i₁ ∨ ¬ y2₁ ≤ hi₁ i₁) → w_X9_cutsScope_66 y0₁ y1₁ y2₁ (nI i₁) (lo₁ i₁) (hi₁ i₁) s0₁ K₁ N₁ I₁ L₁ R₁ (fun z0₁ z1₁ z2₁ z3₁ => ∃ n1₁, n1₁ < c₁ - i₁ ∧ ((fun n1₁ y0'₁ y1'₁ y2'₁ y3₁ => y0'₁ = y0₁ ∧ y1'₁ = y1₁ ∧ y2'₁ = y2₁ ∧ ∃ i₁, i₁ ≤ c₁ ∧ n1₁ = c₁ - i₁ ∧ y3₁ = nI i₁ ∧ cutG lo₁ hi₁ y1₁ y2₁ (c₁ - i₁) i₁ = cutG lo₁ hi₁ y1₁ y2₁ c₁ 0 : Nat → Nat → Int32 → Int32 → Int32 → Prop) n1₁ z0₁ z1₁ z2₁ z3₁)) Q₁ := by
      intro hout
      have k2₁ : (!(!(decide (y1₁ < lo₁ i₁)) && decide (y2₁ ≤ hi₁ i₁))) = true := by
        rcases hout with z₁ | z₁
        · rw [decide_eq_true z₁]; rfl
        · rw [decide_eq_false z₁]; simp
      rw [k2₁, Bool.and_true] at key₁
      have no₁ : ¬ s0₁ = 0 → cutP y1₁ y2₁ (lo₁ i₁) (hi₁ i₁) = false := fun z₁ => by rw [key₁, decide_eq_false (show ¬ s0₁ = nI 0 from z₁)]; rfl
      have cy₁ : s0₁ = 0 → (lo₁ i₁ < y1₁ ∨ y2₁ < hi₁ i₁) → cutP y1₁ y2₁ (lo₁ i₁) (hi₁ i₁) = true := fun z₁ y₁ => by
        rw [key₁, decide_eq_true (show s0₁ = nI 0 from z₁)]
        rcases y₁ with y₁ | y₁
        · rw [decide_eq_true y₁]; rfl
        · rw [decide_eq_true y₁]; simp
      have cn₁ : ¬ lo₁ i₁ < y1₁ → ¬ y2₁ < hi₁ i₁ → cutP y1₁ y2₁ (lo₁ i₁) (hi₁ i₁) = false := fun z₁ y₁ => by
        rw [key₁, decide_eq_false z₁, decide_eq_false y₁]; simp
      delta w_X9_cutsScope_66
      exact ⟨fun z₁ => ⟨fun y₁ => next (no₁ y₁), fun y₁ => yes₁ (cy₁ y₁ (Or.inl z₁))⟩, fun z₁ => ⟨fun q₁ => ⟨fun y₁ => next (no₁ y₁), fun y₁ => yes₁ (cy₁ y₁ (Or.inr q₁))⟩, fun q₁ => ⟨fun y₁ => next (no₁ y₁), fun y₁ => next (cn₁ z₁ q₁)⟩⟩⟩
    refine ⟨fun z₁ => s66₁ (Or.inl z₁), fun z₁ => ⟨fun y₁ => ?_, fun y₁ => s66₁ (Or.inr y₁)⟩⟩
    have : cutP y1₁ y2₁ (lo₁ i₁) (hi₁ i₁) = false := by rw [key₁, decide_eq_false z₁, decide_eq_true y₁]; simp
    exact ⟨fun _ => next this, fun _ => next this⟩
  refine ⟨fun z₁ => ?_, fun z₁ => ⟨fun y₁ => s52₁ _ (Or.inr rfl) ⟨fun q₁ => absurd q₁ (fun q₁ => q₁.elim z₁ (fun q₁ => q₁ y₁)), fun q₁ => absurd q₁ (by decide)⟩, fun y₁ => ?_⟩⟩
  · delta w_X9_cutsScope_47
    exact s52₁ _ (Or.inl rfl) ⟨fun _ => rfl, fun _ => Or.inl z₁⟩
  · delta w_X9_cutsScope_47
    exact s52₁ _ (Or.inl rfl) ⟨fun _ => rfl, fun _ => Or.inr y₁⟩
end UN₁
