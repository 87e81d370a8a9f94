/-! ===== a 'row' line: the class ===== -/
section UN₁
variable {K₁ N₁ : MK} {I₁ : MI} {L₁ : ML} {R₁ : MR} {n₁ lm₁ p₁ x₁ : Nat} {B₁ : Nat → Nat} {U₁ : Nat → Int32} {NM₁ : Nat → List Nat}
theorem NOK_cg {U'₁ : Nat → Int32} (h₁ : NOK₁ U₁ NM₁) (e2₁ : U'₁ 2 = U₁ 2) (e3₁ : U'₁ 3 = U₁ 3) (e4₁ : U'₁ 4 = U₁ 4) : NOK₁ U'₁ NM₁ := by rw [NOK₁, e2₁, e3₁, e4₁]; exact h₁
theorem preI_no {q₁ : Nat} (hU₁ : WFU₁ U₁) (hq₁ : q₁ ≤ ix (U₁ 1)) {a₁ : Nat} (ha₁ : a₁ < ix (U₁ 0)) (hlo₁ : ∀ j₁, j₁ < q₁ → U₁ (6 + j₁) < nI a₁) {I₁ : MI} (hD₁ : UD1₁ I₁ (x₁ + 37) U₁) : tat I₁ (x₁ + 38) 2 (ix (U₁ 1)) (preI q₁) 0 ≠ nI a₁ := by
  have n1₁ := hU₁.1.1.2
  have n0₁ := hU₁.1.2.2.2.2.2.2
  rcases q₁ with - | j₁
  · rw [preI, tat, if_neg (fun z₁ => absurd z₁.1 (by decide))]; exact m1_ne' (by omega)
  · rw [preI, show (0 : Int32) = nI 0 from rfl, show x₁ + 38 = x₁ + 37 + 1 from rfl, tat_in (by omega) (by omega) (by omega) (by omega), (hD₁.2 j₁ (by omega)).1]
    intro z₁
    have := hlo₁ j₁ (by omega)
    rw [z₁, ltN (by omega) (by omega)] at this
    omega
theorem s_readRow {Q₁ : Bool → MI → ML → Prop} (hX₁ : PDL K₁ N₁ R₁ x₁) (hS₁ : DSC₁ K₁ N₁ R₁ I₁ L₁ x₁ B₁ n₁ lm₁ U₁ NM₁ p₁)
    (hbad : ∀ k₁ pl₁, pRow B₁ n₁ lm₁ U₁ NM₁ p₁ = .inl (k₁, pl₁) → ∀ J₁ M₁, flD₁ x₁ k₁ pl₁ J₁ → frD₁ x₁ J₁ I₁ M₁ L₁ → Q₁ false J₁ M₁)
    (hok₁ : ∀ U'₁ NM'₁ p'₁, pRow B₁ n₁ lm₁ U₁ NM₁ p₁ = .inr (U'₁, NM'₁, p'₁) → ∀ J₁ M₁, DSC₁ K₁ N₁ R₁ J₁ M₁ x₁ B₁ n₁ lm₁ U'₁ NM'₁ p'₁ → frD₁ x₁ J₁ I₁ M₁ L₁ → J₁ (x₁ + 1) 10 = I₁ (x₁ + 1) 10 → Q₁ true J₁ M₁) : w_X10_readRow (x₁ + 36) (x₁ + 1) K₁ N₁ I₁ L₁ R₁ Q₁ := by
  obtain ⟨hT₁, hD₁, hW₁, hN₁⟩ := hS₁
  have hU₁ := hW₁.1
  have n0₁ := hU₁.2.2.2.2.2.2
  have n1₁ := hU₁.1.2
  have hu₁ := hX₁.urd_u
  have hTb₁ := hu₁.2.2.2.2.2.2.1
  delta w_X10_readRow
  refine ⟨hX₁.urd, _, hX₁.urd_r, hu₁.1, _, hu₁.2.1, s_beginSort hT₁ hTb₁ hD₁.2.1.1 (fun e₁ J₁ f₁ => ⟨fun _ => ?_, fun y₁ => absurd y₁ (by decide)⟩) (fun e₁ J1₁ M1₁ t1₁ f1₁ => ⟨fun y₁ => absurd y₁ (by decide), fun _ => ⟨hX₁.tok, ?_⟩⟩)⟩
  · exact hbad _ _ (by rw [pRow, if_pos e₁]) J₁ L₁ (flD_f f₁) (frD_f f₁)
  have d1₁ := UD_K hD₁ f1₁
  rw [d1₁.1, hU₁.2.2.2.2.2.1, show nI (ix (U₁ 0)) - 1 = nI (ix (U₁ 0) - 1) from by rw [show (1 : Int32) = nI 1 from rfl, subN (by omega)]]
  refine s_needsNumber (lo₁ := 0) t1₁ (by decide) (by omega) (fun e0₁ k2₁ v1₁ v2₁ e8₁ => ⟨fun _ v11₁ g11₁ => ?_, fun y₁ => absurd y₁ (by decide)⟩) (fun e1₁ J2₁ f2₁ => ⟨fun y₁ => absurd y₁ (by decide), fun _ => ?_⟩)
  · rw [e8₁] at g11₁
    subst g11₁
    have ha₁ : tkV₁ B₁ n₁ (tkN₁ B₁ n₁ lm₁ p₁) < ix (U₁ 0) := by omega
    have hv₁ := tkV_lt k2₁
    refine s_rowOf hu₁ d1₁.2.1 hU₁ hW₁.2.1 ⟨hTb₁.1, s_at hTb₁ d1₁.2.1.1 ?_⟩
    rw [rowOf_pos hW₁ ha₁]
    obtain ⟨q1₁, q2₁, q3₁⟩ := posS_p (U₁ := U₁) (a₁ := nI (tkV₁ B₁ n₁ (tkN₁ B₁ n₁ lm₁ p₁)))
    have goOn : rowAt U₁ (tkV₁ B₁ n₁ (tkN₁ B₁ n₁ lm₁ p₁)) = false → w_X8_advance (x₁ + 1) K₁ N₁ J1₁ M1₁ R₁ (fun I15₁ L16₁ => w_X8_needsNumber (x₁ + 1) 1 250 K₁ N₁ I15₁ L16₁ R₁ (fun r17₁ I18₁ => (r17₁ = true → w_X9_addRow (x₁ + 37) (nI (tkV₁ B₁ n₁ (tkN₁ B₁ n₁ lm₁ p₁))) (I18₁ (x₁ + 1) 8) K₁ N₁ I18₁ L16₁ R₁ (fun I19₁ L20₁ => w_X8_advance (x₁ + 1) K₁ N₁ I19₁ L20₁ R₁ (fun I21₁ L22₁ => Q₁ true I21₁ L22₁))) ∧ (r17₁ = false → Q₁ false I18₁ L16₁))) := by
      intro hno₁
      refine s_next t1₁ (fun J3₁ M3₁ t3₁ f3₁ => s_needsNumber (lo₁ := 1) (hi₁ := 250) t3₁ (by decide) (by decide) (fun e0'₁ k2'₁ v1'₁ v2'₁ e8'₁ => ⟨fun _ => ?_, fun y₁ => absurd y₁ (by decide)⟩) (fun e1₁ J4₁ f4₁ => ⟨fun y₁ => absurd y₁ (by decide), fun _ => ?_⟩))
      · rw [e8'₁]
        have d3₁ := UD_K d1₁ f3₁
        refine s_addRow hu₁ d3₁.2.1 hW₁ (by omega) ha₁ hno₁ (fun J5₁ M5₁ d5₁ b5₁ l5₁ => ?_)
        have t5₁ : TCS₁ K₁ N₁ R₁ J5₁ M5₁ (x₁ + 1) B₁ n₁ lm₁ (tkN₁ B₁ n₁ lm₁ (tkN₁ B₁ n₁ lm₁ p₁)) := TCS_fr t3₁ (b5₁ _ (by omega) (by omega)) (fun y₁ _ _ => by rw [b5₁ _ (by omega) (by omega)]) (l5₁ _ (by omega))
        refine s_next t5₁ (fun J6₁ M6₁ t6₁ f6₁ => hok₁ _ _ _ (by rw [pRow, if_neg e₁, if_neg (fun z₁ => z₁ e0₁), if_neg (by rw [hno₁]; decide), if_neg (fun z₁ => z₁ e0'₁)]) J6₁ M6₁ ⟨t6₁, ?_, WFU_ins hW₁ (by omega) ha₁ hno₁ v1'₁ v2'₁, ?_⟩ (frD_t (frD_K f6₁) (frD_t ?_ (frD_t (frD_K f3₁) (frD_K f1₁)))) ?_)
        · have eo₁ : ∀ k₁, k₁ ≠ 1 → (k₁ < 6 ∨ 66 ≤ k₁) → insU U₁ (posS U₁ (nI (tkV₁ B₁ n₁ (tkN₁ B₁ n₁ lm₁ p₁)))) (ix (U₁ 1)) (nI (tkV₁ B₁ n₁ (tkN₁ B₁ n₁ lm₁ p₁))) (nI (tkV₁ B₁ n₁ (tkN₁ B₁ n₁ lm₁ (tkN₁ B₁ n₁ lm₁ p₁)))) k₁ = U₁ k₁ := fun k₁ h1₁ h2₁ => insU_o q1₁ (by omega) h1₁ h2₁
          have b6₁ : ∀ a₁, a₁ ≠ x₁ + 1 → a₁ ≠ x₁ + 38 → a₁ ≠ x₁ + 40 → J6₁ a₁ = J3₁ a₁ := fun a₁ q1₁ q2₁ q3₁ => by rw [f6₁.1 a₁ q1₁, b5₁ a₁ (by omega) (by omega)]
          have l6₁ : ∀ a₁, a₁ ≠ x₁ + 1 → a₁ ≠ x₁ + 39 → M6₁ a₁ = M3₁ a₁ := fun a₁ q1₁ q2₁ => by rw [f6₁.2.2 a₁ q1₁, l5₁ a₁ (by omega)]
          obtain ⟨a0₁, a1₁, a2₁, a3₁, a4₁, a5₁⟩ := d3₁
          refine ⟨by rw [b6₁ _ (by omega) (by omega) (by omega), a0₁, eo₁ 0 (by decide) (by decide)], d5₁.fr (f6₁.1 _ (by omega)) (f6₁.1 _ (by omega)), ?_, ?_, ?_, ?_⟩
          · exact UD2_cg (a2₁.fr (b6₁ _ (by omega) (by omega) (by omega)) (b6₁ _ (by omega) (by omega) (by omega)) (l6₁ _ (by omega) (by omega))) hU₁.2.1.2 (eo₁ 2 (by decide) (by decide)) (fun k₁ q1₁ _ => eo₁ k₁ (by omega) (by omega)) (fun _ _ => rfl)
          · exact UD3_cg (a3₁.fr (b6₁ _ (by omega) (by omega) (by omega)) (b6₁ _ (by omega) (by omega) (by omega)) (l6₁ _ (by omega) (by omega))) hU₁.2.2.1.2 (eo₁ 3 (by decide) (by decide)) (fun k₁ q1₁ _ => eo₁ k₁ (by omega) (by omega)) (fun _ _ _ => rfl)
          · exact UD4_cg (a4₁.fr (b6₁ _ (by omega) (by omega) (by omega)) (b6₁ _ (by omega) (by omega) (by omega)) (l6₁ _ (by omega) (by omega))) hU₁.2.2.2.1.2 (eo₁ 4 (by decide) (by decide)) (fun k₁ q1₁ _ => eo₁ k₁ (by omega) (by omega)) (fun _ _ _ => rfl)
          · exact UD5_cg (a5₁.fr (b6₁ _ (by omega) (by omega) (by omega)) (b6₁ _ (by omega) (by omega) (by omega))) hU₁.2.2.2.2.1.2 (WFo_m hU₁.2.2.2.2.1.2 hW₁.2.2.2.2.2.2.2) (eo₁ 5 (by decide) (by decide)) (fun k₁ q1₁ _ => eo₁ k₁ (by omega) (by omega))
        · exact NOK_cg hN₁ (insU_o q1₁ (by omega) (by decide) (by decide)) (insU_o q1₁ (by omega) (by decide) (by decide)) (insU_o q1₁ (by omega) (by decide) (by decide))
        · exact ⟨fun b₁ q1₁ q2₁ => b5₁ b₁ (by omega) (by omega), fun b₁ q1₁ q2₁ => l5₁ b₁ (by omega), fun y₁ _ => by rw [b5₁ _ (by omega) (by omega)], fun b₁ q₁ => by
            by_cases z₁ : b₁ = x₁ + 38
            · rw [z₁]; exact d5₁.1.1.trans d3₁.2.1.1.1.symm
            · rw [b5₁ b₁ (by omega) (by omega)]⟩
        · rw [frK_10 f6₁, b5₁ _ (by omega) (by omega), frK_10 f3₁, frK_10 f1₁]
      · exact hbad _ _ (by rw [pRow, if_neg e₁, if_neg (fun z₁ => z₁ e0₁), if_neg (by rw [hno₁]; decide), if_pos e1₁]) J4₁ M3₁ (flD_f f4₁) (frD_t (frD_f f4₁) (frD_t (frD_K f3₁) (frD_K f1₁)))
    cases hr₁ : rowAt U₁ (tkV₁ B₁ n₁ (tkN₁ B₁ n₁ lm₁ p₁))
    · rw [if_neg (by decide)]
      exact ⟨fun _ => goOn hr₁, fun z₁ => absurd z₁ (preI_no hW₁ q1₁ ha₁ q2₁ d1₁.2.1)⟩
    · rw [if_pos rfl]
      have hr2₁ := hr₁
      rw [rowAt, Bool.and_eq_true, decide_eq_true_eq, decide_eq_true_eq] at hr2₁
      rw [show (0 : Int32) = nI 0 from rfl, tat_in hr2₁.1 (by omega) (by omega) (by omega), (d1₁.2.1.2 _ hr2₁.1).1]
      refine ⟨fun z₁ => absurd hr2₁.2 z₁, fun _ => s_failT (k₁ := 3) t1₁ (fun J2₁ f2₁ => ?_)⟩
      exact hbad _ _ (by rw [pRow, if_neg e₁, if_neg (fun z₁ => z₁ e0₁), if_pos hr₁]) J2₁ M1₁ (flD_f f2₁) (frD_t (frD_f f2₁) (frD_K f1₁))
  · exact hbad _ _ (by rw [pRow, if_neg e₁, if_pos e1₁]) J2₁ M1₁ (flD_f f2₁) (frD_t (frD_f f2₁) (frD_K f1₁))
end UN₁
