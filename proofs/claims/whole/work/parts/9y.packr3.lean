/-! ===== packed: the reference's row, the reference's call ===== -/
section PR₁
variable {K₁ N₁ : MK} {I₁ : MI} {L₁ : ML} {R₁ : MR} {m₁ : Nat}
def RPK₁ (I₁ : MI) (m₁ : Nat) (bs₁ : List Nat) : Prop := I₁ m₁ 35 = nI bs₁.length ∧ LST₁ I₁ (m₁ + 15) bs₁
def frPr (m₁ : Nat) (J₁ I₁ : MI) : Prop := (∀ b₁, b₁ ≠ m₁ → b₁ ≠ m₁ + 15 → b₁ ≠ m₁ + 16 → b₁ ≠ m₁ + 17 → J₁ b₁ = I₁ b₁) ∧ ∀ y₁, y₁ ≠ 35 → y₁ ≠ 36 → y₁ ≠ 37 → J₁ m₁ y₁ = I₁ m₁ y₁
theorem frPr_r : frPr m₁ I₁ I₁ := ⟨fun _ _ _ _ _ => rfl, fun _ _ _ _ => rfl⟩
theorem frPr_t {J₁ J'₁ : MI} (h₁ : frPr m₁ J'₁ J₁) (h2₁ : frPr m₁ J₁ I₁) : frPr m₁ J'₁ I₁ := ⟨fun b₁ h3₁ h4₁ h5₁ h6₁ => by rw [h₁.1 b₁ h3₁ h4₁ h5₁ h6₁, h2₁.1 b₁ h3₁ h4₁ h5₁ h6₁], fun b₁ h3₁ h4₁ h5₁ => by rw [h₁.2 b₁ h3₁ h4₁ h5₁, h2₁.2 b₁ h3₁ h4₁ h5₁]⟩
theorem frWy_p {J₁ : MI} (h₁ : frWy m₁ J₁ I₁) : frPr m₁ J₁ I₁ := ⟨fun b₁ q1₁ _ q3₁ q4₁ => h₁.1 b₁ q1₁ q3₁ q4₁, fun y₁ _ q2₁ q3₁ => h₁.2 y₁ q2₁ q3₁⟩
theorem r_packCopy {bs₁ b₁ : List Nat} {Q₁ : MI → Prop} (hM₁ : MDL K₁ N₁ R₁ m₁) (hS₁ : RPK₁ I₁ m₁ bs₁) (hb₁ : BST₁ I₁ m₁ b₁) (lb₁ : b₁.length ≤ 24) (hl₁ : bs₁.length + b₁.length ≤ 256)
    (h₁ : ∀ J₁, RPK₁ J₁ m₁ (bs₁ ++ b₁) → frPr m₁ J₁ I₁ → Q₁ J₁) : w_X12_packRow_59 m₁ 0 K₁ N₁ I₁ L₁ R₁ Q₁ := by
  delta w_X12_packRow_59
  refine ⟨fun n1₁ y0₁ y1₁ I1₁ => y0₁ = m₁ ∧ ∃ j₁, y1₁ = nI j₁ ∧ j₁ ≤ b₁.length ∧ n1₁ = b₁.length - j₁ ∧ (∀ c₁, c₁ ≠ m₁ + 15 → I1₁ c₁ = I₁ c₁) ∧ ∀ i₁, i₁ < bs₁.length + j₁ → I1₁ (m₁ + 15) i₁ = nI ((bs₁ ++ b₁).getD i₁ 0), ⟨b₁.length, rfl, 0, rfl, Nat.zero_le _, rfl, fun _ _ => rfl, fun i₁ hi₁ => ?_⟩, ?_⟩
  · rw [List.getD_eq_getElem?_getD, List.getElem?_append_left (by omega), ← List.getD_eq_getElem?_getD]
    exact hS₁.2 i₁ (by omega)
  rintro n1₁ y0₁ y1₁ I1₁ ⟨rfl, j₁, rfl, hj₁, rfl, fr₁, hc₁⟩
  rw [fr₁ y0₁ (by omega), hb₁.1, hS₁.1, leN (by omega) (by omega), addN, addN]
  refine ⟨hM₁.k, fun z₁ I5₁ g5₁ => ?_, fun z₁ => ⟨_, hM₁.r32, _, hM₁.r34, hM₁.k17, by rw [hM₁.n17]; exact (vp_nI (by omega)).mpr (by omega), hM₁.k15, by rw [hM₁.n15]; exact (vp_nI (by omega)).mpr (by omega), fun I12₁ g12₁ v13₁ g13₁ => ⟨b₁.length - (j₁ + 1), by omega, rfl, j₁ + 1, by rw [g13₁, nI_1], by omega, rfl, fun c₁ q1₁ => ?_, fun i₁ hi₁ => ?_⟩⟩⟩
  · refine h₁ I5₁ ⟨by rw [g5₁, mup_at, List.length_append], fun i₁ hi₁ => ?_⟩ ⟨fun c₁ q1₁ q2₁ _ _ => by rw [g5₁, mup_ne q1₁, fr₁ c₁ q2₁], fun y₁ q1₁ _ _ => by rw [g5₁, mup_k q1₁, fr₁ y0₁ (by omega)]⟩
    rw [List.length_append] at hi₁
    rw [g5₁, mup_ne (by omega)]
    exact hc₁ i₁ (by omega)
  · rw [g12₁, mup_ne q1₁]; exact fr₁ c₁ q1₁
  · rw [ix_nI (by omega), ix_nI (by omega), fr₁ (y0₁ + 17) (by omega), hb₁.2 j₁ (by omega)] at g12₁
    rw [g12₁]
    by_cases q₁ : i₁ = bs₁.length + j₁
    · rw [q₁, mup_at, List.getD_eq_getElem?_getD, List.getD_eq_getElem?_getD, List.getElem?_append_right (by omega), Nat.add_sub_cancel_left]
    · rw [mup_k q₁]; exact hc₁ i₁ (by omega)
theorem r_packRow {u₁ : Nat} {d₁ : Int} {bs₁ : List Nat} {Q₁ : MI → Prop} (hM₁ : MDL K₁ N₁ R₁ m₁) (hS₁ : RPK₁ I₁ m₁ bs₁) (hl₁ : bs₁.length ≤ 200) (hu₁ : u₁ < 256) (hd₁ : -249 ≤ d₁ ∧ d₁ ≤ 249)
    (h₁ : ∀ J₁, RPK₁ J₁ m₁ (bs₁ ++ pkW₁ u₁ d₁) → frPr m₁ J₁ I₁ → Q₁ J₁) : w_X12_packRow m₁ (nI u₁) (zIn₁ d₁) K₁ N₁ I₁ L₁ R₁ Q₁ := by
  have pl₁ := pkW_len u₁ d₁
  delta w_X12_packRow
  refine ⟨hM₁.k, fun I2₁ g2₁ => ?_⟩
  have f2₁ : frWy m₁ I2₁ I₁ := ⟨fun b₁ q1₁ _ _ => by rw [g2₁, mup_ne q1₁], fun y₁ _ q2₁ => by rw [g2₁, mup_k q2₁]⟩
  have b2₁ : BST₁ I2₁ m₁ [] := ⟨by rw [g2₁, mup_at]; rfl, fun i₁ hi₁ => absurd hi₁ (Nat.not_lt_zero i₁)⟩
  have g0₁ : gdP₁ (pkW₁ u₁ d₁) [] := ⟨by decide, fun i₁ => by rw [List.getD_eq_getElem?_getD, List.getElem?_nil]; decide, Or.inl rfl⟩
  have t1₁ := r_tryLast (K₁ := K₁) (N₁ := N₁) (I₁ := I2₁) (L₁ := L₁) (R₁ := R₁) (m₁ := m₁) (u₁ := u₁) (p₁ := u₁) (o₁ := 1) (t₁ := 0) (d₁ := d₁) (c₁ := 0) (b₁ := []) (Q₁ := fun I3₁ => w_X12_packRow_14 m₁ (nI u₁) (zIn₁ d₁) 0 K₁ N₁ I3₁ L₁ R₁ Q₁) hM₁ b2₁ g0₁ hu₁ hd₁ (by omega) (Or.inl ⟨rfl, rfl, rfl⟩)
  rw [show d₁ - 0 = d₁ by omega] at t1₁
  refine t1₁ (fun b3₁ J₁ k1₁ k2₁ k3₁ k4₁ => ?_)
  delta w_X12_packRow_14
  refine ⟨fun n1₁ y0₁ y1₁ y2₁ y3₁ I1₁ => y0₁ = m₁ ∧ y1₁ = nI u₁ ∧ y2₁ = zIn₁ d₁ ∧ ∃ k₁ b1₁, y3₁ = nI k₁ ∧ k₁ ≤ 246 ∧ n1₁ = 246 - k₁ ∧ BST₁ I1₁ m₁ b1₁ ∧ gdP₁ (pkW₁ u₁ d₁) b1₁ ∧ ((∃ (t₁ : Nat) (c₁ : Int) (o₁ j₁ v₁ : Nat), ((o₁ = 1 ∧ t₁ = 0 ∧ c₁ = 0) ∨ ((o₁ : Int) = 14 + 12 * (t₁ : Int) + c₁ ∧ -4 ≤ c₁ ∧ c₁ ≤ 7 ∧ o₁ < k₁ + 10)) ∧ u₁ = t₁ + 17 * j₁ + v₁ ∧ pkY₁ v₁ (d₁ - c₁) j₁ o₁ = pkW₁ u₁ d₁) → b1₁ = pkW₁ u₁ d₁) ∧ frWy m₁ I1₁ I₁, ⟨246, rfl, rfl, rfl, 0, b3₁, rfl, by decide, rfl, k1₁, k2₁, fun q₁ => ?_, frWy_t k4₁ f2₁⟩, ?_⟩
  · obtain ⟨t₁, c₁, o₁, j₁, v₁, ho₁, hv₁, hp₁⟩ := q₁
    rcases ho₁ with ho₁ | ho₁
    · obtain ⟨rfl, rfl, rfl⟩ := ho₁
      rw [show d₁ - 0 = d₁ by omega] at hp₁
      exact k3₁ (Or.inr ⟨j₁, v₁, by omega, hp₁⟩)
    · omega
  rintro n1₁ y0₁ y1₁ y2₁ y3₁ I1₁ ⟨rfl, rfl, rfl, k₁, b1₁, rfl, hk₁, rfl, hb1₁, gb1₁, hq₁, fr₁⟩
  rw [show (245 : Int32) = nI 245 from rfl, ltN (by omega) (by omega), show (12 : Int32) = nI 12 from rfl, pk_div (by omega) (by decide) (by decide), ltN (by omega) (by omega)]
  refine ⟨fun q₁ => ?_, fun q₁ => ⟨fun q2₁ v14₁ g14₁ => ⟨246 - (k₁ + 1), by omega, rfl, rfl, rfl, k₁ + 1, b1₁, by rw [g14₁, nI_1], by omega, rfl, hb1₁, gb1₁, fun w₁ => hq₁ ?_, fr₁⟩, fun q2₁ => ⟨hM₁.k, ?_⟩⟩⟩
  · have e₁ : b1₁ = pkW₁ u₁ d₁ := hq₁ (by
      obtain ⟨t₁, c₁, o₁, j₁, v₁, ho₁, hv₁, hp₁⟩ := pkW_is u₁ d₁
      exact ⟨t₁, c₁, o₁, j₁, v₁, by omega, hv₁, hp₁⟩)
    subst e₁
    refine r_packCopy (bs₁ := bs₁) (b₁ := pkW₁ u₁ d₁) hM₁ ⟨by rw [fr₁.2 35 (by decide) (by decide)]; exact hS₁.1, fun i₁ hi₁ => by rw [fr₁.1 _ (by omega) (by omega) (by omega)]; exact hS₁.2 i₁ hi₁⟩ hb1₁ (by omega) (by omega) (fun J'₁ s₁ f₁ => h₁ J'₁ s₁ (frPr_t f₁ (frWy_p fr₁)))
  · obtain ⟨t₁, c₁, o₁, j₁, v₁, ho₁, hv₁, hp₁⟩ := w₁
    exact ⟨t₁, c₁, o₁, j₁, v₁, by omega, hv₁, hp₁⟩
  · have e₁ : nI k₁ - nI (k₁ / 12) * nI 12 = nI (k₁ % 12) := by
      rw [mulN, subN (by omega)]
      exact congrArg nI (by omega)
    have e2₁ : zIn₁ d₁ - (nI k₁ - nI (k₁ / 12) * nI 12 - 4) = zIn₁ (d₁ - (((k₁ % 12 : Nat) : Int) - 4)) := by
      rw [e₁, nIz₁, show (4 : Int32) = zIn₁ 4 from rfl, zI_sub, zI_sub]
    rw [e2₁, subN (by omega), show (10 : Int32) = nI 10 from rfl, addN]
    refine r_tryLast (u₁ := u₁) (t₁ := k₁ / 12) hM₁ hb1₁ gb1₁ hu₁ hd₁ (by omega) (Or.inr (by omega)) (fun b4₁ J4₁ k5₁ k6₁ k7₁ k8₁ v17₁ g17₁ => ⟨246 - (k₁ + 1), by omega, rfl, rfl, rfl, k₁ + 1, b4₁, by rw [g17₁, nI_1], by omega, rfl, k5₁, k6₁, fun w₁ => k7₁ ?_, frWy_t k8₁ fr₁⟩)
    obtain ⟨t₁, c₁, o₁, j₁, v₁, ho₁, hv₁, hp₁⟩ := w₁
    by_cases e₁ : o₁ = k₁ + 10
    · have e3₁ : t₁ = k₁ / 12 := by omega
      have e4₁ : c₁ = ((k₁ % 12 : Nat) : Int) - 4 := by omega
      rw [e4₁, e₁] at hp₁
      exact Or.inr ⟨j₁, v₁, by omega, hp₁⟩
    · exact Or.inl (hq₁ ⟨t₁, c₁, o₁, j₁, v₁, by omega, hv₁, hp₁⟩)
theorem r_packed {U₁ : Nat → Int32} {Q₁ : Int32 → MI → Prop} (hM₁ : MDL K₁ N₁ R₁ m₁) (hI₁ : I₁ (m₁ + 2) = U₁) (hU₁ : WFc U₁) (hR₁ : WFr U₁)
    (h₁ : ∀ J₁, RPK₁ J₁ m₁ (pkS₁ U₁) → (∀ b₁, b₁ ≠ m₁ → b₁ ≠ m₁ + 15 → b₁ ≠ m₁ + 16 → b₁ ≠ m₁ + 17 → J₁ b₁ = I₁ b₁) → (∀ y₁, y₁ ≠ 0 → y₁ ≠ 35 → y₁ ≠ 36 → y₁ ≠ 37 → J₁ m₁ y₁ = I₁ m₁ y₁) → Q₁ (nI (pkS₁ U₁).length) J₁) : w_X12_packed m₁ K₁ N₁ I₁ L₁ R₁ Q₁ := by
  have hc₁ := hU₁.1
  delta w_X12_packed
  refine ⟨hM₁.k, fun I2₁ g2₁ I3₁ g3₁ => ?_⟩
  have f3₁ : ∀ b₁, b₁ ≠ m₁ → I3₁ b₁ = I₁ b₁ := fun b₁ q₁ => by rw [g3₁, mup_ne q₁, g2₁, mup_ne q₁]
  delta w_X12_packed_16
  refine ⟨fun n1₁ y0₁ y1₁ y2₁ y3₁ I1₁ => y0₁ = m₁ ∧ ∃ i₁, y1₁ = nI (pvA₁ U₁ i₁) ∧ y2₁ = nI (pvL₁ U₁ i₁) ∧ y3₁ = nI i₁ ∧ i₁ ≤ ix (U₁ 1) ∧ n1₁ = ix (U₁ 1) - i₁ ∧ RPK₁ I1₁ m₁ (pkA₁ U₁ i₁) ∧ frPr m₁ I1₁ I3₁, ⟨ix (U₁ 1), rfl, 0, rfl, rfl, rfl, Nat.zero_le _, rfl, ⟨by rw [g3₁, mup_at]; rfl, fun i₁ hi₁ => absurd hi₁ (Nat.not_lt_zero i₁)⟩, frPr_r⟩, ?_⟩
  rintro n1₁ y0₁ y1₁ y2₁ y3₁ I1₁ ⟨rfl, i₁, rfl, rfl, rfl, hi₁, rfl, hS₁, fr₁⟩
  have al₁ := pkA_len U₁ i₁
  have eU₁ : I1₁ (y0₁ + 2) = U₁ := by rw [fr₁.1 _ (by omega) (by omega) (by omega) (by omega), f3₁ _ (by omega)]; exact hI₁
  refine ⟨hM₁.k, _, hM₁.r14, hM₁.k2, by rw [hM₁.n2]; exact (vp_nI (show 1 < 2147483648 by decide)).mpr (by decide), ?_⟩
  rw [eU₁, show ix (1 : Int32) = 1 from rfl]
  have c1₁ := hc₁.1
  have lt1₁ : U₁ 1 ≤ nI i₁ ↔ ix (U₁ 1) ≤ i₁ := by rw [c1₁, ix_nI (by omega), leN (by omega) (by omega)]
  rw [lt1₁]
  refine ⟨fun q₁ => ?_, fun q₁ => ?_⟩
  · have e₁ : i₁ = ix (U₁ 1) := by omega
    subst e₁
    have e35₁ := hS₁.1
    refine ⟨_, hM₁.r32, hM₁.k15, by rw [e35₁, hM₁.n15]; exact (vp_nI (by omega)).mpr (by omega), fun I11₁ g11₁ I12₁ g12₁ => ?_⟩
    rw [e35₁, ix_nI (by omega)] at g11₁
    have e11₁ : I11₁ y0₁ 35 = nI (pkA₁ U₁ (ix (U₁ 1))).length := by rw [g11₁, mup_ne (by omega)]; exact e35₁
    rw [e11₁, nI_1] at g12₁
    have e12₁ : I12₁ y0₁ 35 = nI (pkS₁ U₁).length := by rw [g12₁, mup_at, pkS₁, List.length_append]; rfl
    rw [e12₁]
    refine h₁ I12₁ ⟨e12₁, LST_sn (b₁ := 0) hS₁.2 (by rw [g12₁, mup_ne (by omega), g11₁]; rfl)⟩ (fun b₁ q1₁ q2₁ q3₁ q4₁ => ?_) (fun y₁ q1₁ q2₁ q3₁ q4₁ => ?_)
    · rw [g12₁, mup_ne q1₁, g11₁, mup_ne q2₁, fr₁.1 b₁ q1₁ q2₁ q3₁ q4₁, f3₁ b₁ q1₁]
    · rw [g12₁, mup_k q2₁, g11₁, mup_ne (by omega), fr₁.2 y₁ q2₁ q3₁ q4₁, g3₁, mup_k q2₁, g2₁, mup_k q1₁]
  · obtain ⟨ea₁, a1₁, a2₁, el₁, l1₁, l2₁, l3₁, l4₁⟩ := pkA_f hU₁ hR₁ (k₁ := i₁) (by omega)
    rw [show (6 : Int32) = nI 6 from rfl, show (36 : Int32) = nI 36 from rfl, addN, addN, hM₁.n2, vp_nI (by omega), vp_nI (by omega), ix_nI (by omega), ix_nI (by omega)]
    generalize hga₁ : ix (U₁ (6 + i₁)) = a₁ at *
    generalize hgl₁ : ix (U₁ (36 + i₁)) = l₁ at *
    rw [ea₁, el₁, subN a2₁, nIz₁ l₁, nIz₁ (pvL₁ U₁ i₁), zI_sub]
    refine ⟨by omega, by omega, r_packRow hM₁ hS₁ (by omega) (by omega) (by omega) (fun J₁ s2₁ f2₁ v16₁ g16₁ v17₁ g17₁ v18₁ g18₁ => ?_)⟩
    have eJ₁ : J₁ (y0₁ + 2) = U₁ := by rw [f2₁.1 _ (by omega) (by omega) (by omega) (by omega)]; exact eU₁
    refine ⟨ix (U₁ 1) - (i₁ + 1), by omega, rfl, i₁ + 1, ?_, ?_, by rw [g18₁, nI_1], by omega, rfl, ?_, frPr_t f2₁ fr₁⟩
    · rw [g16₁, eJ₁, ea₁, pvA₁, hga₁]
    · rw [g17₁, eJ₁, el₁, pvL₁, hgl₁]
    · rw [pkA₁, hga₁, hgl₁]; exact s2₁
end PR₁
