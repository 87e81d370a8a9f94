/-! ===== a book judged: what it comes to ===== -/
section JG₁
variable {U₁ U'₁ V₁ : Nat → Int32}
/-- why a line is wrong; 0: it is not -/
def jgL₁ (U₁ V₁ : Nat → Int32) (l₁ : Nat × Nat × Nat) : Int32 :=
  if l₁.1 = 2 ∧ adr U₁ (nI l₁.2.1) = false then 29 else if dwS₁ U₁ V₁ (nI l₁.2.1) (nI l₁.2.2) l₁.1 = 0 then 0 else nI (10 * l₁.1) + dwS₁ U₁ V₁ (nI l₁.2.1) (nI l₁.2.2) l₁.1
def jgN₁ (U₁ V₁ : Nat → Int32) (l₁ : Nat × Nat × Nat) : Nat → Int32 := dlS₁ U₁ V₁ (nI l₁.2.1) (nI l₁.2.2) l₁.1
/-- the machine then, how many lines were done, why the next one is wrong -/
def jgS₁ (U₁ : Nat → Int32) : List (Nat × Nat × Nat) → (Nat → Int32) → Nat → (Nat → Int32) × Nat × Int32
  | [], V₁, i₁ => (V₁, i₁, 0)
  | l₁ :: t₁, V₁, i₁ => if jgL₁ U₁ V₁ l₁ ≠ 0 then (V₁, i₁, jgL₁ U₁ V₁ l₁) else jgS₁ U₁ t₁ (jgN₁ U₁ V₁ l₁) (i₁ + 1)
theorem dwS_v (U₁ V₁ : Nat → Int32) (a₁ b₁ : Int32) (d₁ : Nat) : dwS₁ U₁ V₁ a₁ b₁ d₁ = 0 ∨ dwS₁ U₁ V₁ a₁ b₁ d₁ = nI 1 ∨ dwS₁ U₁ V₁ a₁ b₁ d₁ = nI 2 := by
  rw [dwS₁.eq_def]
  have c01₁ : ∀ p₁ : Prop, [Decidable p₁] → ((if p₁ then (1 : Int32) else 0) = 0 ∨ (if p₁ then (1 : Int32) else 0) = nI 1 ∨ (if p₁ then (1 : Int32) else 0) = nI 2) := fun p₁ _ => by
    split
    · exact Or.inr (Or.inl rfl)
    · exact Or.inl rfl
  split
  · exact c01₁ _
  · exact c01₁ _
  · exact c01₁ _
  · split
    · split
      · exact Or.inr (Or.inr rfl)
      · exact Or.inl rfl
    · exact Or.inr (Or.inl rfl)
  · exact c01₁ _
  · exact c01₁ _
  · split
    · exact Or.inr (Or.inl rfl)
    · split
      · exact Or.inl rfl
      · exact Or.inr (Or.inr rfl)
  · exact c01₁ _
theorem jgL_w {d₁ : Nat} {r₁ : Int32} (hd₁ : d₁ < 8) (hr₁ : r₁ = nI 1 ∨ r₁ = nI 2) : nI (10 * d₁) + r₁ ≠ 0 := by
  rcases hr₁ with rfl | rfl <;> rw [addN, show (0 : Int32) = nI 0 from rfl, Ne, eqN (by omega) (by omega)] <;> omega
theorem jgL_0 {l₁ : Nat × Nat × Nat} (hl₁ : lnW₁ l₁) (h₁ : jgL₁ U₁ V₁ l₁ = 0) : dwS₁ U₁ V₁ (nI l₁.2.1) (nI l₁.2.2) l₁.1 = 0 ∧ (l₁.1 = 2 → adr U₁ (nI l₁.2.1) = true) := by
  rw [jgL₁] at h₁
  split at h₁
  · exact absurd h₁ (by decide)
  · rename_i n₁
    have d0₁ : dwS₁ U₁ V₁ (nI l₁.2.1) (nI l₁.2.2) l₁.1 = 0 := by
      split at h₁
      · assumption
      · rename_i z₁
        exact absurd h₁ (jgL_w hl₁.1 ((dwS_v U₁ V₁ _ _ _).resolve_left z₁))
    refine ⟨d0₁, fun z₁ => ?_⟩
    cases e₁ : adr U₁ (nI l₁.2.1)
    · exact absurd ⟨z₁, e₁⟩ n₁
    · rfl
theorem lnW_dar {l₁ : Nat × Nat × Nat} (hl₁ : lnW₁ l₁) (h₁ : l₁.1 = 2 → adr U₁ (nI l₁.2.1) = true) : dar₁ U₁ (nI l₁.2.1) l₁.1 := by
  obtain ⟨k₁, a₁, b₁⟩ := l₁
  obtain ⟨h1₁, h2₁, h3₁, h4₁, h5₁⟩ := hl₁
  show dar₁ U₁ (nI a₁) k₁
  have e₁ : k₁ = 0 ∨ k₁ = 1 ∨ k₁ = 2 ∨ 3 ≤ k₁ := by omega
  rcases e₁ with rfl | rfl | rfl | e₁
  · exact inN_nI (h2₁ rfl) (by decide)
  · exact inN_nI (h3₁ rfl) (by decide)
  · exact h₁ rfl
  · obtain ⟨j₁, rfl⟩ : ∃ j₁, k₁ = j₁ + 3 := ⟨k₁ - 3, by omega⟩
    exact True.intro
theorem jgN_v {l₁ : Nat × Nat × Nat} (hU₁ : WFc U₁) (hr₁ : WFr U₁) (h₁ : WFv₁ U₁ V₁) (hl₁ : lnW₁ l₁) (hj₁ : jgL₁ U₁ V₁ l₁ = 0) : WFv₁ U₁ (jgN₁ U₁ V₁ l₁) ∧ ∀ k₁, 83 ≤ k₁ → jgN₁ U₁ V₁ l₁ k₁ = V₁ k₁ := by
  obtain ⟨h1₁, h2₁⟩ := jgL_0 hl₁ hj₁
  have h5₁ := hl₁.2.2.2.2
  exact ⟨WFv_dl hU₁ hr₁ h₁ hl₁.1 (lnW_dar hl₁ h2₁) (fun _ => ⟨l₁.2.2, by omega, rfl⟩) h1₁, fun k₁ hk₁ => dlS_hi h₁ hl₁.1 (lnW_dar hl₁ h2₁) h1₁ hk₁⟩
theorem dwS_7 {a₁ b₁ : Int32} : dwS₁ U₁ V₁ a₁ b₁ 7 = if runS U₁ V₁ = -1 then 1 else 0 := by simp only [dwS₁]
theorem chg_7 {a₁ b₁ : Int32} : chgS U₁ V₁ a₁ b₁ 7 = vst₁ V₁ 0 (runS U₁ V₁) := by simp only [chgS]
theorem dwS_ar {d₁ : Nat} {a₁ a'₁ b₁ b'₁ : Int32} (hd₁ : d₁ < 8) (h1₁ : d₁ < 5 → a₁ = a'₁) (h2₁ : d₁ < 2 → b₁ = b'₁) : dwS₁ U₁ V₁ a₁ b₁ d₁ = dwS₁ U₁ V₁ a'₁ b'₁ d₁ ∧ dlS₁ U₁ V₁ a₁ b₁ d₁ = dlS₁ U₁ V₁ a'₁ b'₁ d₁ := by
  have e₁ : d₁ = 0 ∨ d₁ = 1 ∨ d₁ = 2 ∨ d₁ = 3 ∨ d₁ = 4 ∨ d₁ = 5 ∨ d₁ = 6 ∨ d₁ = 7 := by omega
  rcases e₁ with rfl | rfl | rfl | rfl | rfl | rfl | rfl | rfl
  · rw [h1₁ (by decide), h2₁ (by decide)]; exact ⟨rfl, rfl⟩
  · rw [h1₁ (by decide), h2₁ (by decide)]; exact ⟨rfl, rfl⟩
  · rw [h1₁ (by decide), dwS₁, dwS₁, dlS₁, dlS₁, chgS, chgS]; exact ⟨rfl, rfl⟩
  · rw [h1₁ (by decide), dwS₁, dwS₁, dlS₁, dlS₁, chgS, chgS]; exact ⟨rfl, rfl⟩
  · rw [h1₁ (by decide), dwS₁, dwS₁, dlS₁, dlS₁, chgS, chgS]; exact ⟨rfl, rfl⟩
  · rw [dwS₁, dwS₁, dlS₁, dlS₁, chgS, chgS]; exact ⟨rfl, rfl⟩
  · rw [dwS₁, dwS₁, dlS₁, dlS₁, chgS, chgS]; exact ⟨rfl, rfl⟩
  · rw [dwS_7, dwS_7, dlS₁, dlS₁, chg_7, chg_7]; exact ⟨rfl, rfl⟩
theorem jgS_w : ∀ {ls₁ : List (Nat × Nat × Nat)} {V₁ : Nat → Int32} {i₁ : Nat}, WFc U₁ → WFr U₁ → WFv₁ U₁ V₁ → (∀ l₁, l₁ ∈ ls₁ → lnW₁ l₁) → WFv₁ U₁ (jgS₁ U₁ ls₁ V₁ i₁).1 ∧ (∀ k₁, 83 ≤ k₁ → (jgS₁ U₁ ls₁ V₁ i₁).1 k₁ = V₁ k₁) ∧ i₁ ≤ (jgS₁ U₁ ls₁ V₁ i₁).2.1 ∧ (jgS₁ U₁ ls₁ V₁ i₁).2.1 ≤ i₁ + ls₁.length
  | [], V₁, i₁, _, _, h₁, _ => ⟨h₁, fun _ _ => rfl, Nat.le_refl _, Nat.le_refl _⟩
  | l₁ :: t₁, V₁, i₁, hU₁, hr₁, hv₁, hl₁ => by
    by_cases z₁ : jgL₁ U₁ V₁ l₁ ≠ 0
    · obtain ⟨e1₁, e2₁, e3₁⟩ := pr3₁ (show jgS₁ U₁ (l₁ :: t₁) V₁ i₁ = (V₁, i₁, jgL₁ U₁ V₁ l₁) by rw [jgS₁, if_pos z₁])
      rw [e1₁, e2₁]
      exact ⟨hv₁, fun _ _ => rfl, Nat.le_refl _, by omega⟩
    · have z'₁ : jgL₁ U₁ V₁ l₁ = 0 := Decidable.byContradiction z₁
      obtain ⟨v1₁, v2₁⟩ := jgN_v hU₁ hr₁ hv₁ (hl₁ l₁ (List.mem_cons_self ..)) z'₁
      obtain ⟨q1₁, q2₁, q3₁, q4₁⟩ := jgS_w (ls₁ := t₁) (V₁ := jgN₁ U₁ V₁ l₁) (i₁ := i₁ + 1) hU₁ hr₁ v1₁ (fun l'₁ h'₁ => hl₁ l'₁ (List.mem_cons_of_mem _ h'₁))
      rw [show jgS₁ U₁ (l₁ :: t₁) V₁ i₁ = jgS₁ U₁ t₁ (jgN₁ U₁ V₁ l₁) (i₁ + 1) by rw [jgS₁, if_neg z₁]]
      refine ⟨q1₁, fun k₁ hk₁ => by rw [q2₁ k₁ hk₁, v2₁ k₁ hk₁], by omega, by rw [List.length_cons]; omega⟩
theorem drop_g {α : Type} {w₁ : List α} {i₁ : Nat} {d₁ : α} (h₁ : i₁ < w₁.length) : w₁.drop i₁ = w₁.getD i₁ d₁ :: w₁.drop (i₁ + 1) := by
  rw [List.drop_eq_getElem_cons h₁, List.getD_eq_getElem?_getD, List.getElem?_eq_getElem h₁]; rfl
theorem getD_mm {α : Type} {w₁ : List α} {i₁ : Nat} {d₁ : α} (h₁ : i₁ < w₁.length) : w₁.getD i₁ d₁ ∈ w₁ := by
  rw [List.getD_eq_getElem?_getD, List.getElem?_eq_getElem h₁]; exact List.getElem_mem h₁
end JG₁
section BC₁
variable {K₁ N₁ : MK} {I₁ : MI} {L₁ : ML} {R₁ : MR} {x₁ : Nat} {U₁ V₁ : Nat → Int32} {W₁ : Nat → Int64} {ls₁ : List (Nat × Nat × Nat)}
theorem s_judgeLine {k₁ : Nat} {l₁ : Nat × Nat × Nat} {Q₁ : Int32 → MI → Prop} (hX₁ : PDL K₁ N₁ R₁ x₁) (hS₁ : BKT₁ I₁ x₁ ls₁) (hk₁ : k₁ < ls₁.length) (el₁ : ls₁.getD k₁ (0, 0, 0) = l₁) (hl₁ : lnW₁ l₁) (hV₁ : MACD I₁ (x₁ + 23) V₁) (hD₁ : UD I₁ L₁ (x₁ + 3) U₁ W₁) (hU₁ : WFc U₁) (hr₁ : WFr U₁) (hs₁ : WFs U₁)
    (hw₁ : jgL₁ U₁ V₁ l₁ ≠ 0 → Q₁ (jgL₁ U₁ V₁ l₁) I₁)
    (h0₁ : jgL₁ U₁ V₁ l₁ = 0 → ∀ J₁, MACD J₁ (x₁ + 23) (jgN₁ U₁ V₁ l₁) → (∀ b₁, b₁ < x₁ + 23 ∨ x₁ + 27 ≤ b₁ → J₁ b₁ = I₁ b₁) → Q₁ 0 J₁) : w_X0_judgeLine (x₁ + 59) (x₁ + 3) (x₁ + 23) (nI k₁) K₁ N₁ I₁ L₁ R₁ Q₁ := by
  have d₁ := hS₁.1
  have l40₁ := hS₁.1.2.2
  have lc₁ := hS₁.2 k₁ hk₁
  rw [el₁] at lc₁
  obtain ⟨c0₁, c1₁, c2₁⟩ := lc₁
  have d8₁ := hl₁.1
  delta w_X0_judgeLine
  refine ⟨hX₁.bok, _, hX₁.bok_r, hX₁.bok_t.1, s_at hX₁.bok_t d₁ (s_at hX₁.bok_t d₁ ?_)⟩
  rw [show (0 : Int32) = nI 0 from rfl, show (1 : Int32) = nI 1 from rfl, tat_in hk₁ (by decide) (by omega) (by decide), tat_in hk₁ (by decide) (by omega) (by decide), show x₁ + 60 + 2 = x₁ + 62 from rfl, c0₁]
  have s41₁ : (l₁.1 = 2 → adr U₁ (nI l₁.2.1) = true) → w_X0_judgeLine_41 (x₁ + 59) (x₁ + 3) (x₁ + 23) (nI k₁) (nI (17 + l₁.1)) (I₁ (x₁ + 62) (k₁ * 3 + 1)) K₁ N₁ I₁ L₁ R₁ Q₁ := fun h2₁ => by
    delta w_X0_judgeLine_41
    refine ⟨hX₁.bok, _, hX₁.bok_r, hX₁.bok_t.1, s_at hX₁.bok_t d₁ ⟨hX₁.tri.1, ?_⟩⟩
    rw [show (2 : Int32) = nI 2 from rfl, tat_in hk₁ (by decide) (by omega) (by decide), show x₁ + 60 + 2 = x₁ + 62 from rfl]
    obtain ⟨ar1₁, ar2₁⟩ := dwS_ar (U₁ := U₁) (V₁ := V₁) (d₁ := l₁.1) d8₁ c1₁ c2₁
    have hda₁ : dar₁ U₁ (I₁ (x₁ + 62) (k₁ * 3 + 1)) l₁.1 := by
      by_cases q₁ : l₁.1 < 5
      · rw [c1₁ q₁]; exact lnW_dar hl₁ h2₁
      · obtain ⟨j₁, hj₁⟩ : ∃ j₁, l₁.1 = j₁ + 3 := ⟨l₁.1 - 3, by omega⟩
        rw [hj₁]; exact True.intro
    have jl₁ : jgL₁ U₁ V₁ l₁ = if dwS₁ U₁ V₁ (nI l₁.2.1) (nI l₁.2.2) l₁.1 = 0 then 0 else nI (10 * l₁.1) + dwS₁ U₁ V₁ (nI l₁.2.1) (nI l₁.2.2) l₁.1 := by
      rw [jgL₁, if_neg (fun z₁ => by rw [h2₁ z₁.1] at z₁; exact absurd z₁.2 (by decide))]
    refine s_perform hX₁.tri hV₁ hX₁.un hD₁ hU₁ hr₁ hs₁ d8₁ hda₁ (fun z₁ => ⟨fun _ => ?_, fun y₁ => absurd y₁ z₁⟩) (fun z₁ J₁ g₁ b₁ => ⟨fun y₁ => absurd rfl y₁, fun _ => h0₁ ?_ J₁ ?_ (fun b'₁ q₁ => b₁ b'₁ (by omega) (by omega) (by omega) (by omega))⟩)
    · have e₁ : jgL₁ U₁ V₁ l₁ = nI (10 * l₁.1) + dwS₁ U₁ V₁ (nI l₁.2.1) (nI l₁.2.2) l₁.1 := by rw [jl₁, if_neg (by rw [← ar1₁]; exact z₁)]
      rw [e₁] at hw₁
      have e2₁ : ((10 : Int32) * (nI (17 + l₁.1) - 17)) + dwS₁ U₁ V₁ (I₁ (x₁ + 62) (k₁ * 3 + 1)) (I₁ (x₁ + 62) (k₁ * 3 + 2)) l₁.1 = nI (10 * l₁.1) + dwS₁ U₁ V₁ (nI l₁.2.1) (nI l₁.2.2) l₁.1 := by
        rw [show (17 : Int32) = nI 17 from rfl, subN (by omega), show 17 + l₁.1 - 17 = l₁.1 by omega, show (10 : Int32) = nI 10 from rfl, mulN, ar1₁]
      rw [e2₁]
      exact hw₁ (jgL_w d8₁ ((dwS_v U₁ V₁ _ _ _).resolve_left (by rw [← ar1₁]; exact z₁)))
    · rw [jl₁, if_pos (by rw [← ar1₁]; exact z₁)]
    · rw [jgN₁, ← ar2₁]; exact g₁
  rw [show (19 : Int32) = nI 19 from rfl, eqN (by omega) (by omega)]
  refine ⟨fun z₁ => s41₁ (fun y₁ => by omega), fun z₁ => ⟨hX₁.un.1, s_hasAddress hX₁.un hD₁.1 hU₁ ⟨fun y₁ => s41₁ (fun q₁ => ?_), fun y₁ => ?_⟩⟩⟩
  · rw [c1₁ (by omega)] at y₁; exact y₁
  · rw [c1₁ (by omega)] at y₁
    have e₁ : jgL₁ U₁ V₁ l₁ = 29 := by rw [jgL₁, if_pos ⟨by omega, y₁⟩]
    rw [e₁] at hw₁
    exact hw₁ (by decide)
end BC₁
