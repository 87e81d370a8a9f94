/-! ===== packed: what it is ===== -/
/-- the bytes of a line's number, as two -/
def hiB₁ (d₁ : Int) : Nat := if d₁ < 0 then 255 else 0
def loB₁ (d₁ : Int) : Nat := if d₁ < 0 then (256 + d₁).toNat else d₁.toNat
def pkO₁ (u₁ : Nat) (c₁ : Int) : Nat := (14 + 12 * (u₁ : Int) + c₁).toNat
/-- the shortest bytes of a row, the least of them -/
def pkW₁ (u₁ : Nat) (d₁ : Int) : List Nat :=
  if -4 ≤ d₁ ∧ d₁ ≤ 7 then
    (if u₁ ≤ (if 1 < d₁ then 19 else 20) then (if u₁ = 0 ∧ d₁ = 0 then [1] else [pkO₁ u₁ d₁])
    else if u₁ ≤ (if 1 < d₁ then 36 else 37) then [4, pkO₁ (u₁ - 17) d₁]
    else [2, u₁ - (if 1 < d₁ then 19 else 20), pkO₁ (if 1 < d₁ then 19 else 20) d₁])
  else if u₁ ≤ 20 then [3, hiB₁ (d₁ - (if u₁ ≤ 19 then 7 else 1)), loB₁ (d₁ - (if u₁ ≤ 19 then 7 else 1)), pkO₁ u₁ (if u₁ ≤ 19 then 7 else 1)]
  else if u₁ ≤ 37 then [3, hiB₁ (d₁ - (if u₁ ≤ 36 then 7 else 1)), loB₁ (d₁ - (if u₁ ≤ 36 then 7 else 1)), 4, pkO₁ (u₁ - 17) (if u₁ ≤ 36 then 7 else 1)]
  else [2, u₁ - 20, 3, hiB₁ (d₁ - 1), loB₁ (d₁ - 1), pkO₁ 20 1]
/-- a way that is tried -/
def pkY₁ (v₁ : Nat) (d₁ : Int) (j₁ o₁ : Nat) : List Nat := (if v₁ = 0 then [] else [2, v₁]) ++ ((if d₁ = 0 then [] else [3, hiB₁ d₁, loB₁ d₁]) ++ (List.replicate j₁ 4 ++ [o₁]))
def lexP : List Nat → List Nat → Prop
  | a₁ :: s₁, b₁ :: t₁ => a₁ < b₁ ∨ (a₁ = b₁ ∧ lexP s₁ t₁)
  | _, _ => False
def betP (s₁ t₁ : List Nat) : Prop := s₁.length < t₁.length ∨ (s₁.length = t₁.length ∧ lexP s₁ t₁)
theorem lexP_as : ∀ {s₁ t₁ : List Nat}, lexP s₁ t₁ → ¬ lexP t₁ s₁
  | [], _, h₁ => by cases h₁
  | _ :: _, [], h₁ => by cases h₁
  | a₁ :: s₁, b₁ :: t₁, h₁ => fun k₁ => by
    rcases h₁ with h₁ | ⟨h₁, h1₁⟩
    · rcases k₁ with k₁ | ⟨k₁, _⟩ <;> omega
    · rcases k₁ with k₁ | ⟨_, k1₁⟩
      · omega
      · exact lexP_as h1₁ k1₁
theorem betP_as {s₁ t₁ : List Nat} (h₁ : betP s₁ t₁) : ¬ betP t₁ s₁ := fun k₁ => by
  rcases h₁ with h₁ | ⟨h₁, h1₁⟩
  · rcases k₁ with k₁ | ⟨k₁, _⟩ <;> omega
  · rcases k₁ with k₁ | ⟨_, k1₁⟩
    · omega
    · exact lexP_as h1₁ k1₁
theorem betP_ir {s₁ : List Nat} : ¬ betP s₁ s₁ := fun h₁ => betP_as h₁ h₁
theorem hlB₁ (d₁ : Int) (h₁ : -256 ≤ d₁ ∧ d₁ ≤ 255) : (d₁ < 0 ∧ (hiB₁ d₁ : Int) = 255 ∧ (loB₁ d₁ : Int) = 256 + d₁) ∨ (0 ≤ d₁ ∧ (hiB₁ d₁ : Int) = 0 ∧ (loB₁ d₁ : Int) = d₁) := by
  by_cases q₁ : d₁ < 0
  · exact Or.inl ⟨q₁, by rw [hiB₁, if_pos q₁]; rfl, by rw [loB₁, if_pos q₁]; omega⟩
  · exact Or.inr ⟨by omega, by rw [hiB₁, if_neg q₁]; rfl, by rw [loB₁, if_neg q₁]; omega⟩
theorem pkY_len (v₁ : Nat) (d₁ : Int) (j₁ o₁ : Nat) : (pkY₁ v₁ d₁ j₁ o₁).length = (if v₁ = 0 then 0 else 2) + ((if d₁ = 0 then 0 else 3) + (j₁ + 1)) := by
  rw [pkY₁, List.length_append, List.length_append, List.length_append, List.length_replicate]
  split <;> split <;> rfl
theorem pkO_e (u₁ : Nat) (c₁ : Int) (h₁ : -4 ≤ c₁) : (pkO₁ u₁ c₁ : Int) = 14 + 12 * (u₁ : Int) + c₁ := by rw [pkO₁]; omega
theorem pkW_sh (u₁ : Nat) (d₁ : Int) :
    (∃ e₁, pkW₁ u₁ d₁ = [e₁] ∧ -4 ≤ d₁ ∧ d₁ ≤ 7 ∧ ((e₁ = 1 ∧ u₁ = 0 ∧ d₁ = 0) ∨ ((e₁ : Int) = 14 + 12 * (u₁ : Int) + d₁ ∧ (u₁ ≠ 0 ∨ d₁ ≠ 0))) ∧ u₁ ≤ 20 ∧ (1 < d₁ → u₁ ≤ 19))
    ∨ (∃ e₁, pkW₁ u₁ d₁ = [4, e₁] ∧ -4 ≤ d₁ ∧ d₁ ≤ 7 ∧ (e₁ : Int) = 14 + 12 * ((u₁ : Int) - 17) + d₁ ∧ 19 < u₁ ∧ u₁ ≤ 37 ∧ (1 < d₁ → u₁ ≤ 36) ∧ (d₁ ≤ 1 → 20 < u₁))
    ∨ (∃ x₁ e₁, pkW₁ u₁ d₁ = [2, x₁, e₁] ∧ -4 ≤ d₁ ∧ d₁ ≤ 7 ∧ ((1 < d₁ ∧ 36 < u₁ ∧ x₁ + 19 = u₁ ∧ (e₁ : Int) = 14 + 12 * 19 + d₁) ∨ (d₁ ≤ 1 ∧ 37 < u₁ ∧ x₁ + 20 = u₁ ∧ (e₁ : Int) = 14 + 12 * 20 + d₁)))
    ∨ (∃ c₁ e₁, pkW₁ u₁ d₁ = [3, hiB₁ (d₁ - c₁), loB₁ (d₁ - c₁), e₁] ∧ (d₁ < -4 ∨ 7 < d₁) ∧ (e₁ : Int) = 14 + 12 * (u₁ : Int) + c₁ ∧ ((u₁ ≤ 19 ∧ c₁ = 7) ∨ (u₁ = 20 ∧ c₁ = 1)))
    ∨ (∃ c₁ e₁, pkW₁ u₁ d₁ = [3, hiB₁ (d₁ - c₁), loB₁ (d₁ - c₁), 4, e₁] ∧ (d₁ < -4 ∨ 7 < d₁) ∧ (e₁ : Int) = 14 + 12 * ((u₁ : Int) - 17) + c₁ ∧ 20 < u₁ ∧ ((u₁ ≤ 36 ∧ c₁ = 7) ∨ (u₁ = 37 ∧ c₁ = 1)))
    ∨ (pkW₁ u₁ d₁ = [2, u₁ - 20, 3, hiB₁ (d₁ - 1), loB₁ (d₁ - 1), 255] ∧ (d₁ < -4 ∨ 7 < d₁) ∧ 37 < u₁) := by
  rw [pkW₁]
  by_cases i1₁ : -4 ≤ d₁ ∧ d₁ ≤ 7
  · rw [if_pos i1₁]
    have eu₁ := pkO_e u₁ d₁ i1₁.1
    have eu'₁ := pkO_e (u₁ - 17) d₁ i1₁.1
    have e19₁ := pkO_e 19 d₁ i1₁.1
    have e20₁ := pkO_e 20 d₁ i1₁.1
    by_cases i2₁ : 1 < d₁
    · rw [if_pos i2₁, if_pos i2₁]
      by_cases i3₁ : u₁ ≤ 19
      · rw [if_pos i3₁, if_neg (by omega)]
        exact Or.inl ⟨_, rfl, i1₁.1, i1₁.2, Or.inr ⟨eu₁, by omega⟩, by omega, by omega⟩
      · rw [if_neg i3₁]
        by_cases i4₁ : u₁ ≤ 36
        · rw [if_pos i4₁]
          exact Or.inr (Or.inl ⟨_, rfl, i1₁.1, i1₁.2, by omega, by omega, by omega, by omega, by omega⟩)
        · rw [if_neg i4₁]
          exact Or.inr (Or.inr (Or.inl ⟨_, _, rfl, i1₁.1, i1₁.2, Or.inl ⟨i2₁, by omega, by omega, by omega⟩⟩))
    · rw [if_neg i2₁, if_neg i2₁]
      by_cases i3₁ : u₁ ≤ 20
      · rw [if_pos i3₁]
        by_cases i5₁ : u₁ = 0 ∧ d₁ = 0
        · rw [if_pos i5₁]
          exact Or.inl ⟨_, rfl, i1₁.1, i1₁.2, Or.inl ⟨rfl, i5₁⟩, by omega, by omega⟩
        · rw [if_neg i5₁]
          exact Or.inl ⟨_, rfl, i1₁.1, i1₁.2, Or.inr ⟨eu₁, by omega⟩, by omega, by omega⟩
      · rw [if_neg i3₁]
        by_cases i4₁ : u₁ ≤ 37
        · rw [if_pos i4₁]
          exact Or.inr (Or.inl ⟨_, rfl, i1₁.1, i1₁.2, by omega, by omega, by omega, by omega, by omega⟩)
        · rw [if_neg i4₁]
          exact Or.inr (Or.inr (Or.inl ⟨_, _, rfl, i1₁.1, i1₁.2, Or.inr ⟨by omega, by omega, by omega, by omega⟩⟩))
  · rw [if_neg i1₁]
    by_cases i3₁ : u₁ ≤ 20
    · rw [if_pos i3₁]
      by_cases i4₁ : u₁ ≤ 19
      · rw [if_pos i4₁]
        exact Or.inr (Or.inr (Or.inr (Or.inl ⟨7, _, rfl, by omega, pkO_e u₁ 7 (by decide), by omega⟩)))
      · rw [if_neg i4₁]
        exact Or.inr (Or.inr (Or.inr (Or.inl ⟨1, _, rfl, by omega, pkO_e u₁ 1 (by decide), by omega⟩)))
    · rw [if_neg i3₁]
      by_cases i4₁ : u₁ ≤ 37
      · rw [if_pos i4₁]
        by_cases i5₁ : u₁ ≤ 36
        · rw [if_pos i5₁]
          exact Or.inr (Or.inr (Or.inr (Or.inr (Or.inl ⟨7, _, rfl, by omega, by have := pkO_e (u₁ - 17) 7 (by decide); omega, by omega, by omega⟩))))
        · rw [if_neg i5₁]
          exact Or.inr (Or.inr (Or.inr (Or.inr (Or.inl ⟨1, _, rfl, by omega, by have := pkO_e (u₁ - 17) 1 (by decide); omega, by omega, by omega⟩))))
      · rw [if_neg i4₁]
        exact Or.inr (Or.inr (Or.inr (Or.inr (Or.inr ⟨rfl, by omega, by omega⟩))))
/-- the shapes of a way that is tried -/
theorem pkY_sh (v₁ : Nat) (d₁ : Int) (j₁ o₁ : Nat) :
    (v₁ = 0 ∧ d₁ = 0 ∧ j₁ = 0 ∧ pkY₁ v₁ d₁ j₁ o₁ = [o₁]) ∨ (v₁ = 0 ∧ d₁ = 0 ∧ j₁ = 1 ∧ pkY₁ v₁ d₁ j₁ o₁ = [4, o₁]) ∨ (v₁ = 0 ∧ d₁ = 0 ∧ j₁ = 2 ∧ pkY₁ v₁ d₁ j₁ o₁ = [4, 4, o₁])
    ∨ (v₁ ≠ 0 ∧ d₁ = 0 ∧ j₁ = 0 ∧ pkY₁ v₁ d₁ j₁ o₁ = [2, v₁, o₁]) ∨ (v₁ = 0 ∧ d₁ ≠ 0 ∧ j₁ = 0 ∧ pkY₁ v₁ d₁ j₁ o₁ = [3, hiB₁ d₁, loB₁ d₁, o₁]) ∨ (v₁ = 0 ∧ d₁ ≠ 0 ∧ j₁ = 1 ∧ pkY₁ v₁ d₁ j₁ o₁ = [3, hiB₁ d₁, loB₁ d₁, 4, o₁])
    ∨ (v₁ = 0 ∧ d₁ ≠ 0 ∧ j₁ = 2 ∧ pkY₁ v₁ d₁ j₁ o₁ = [3, hiB₁ d₁, loB₁ d₁, 4, 4, o₁]) ∨ (v₁ ≠ 0 ∧ d₁ ≠ 0 ∧ j₁ = 0 ∧ pkY₁ v₁ d₁ j₁ o₁ = [2, v₁, 3, hiB₁ d₁, loB₁ d₁, o₁])
    ∨ (d₁ = 0 ∧ 4 ≤ (pkY₁ v₁ d₁ j₁ o₁).length) ∨ (d₁ ≠ 0 ∧ 7 ≤ (pkY₁ v₁ d₁ j₁ o₁).length) := by
  have len₁ := pkY_len v₁ d₁ j₁ o₁
  by_cases v0₁ : v₁ = 0
  · by_cases d0₁ : d₁ = 0
    · rw [if_pos v0₁, if_pos d0₁] at len₁
      by_cases j3₁ : 3 ≤ j₁
      · omega
      · have e₁ : j₁ = 0 ∨ j₁ = 1 ∨ j₁ = 2 := by omega
        rcases e₁ with e₁ | e₁ | e₁ <;> subst e₁ <;> rw [pkY₁, if_pos v0₁, if_pos d0₁]
        · exact Or.inl ⟨v0₁, d0₁, rfl, rfl⟩
        · exact Or.inr (Or.inl ⟨v0₁, d0₁, rfl, rfl⟩)
        · exact Or.inr (Or.inr (Or.inl ⟨v0₁, d0₁, rfl, rfl⟩))
    · rw [if_pos v0₁, if_neg d0₁] at len₁
      by_cases j3₁ : 3 ≤ j₁
      · omega
      · have e₁ : j₁ = 0 ∨ j₁ = 1 ∨ j₁ = 2 := by omega
        rcases e₁ with e₁ | e₁ | e₁ <;> subst e₁ <;> rw [pkY₁, if_pos v0₁, if_neg d0₁]
        · exact Or.inr (Or.inr (Or.inr (Or.inr (Or.inl ⟨v0₁, d0₁, rfl, rfl⟩))))
        · exact Or.inr (Or.inr (Or.inr (Or.inr (Or.inr (Or.inl ⟨v0₁, d0₁, rfl, rfl⟩)))))
        · exact Or.inr (Or.inr (Or.inr (Or.inr (Or.inr (Or.inr (Or.inl ⟨v0₁, d0₁, rfl, rfl⟩))))))
  · by_cases d0₁ : d₁ = 0
    · rw [if_neg v0₁, if_pos d0₁] at len₁
      by_cases j3₁ : 1 ≤ j₁
      · omega
      · have e₁ : j₁ = 0 := by omega
        subst e₁
        rw [pkY₁, if_neg v0₁, if_pos d0₁]
        exact Or.inr (Or.inr (Or.inr (Or.inl ⟨v0₁, d0₁, rfl, rfl⟩)))
    · rw [if_neg v0₁, if_neg d0₁] at len₁
      by_cases j3₁ : 1 ≤ j₁
      · omega
      · have e₁ : j₁ = 0 := by omega
        subst e₁
        rw [pkY₁, if_neg v0₁, if_neg d0₁]
        exact Or.inr (Or.inr (Or.inr (Or.inr (Or.inr (Or.inr (Or.inr (Or.inl ⟨v0₁, d0₁, rfl, rfl⟩)))))))
theorem pk_best {u₁ v₁ j₁ o₁ t₁ : Nat} {d₁ c₁ : Int} (hd₁ : -249 ≤ d₁ ∧ d₁ ≤ 249) (ho₁ : (o₁ = 1 ∧ t₁ = 0 ∧ c₁ = 0) ∨ ((o₁ : Int) = 14 + 12 * (t₁ : Int) + c₁ ∧ -4 ≤ c₁ ∧ c₁ ≤ 7 ∧ o₁ ≤ 255)) (hv₁ : u₁ = t₁ + 17 * j₁ + v₁) : pkY₁ v₁ (d₁ - c₁) j₁ o₁ = pkW₁ u₁ d₁ ∨ betP (pkW₁ u₁ d₁) (pkY₁ v₁ (d₁ - c₁) j₁ o₁) := by
  have hc₁ : -4 ≤ c₁ ∧ c₁ ≤ 7 := by omega
  have hY₁ := hlB₁ (d₁ - c₁) (by omega)
  have sP₁ := pkW_sh u₁ d₁
  have sY₁ := pkY_sh v₁ (d₁ - c₁) j₁ o₁
  generalize pkW₁ u₁ d₁ = P₁ at sP₁ ⊢
  generalize pkY₁ v₁ (d₁ - c₁) j₁ o₁ = Y₁ at sY₁ ⊢
  rcases sP₁ with ⟨e₁, rfl, sP₁⟩ | ⟨e₁, rfl, sP₁⟩ | ⟨x₁, e₁, rfl, sP₁⟩ | ⟨w₁, e₁, rfl, sP₁⟩ | ⟨w₁, e₁, rfl, sP₁⟩ | ⟨rfl, sP₁⟩
  · rcases sY₁ with ⟨h1₁, h2₁, h3₁, rfl⟩ | ⟨h1₁, h2₁, h3₁, rfl⟩ | ⟨h1₁, h2₁, h3₁, rfl⟩ | ⟨h1₁, h2₁, h3₁, rfl⟩ | ⟨h1₁, h2₁, h3₁, rfl⟩ | ⟨h1₁, h2₁, h3₁, rfl⟩ | ⟨h1₁, h2₁, h3₁, rfl⟩ | ⟨h1₁, h2₁, h3₁, rfl⟩ | ⟨h1₁, h2₁⟩ | ⟨h1₁, h2₁⟩ <;> simp only [betP, lexP, List.length_cons, List.length_nil, List.cons.injEq, and_true, true_and, and_false, or_false] <;> omega
  · rcases sY₁ with ⟨h1₁, h2₁, h3₁, rfl⟩ | ⟨h1₁, h2₁, h3₁, rfl⟩ | ⟨h1₁, h2₁, h3₁, rfl⟩ | ⟨h1₁, h2₁, h3₁, rfl⟩ | ⟨h1₁, h2₁, h3₁, rfl⟩ | ⟨h1₁, h2₁, h3₁, rfl⟩ | ⟨h1₁, h2₁, h3₁, rfl⟩ | ⟨h1₁, h2₁, h3₁, rfl⟩ | ⟨h1₁, h2₁⟩ | ⟨h1₁, h2₁⟩ <;> simp only [betP, lexP, List.length_cons, List.length_nil, List.cons.injEq, and_true, true_and, and_false, or_false] <;> omega
  · rcases sY₁ with ⟨h1₁, h2₁, h3₁, rfl⟩ | ⟨h1₁, h2₁, h3₁, rfl⟩ | ⟨h1₁, h2₁, h3₁, rfl⟩ | ⟨h1₁, h2₁, h3₁, rfl⟩ | ⟨h1₁, h2₁, h3₁, rfl⟩ | ⟨h1₁, h2₁, h3₁, rfl⟩ | ⟨h1₁, h2₁, h3₁, rfl⟩ | ⟨h1₁, h2₁, h3₁, rfl⟩ | ⟨h1₁, h2₁⟩ | ⟨h1₁, h2₁⟩ <;> simp only [betP, lexP, List.length_cons, List.length_nil, List.cons.injEq, and_true, true_and, and_false, or_false] <;> omega
  · have hW₁ := hlB₁ (d₁ - w₁) (by omega)
    rcases sY₁ with ⟨h1₁, h2₁, h3₁, rfl⟩ | ⟨h1₁, h2₁, h3₁, rfl⟩ | ⟨h1₁, h2₁, h3₁, rfl⟩ | ⟨h1₁, h2₁, h3₁, rfl⟩ | ⟨h1₁, h2₁, h3₁, rfl⟩ | ⟨h1₁, h2₁, h3₁, rfl⟩ | ⟨h1₁, h2₁, h3₁, rfl⟩ | ⟨h1₁, h2₁, h3₁, rfl⟩ | ⟨h1₁, h2₁⟩ | ⟨h1₁, h2₁⟩ <;> simp only [betP, lexP, List.length_cons, List.length_nil, List.cons.injEq, and_true, true_and, and_false, or_false] <;> omega
  · have hW₁ := hlB₁ (d₁ - w₁) (by omega)
    rcases sY₁ with ⟨h1₁, h2₁, h3₁, rfl⟩ | ⟨h1₁, h2₁, h3₁, rfl⟩ | ⟨h1₁, h2₁, h3₁, rfl⟩ | ⟨h1₁, h2₁, h3₁, rfl⟩ | ⟨h1₁, h2₁, h3₁, rfl⟩ | ⟨h1₁, h2₁, h3₁, rfl⟩ | ⟨h1₁, h2₁, h3₁, rfl⟩ | ⟨h1₁, h2₁, h3₁, rfl⟩ | ⟨h1₁, h2₁⟩ | ⟨h1₁, h2₁⟩ <;> simp only [betP, lexP, List.length_cons, List.length_nil, List.cons.injEq, and_true, true_and, and_false, or_false] <;> omega
  · have hW₁ := hlB₁ (d₁ - 1) (by omega)
    rcases sY₁ with ⟨h1₁, h2₁, h3₁, rfl⟩ | ⟨h1₁, h2₁, h3₁, rfl⟩ | ⟨h1₁, h2₁, h3₁, rfl⟩ | ⟨h1₁, h2₁, h3₁, rfl⟩ | ⟨h1₁, h2₁, h3₁, rfl⟩ | ⟨h1₁, h2₁, h3₁, rfl⟩ | ⟨h1₁, h2₁, h3₁, rfl⟩ | ⟨h1₁, h2₁, h3₁, rfl⟩ | ⟨h1₁, h2₁⟩ | ⟨h1₁, h2₁⟩ <;> simp only [betP, lexP, List.length_cons, List.length_nil, List.cons.injEq, and_true, true_and, and_false, or_false] <;> omega
/-- the least way is among them -/
theorem pkW_is (u₁ : Nat) (d₁ : Int) : ∃ (t₁ : Nat) (c₁ : Int) (o₁ j₁ v₁ : Nat), ((o₁ = 1 ∧ t₁ = 0 ∧ c₁ = 0) ∨ ((o₁ : Int) = 14 + 12 * (t₁ : Int) + c₁ ∧ -4 ≤ c₁ ∧ c₁ ≤ 7 ∧ o₁ ≤ 255)) ∧ u₁ = t₁ + 17 * j₁ + v₁ ∧ pkY₁ v₁ (d₁ - c₁) j₁ o₁ = pkW₁ u₁ d₁ := by
  rcases pkW_sh u₁ d₁ with ⟨e₁, h₁, sP₁⟩ | ⟨e₁, h₁, sP₁⟩ | ⟨x₁, e₁, h₁, sP₁⟩ | ⟨w₁, e₁, h₁, sP₁⟩ | ⟨w₁, e₁, h₁, sP₁⟩ | ⟨h₁, sP₁⟩ <;> rw [h₁]
  · refine ⟨u₁, d₁, e₁, 0, 0, by omega, by omega, ?_⟩
    rw [pkY₁, if_pos rfl, if_pos (by omega)]; rfl
  · refine ⟨u₁ - 17, d₁, e₁, 1, 0, by omega, by omega, ?_⟩
    rw [pkY₁, if_pos rfl, if_pos (by omega)]; rfl
  · refine ⟨u₁ - x₁, d₁, e₁, 0, x₁, by omega, by omega, ?_⟩
    rw [pkY₁, if_neg (by omega), if_pos (by omega)]; rfl
  · refine ⟨u₁, w₁, e₁, 0, 0, by omega, by omega, ?_⟩
    rw [pkY₁, if_pos rfl, if_neg (by omega)]; rfl
  · refine ⟨u₁ - 17, w₁, e₁, 1, 0, by omega, by omega, ?_⟩
    rw [pkY₁, if_pos rfl, if_neg (by omega)]; rfl
  · refine ⟨20, 1, 255, 0, u₁ - 20, by omega, by omega, ?_⟩
    rw [pkY₁, if_neg (by omega), if_neg (by omega)]; rfl
/-- the fewest bytes -/
def buS₁ (u₁ r₁ : Nat) : Nat := if u₁ ≤ r₁ then 0 else if u₁ ≤ r₁ + 17 then 1 else 2
def bfS₁ (u₁ : Nat) (d₁ : Int) : Nat := if -4 ≤ d₁ ∧ d₁ ≤ 7 then 1 + buS₁ u₁ (if 1 < d₁ then 19 else 20) else 4 + buS₁ u₁ 20
theorem buS_e (u₁ r₁ : Nat) : (u₁ ≤ r₁ ∧ buS₁ u₁ r₁ = 0) ∨ (r₁ < u₁ ∧ u₁ ≤ r₁ + 17 ∧ buS₁ u₁ r₁ = 1) ∨ (r₁ + 17 < u₁ ∧ buS₁ u₁ r₁ = 2) := by
  rw [buS₁]
  by_cases h₁ : u₁ ≤ r₁
  · exact Or.inl ⟨h₁, if_pos h₁⟩
  · rw [if_neg h₁]
    by_cases h2₁ : u₁ ≤ r₁ + 17
    · exact Or.inr (Or.inl ⟨by omega, h2₁, if_pos h2₁⟩)
    · exact Or.inr (Or.inr ⟨by omega, if_neg h2₁⟩)
theorem bfS_e (u₁ : Nat) (d₁ : Int) : ∃ r₁ b₁, (((d₁ < -4 ∨ 7 < d₁) ∧ r₁ = 20 ∧ bfS₁ u₁ d₁ = 4 + b₁) ∨ (-4 ≤ d₁ ∧ d₁ ≤ 1 ∧ r₁ = 20 ∧ bfS₁ u₁ d₁ = 1 + b₁) ∨ (1 < d₁ ∧ d₁ ≤ 7 ∧ r₁ = 19 ∧ bfS₁ u₁ d₁ = 1 + b₁)) ∧ ((u₁ ≤ r₁ ∧ b₁ = 0) ∨ (r₁ < u₁ ∧ u₁ ≤ r₁ + 17 ∧ b₁ = 1) ∨ (r₁ + 17 < u₁ ∧ b₁ = 2)) := by
  rw [bfS₁]
  by_cases h₁ : -4 ≤ d₁ ∧ d₁ ≤ 7
  · rw [if_pos h₁]
    by_cases h2₁ : 1 < d₁
    · rw [if_pos h2₁]
      exact ⟨19, _, Or.inr (Or.inr ⟨h2₁, h₁.2, rfl, rfl⟩), buS_e u₁ 19⟩
    · rw [if_neg h2₁]
      exact ⟨20, _, Or.inr (Or.inl ⟨h₁.1, by omega, rfl, rfl⟩), buS_e u₁ 20⟩
  · rw [if_neg h₁]
    exact ⟨20, _, Or.inl ⟨by omega, rfl, rfl⟩, buS_e u₁ 20⟩
theorem pk_1 {u₁ : Nat} {d₁ : Int} (h₁ : bfS₁ u₁ d₁ = 1) : pkW₁ u₁ d₁ = if u₁ = 0 ∧ d₁ = 0 then [1] else [pkO₁ u₁ d₁] := by
  obtain ⟨r₁, b₁, h1₁, h2₁⟩ := bfS_e u₁ d₁
  rw [pkW₁, if_pos (by omega)]
  by_cases q₁ : 1 < d₁
  · rw [if_pos q₁, if_pos (by omega)]
  · rw [if_neg q₁, if_pos (by omega)]
theorem pk_2 {u₁ n₁ : Nat} {d₁ : Int} (hn₁ : n₁ ≤ u₁) (h₁ : 2 + bfS₁ (u₁ - n₁) d₁ = bfS₁ u₁ d₁) (hl₁ : ∀ k₁, k₁ < n₁ → 2 + bfS₁ (u₁ - k₁) d₁ ≠ bfS₁ u₁ d₁) : pkW₁ u₁ d₁ = 2 :: n₁ :: pkW₁ (u₁ - n₁) d₁ := by
  obtain ⟨r₁, b₁, h1₁, h2₁⟩ := bfS_e u₁ d₁
  obtain ⟨r'₁, b'₁, h3₁, h4₁⟩ := bfS_e (u₁ - n₁) d₁
  obtain ⟨r2₁, b2₁, h5₁, h6₁⟩ := bfS_e (u₁ - (n₁ - 1)) d₁
  have hn0₁ : n₁ ≠ 0 := by omega
  have hk₁ := hl₁ (n₁ - 1) (by omega)
  by_cases q₁ : -4 ≤ d₁ ∧ d₁ ≤ 7
  · rw [pkW₁, if_pos q₁]
    by_cases q2₁ : 1 < d₁
    · rw [if_pos q2₁, if_neg (by omega), if_pos q2₁, if_neg (by omega)]
      have e₁ : n₁ = u₁ - 19 := by omega
      have e2₁ : u₁ - n₁ = 19 := by omega
      rw [e2₁, e₁, pkW₁, if_pos q₁, if_pos q2₁, if_pos (by decide), if_neg (by omega)]
    · rw [if_neg q2₁, if_neg (by omega), if_neg q2₁, if_neg (by omega)]
      have e₁ : n₁ = u₁ - 20 := by omega
      have e2₁ : u₁ - n₁ = 20 := by omega
      rw [e2₁, e₁, pkW₁, if_pos q₁, if_neg q2₁, if_pos (by decide), if_neg (by omega)]
  · have e₁ : n₁ = u₁ - 20 := by omega
    have e2₁ : u₁ - n₁ = 20 := by omega
    rw [pkW₁, if_neg q₁, if_neg (by omega), if_neg (by omega), e2₁, e₁, pkW₁, if_neg q₁, if_pos (by decide), if_neg (by decide)]
theorem pk_no2 {u₁ : Nat} {d₁ : Int} (hu₁ : u₁ ≤ 255) (hl₁ : ∀ k₁, k₁ ≤ u₁ → k₁ ≤ 255 → 2 + bfS₁ (u₁ - k₁) d₁ ≠ bfS₁ u₁ d₁) : (-4 ≤ d₁ ∧ d₁ ≤ 7 → u₁ ≤ (if 1 < d₁ then 36 else 37)) ∧ (¬ (-4 ≤ d₁ ∧ d₁ ≤ 7) → u₁ ≤ 37) := by
  obtain ⟨r₁, b₁, h1₁, h2₁⟩ := bfS_e u₁ d₁
  obtain ⟨r'₁, b'₁, h3₁, h4₁⟩ := bfS_e (u₁ - (u₁ - 19)) d₁
  obtain ⟨r2₁, b2₁, h5₁, h6₁⟩ := bfS_e (u₁ - (u₁ - 20)) d₁
  have a1₁ := hl₁ (u₁ - 19) (by omega) (by omega)
  have a2₁ := hl₁ (u₁ - 20) (by omega) (by omega)
  refine ⟨fun q₁ => ?_, fun q₁ => by omega⟩
  split <;> omega
theorem pkW_in {u₁ : Nat} {d₁ : Int} (r₁ : Nat) (q₁ : -4 ≤ d₁ ∧ d₁ ≤ 7) (hr₁ : (1 < d₁ ∧ r₁ = 19) ∨ (d₁ ≤ 1 ∧ r₁ = 20)) : pkW₁ u₁ d₁ = if u₁ ≤ r₁ then (if u₁ = 0 ∧ d₁ = 0 then [1] else [pkO₁ u₁ d₁]) else if u₁ ≤ r₁ + 17 then [4, pkO₁ (u₁ - 17) d₁] else [2, u₁ - r₁, pkO₁ r₁ d₁] := by
  rw [pkW₁, if_pos q₁]
  rcases hr₁ with ⟨h₁, rfl⟩ | ⟨h₁, rfl⟩
  · rw [if_pos h₁, if_pos h₁]
  · rw [if_neg (show ¬ 1 < d₁ by omega), if_neg (show ¬ 1 < d₁ by omega)]
theorem pk_3 {u₁ : Nat} {d₁ c₁ : Int} (hu₁ : u₁ ≤ 255) (hl₁ : ∀ k₁, k₁ ≤ u₁ → k₁ ≤ 255 → 2 + bfS₁ (u₁ - k₁) d₁ ≠ bfS₁ u₁ d₁) (hc₁ : -4 ≤ c₁ ∧ c₁ ≤ 7) (h₁ : 3 + bfS₁ u₁ c₁ = bfS₁ u₁ d₁) (h7₁ : ∀ k₁, c₁ < k₁ → k₁ ≤ 7 → 3 + bfS₁ u₁ k₁ ≠ bfS₁ u₁ d₁) :
    pkW₁ u₁ d₁ = 3 :: hiB₁ (d₁ - c₁) :: loB₁ (d₁ - c₁) :: pkW₁ u₁ c₁ ∧ ¬ (-4 ≤ d₁ ∧ d₁ ≤ 7) := by
  have n2₁ := (pk_no2 hu₁ hl₁).2
  have n1₁ := (pk_no2 hu₁ hl₁).1
  obtain ⟨r₁, b₁, h1₁, h2₁⟩ := bfS_e u₁ d₁
  obtain ⟨r'₁, b'₁, h3₁, h4₁⟩ := bfS_e u₁ c₁
  have a7₁ := fun q₁ => h7₁ 7 q₁ (by decide)
  have a1₁ := fun q₁ => h7₁ 1 q₁ (by decide)
  obtain ⟨r7₁, b7₁, h5₁, h6₁⟩ := bfS_e u₁ 7
  obtain ⟨r1₁, b1₁, h8₁, h9₁⟩ := bfS_e u₁ 1
  have q₁ : ¬ (-4 ≤ d₁ ∧ d₁ ≤ 7) := fun q₁ => by
    have n3₁ := n1₁ q₁
    split at n3₁ <;> omega
  have n4₁ := n2₁ q₁
  refine ⟨?_, q₁⟩
  rw [pkW₁, if_neg q₁]
  by_cases g₁ : u₁ ≤ 20
  · rw [if_pos g₁]
    by_cases g2₁ : u₁ ≤ 19
    · have e₁ : c₁ = 7 := by omega
      rw [if_pos g2₁, e₁, pkW_in 19 (by decide) (Or.inl ⟨by decide, rfl⟩), if_pos g2₁, if_neg (by omega)]
    · have e₁ : c₁ = 1 := by omega
      rw [if_neg g2₁, e₁, pkW_in 20 (by decide) (Or.inr ⟨by decide, rfl⟩), if_pos g₁, if_neg (by omega)]
  · rw [if_neg g₁, if_pos n4₁]
    by_cases g2₁ : u₁ ≤ 36
    · have e₁ : c₁ = 7 := by omega
      rw [if_pos g2₁, e₁, pkW_in 19 (by decide) (Or.inl ⟨by decide, rfl⟩), if_neg (by omega), if_pos (by omega)]
    · have e₁ : c₁ = 1 := by omega
      rw [if_neg g2₁, e₁, pkW_in 20 (by decide) (Or.inr ⟨by decide, rfl⟩), if_neg (by omega), if_pos (by omega)]
theorem pk_4 {u₁ : Nat} {d₁ : Int} (hu₁ : u₁ ≤ 255) (hl₁ : ∀ k₁, k₁ ≤ u₁ → k₁ ≤ 255 → 2 + bfS₁ (u₁ - k₁) d₁ ≠ bfS₁ u₁ d₁) (h1₁ : bfS₁ u₁ d₁ ≠ 1) (h7₁ : ∀ k₁, -4 ≤ k₁ → k₁ ≤ 7 → 3 + bfS₁ u₁ k₁ ≠ bfS₁ u₁ d₁) : pkW₁ u₁ d₁ = 4 :: pkW₁ (u₁ - 17) d₁ ∧ 17 ≤ u₁ ∧ -4 ≤ d₁ ∧ d₁ ≤ 7 ∧ (if 1 < d₁ then 19 else 20) < u₁ ∧ u₁ - 17 ≤ (if 1 < d₁ then 19 else 20) := by
  have n2₁ := (pk_no2 hu₁ hl₁).2
  have n1₁ := (pk_no2 hu₁ hl₁).1
  obtain ⟨r₁, b₁, g1₁, g2₁⟩ := bfS_e u₁ d₁
  have a7₁ := h7₁ 7 (by decide) (by decide)
  have a1₁ := h7₁ 1 (by decide) (by decide)
  obtain ⟨r7₁, b7₁, h5₁, h6₁⟩ := bfS_e u₁ 7
  obtain ⟨r1₁, b1₁, h8₁, h9₁⟩ := bfS_e u₁ 1
  have q₁ : -4 ≤ d₁ ∧ d₁ ≤ 7 := by
    refine Decidable.byContradiction (fun q₁ => ?_)
    have := n2₁ q₁
    omega
  have n3₁ := n1₁ q₁
  rw [pkW₁, if_pos q₁]
  by_cases q2₁ : 1 < d₁
  · rw [if_pos q2₁] at n3₁
    rw [if_pos q2₁, if_pos q2₁, if_neg (by omega), if_pos n3₁, pkW₁, if_pos q₁, if_pos q2₁, if_pos (by omega), if_neg (by omega)]
    exact ⟨rfl, by omega, q₁.1, q₁.2, by omega, by omega⟩
  · rw [if_neg q2₁] at n3₁
    rw [if_neg q2₁, if_neg q2₁, if_neg (by omega), if_pos n3₁, pkW₁, if_pos q₁, if_neg q2₁, if_pos (by omega), if_neg (by omega)]
    exact ⟨rfl, by omega, q₁.1, q₁.2, by omega, by omega⟩

/-- a number with a sign -/
def zIn₁ (i₁ : Int) : Int32 := Int32.ofInt i₁
theorem zI_i {i₁ : Int} (h₁ : -2147483648 ≤ i₁ ∧ i₁ < 2147483648) : (zIn₁ i₁).toInt = i₁ := Int32.toInt_ofInt_of_le h₁.1 h₁.2
theorem zI_lt {i₁ j₁ : Int} (hi₁ : -1000000 ≤ i₁ ∧ i₁ ≤ 1000000) (hj₁ : -1000000 ≤ j₁ ∧ j₁ ≤ 1000000) : zIn₁ i₁ < zIn₁ j₁ ↔ i₁ < j₁ := by
  rw [Int32.lt_iff_toInt_lt, zI_i (by omega), zI_i (by omega)]
theorem zI_le {i₁ j₁ : Int} (hi₁ : -1000000 ≤ i₁ ∧ i₁ ≤ 1000000) (hj₁ : -1000000 ≤ j₁ ∧ j₁ ≤ 1000000) : zIn₁ i₁ ≤ zIn₁ j₁ ↔ i₁ ≤ j₁ := by
  rw [Int32.le_iff_toInt_le, zI_i (by omega), zI_i (by omega)]
theorem zI_eq {i₁ j₁ : Int} (hi₁ : -1000000 ≤ i₁ ∧ i₁ ≤ 1000000) (hj₁ : -1000000 ≤ j₁ ∧ j₁ ≤ 1000000) : zIn₁ i₁ = zIn₁ j₁ ↔ i₁ = j₁ := ⟨fun h₁ => by have := congrArg Int32.toInt h₁; rwa [zI_i (by omega), zI_i (by omega)] at this, fun h₁ => by rw [h₁]⟩
theorem zI_add (i₁ j₁ : Int) : zIn₁ i₁ + zIn₁ j₁ = zIn₁ (i₁ + j₁) := (Int32.ofInt_add i₁ j₁).symm
theorem zI_sub (i₁ j₁ : Int) : zIn₁ i₁ - zIn₁ j₁ = zIn₁ (i₁ - j₁) := (Int32.ofInt_sub i₁ j₁).symm
theorem zI_mul (i₁ j₁ : Int) : zIn₁ i₁ * zIn₁ j₁ = zIn₁ (i₁ * j₁) := (Int32.ofInt_mul i₁ j₁).symm
theorem zI_hi : ∀ k₁ : Fin 512, ((zIn₁ ((k₁ : Int) - 256)) >>> (8 : Int32)) &&& 255 = zIn₁ (hiB₁ ((k₁ : Int) - 256)) := by decide +kernel
theorem zI_lo : ∀ k₁ : Fin 512, (zIn₁ ((k₁ : Int) - 256)) &&& 255 = zIn₁ (loB₁ ((k₁ : Int) - 256)) := by decide +kernel
theorem zI_uh : ∀ k₁ : Fin 512, ushr (zIn₁ ((k₁ : Int) - 256)) 8 &&& 255 = zIn₁ (hiB₁ ((k₁ : Int) - 256)) := by delta ushr; decide +kernel
theorem nIz₁ (n₁ : Nat) : nI n₁ = zIn₁ n₁ := Eq.symm Int32.ofInt_eq_ofNat
theorem zI_h {d₁ : Int} (h₁ : -256 ≤ d₁ ∧ d₁ ≤ 255) : (zIn₁ d₁ >>> (8 : Int32)) &&& 255 = nI (hiB₁ d₁) ∧ zIn₁ d₁ &&& 255 = nI (loB₁ d₁) ∧ ushr (zIn₁ d₁) 8 &&& 255 = nI (hiB₁ d₁) := by
  have h1₁ := zI_hi ⟨(d₁ + 256).toNat, by omega⟩
  have h2₁ := zI_lo ⟨(d₁ + 256).toNat, by omega⟩
  have h3₁ := zI_uh ⟨(d₁ + 256).toNat, by omega⟩
  have e₁ : (((d₁ + 256).toNat : Nat) : Int) - 256 = d₁ := by omega
  simp only [e₁] at h1₁ h2₁ h3₁
  rw [nIz₁, nIz₁]
  exact ⟨h1₁, h2₁, h3₁⟩
theorem pkO_z (u₁ : Nat) (d₁ : Int) (h₁ : -4 ≤ d₁) : zIn₁ (14 + 12 * (u₁ : Int) + d₁) = nI (pkO₁ u₁ d₁) := by rw [nIz₁, pkO_e u₁ d₁ h₁]
