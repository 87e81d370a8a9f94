/-! ===== packed: a way, the ways ===== -/
theorem B256_m {w₁ : List Nat} (h₁ : ∀ a₁, a₁ ∈ w₁ → a₁ < 256) (i₁ : Nat) : w₁.getD i₁ 0 < 256 := by
  rw [List.getD_eq_getElem?_getD]
  by_cases q₁ : i₁ < w₁.length
  · rw [List.getElem?_eq_getElem q₁]; exact h₁ _ (List.getElem_mem q₁)
  · rw [List.getElem?_eq_none (by omega)]; decide
theorem pkY_m {v₁ j₁ o₁ : Nat} {d₁ : Int} (hv₁ : v₁ < 256) (ho₁ : o₁ < 256) (hd₁ : -256 ≤ d₁ ∧ d₁ ≤ 255) : ∀ a₁, a₁ ∈ pkY₁ v₁ d₁ j₁ o₁ → a₁ < 256 := fun a₁ h₁ => by
  have e₁ := hlB₁ d₁ hd₁
  rw [pkY₁, List.mem_append, List.mem_append, List.mem_append, List.mem_replicate, List.mem_singleton] at h₁
  rcases h₁ with h₁ | h₁ | h₁ | h₁
  · split at h₁
    · cases h₁
    · simp only [List.mem_cons, List.not_mem_nil, or_false] at h₁; omega
  · split at h₁
    · cases h₁
    · simp only [List.mem_cons, List.not_mem_nil, or_false] at h₁; omega
  · omega
  · omega
section PR₁
variable {K₁ N₁ : MK} {I₁ : MI} {L₁ : ML} {R₁ : MR} {m₁ : Nat}
theorem r_tryWay {v₁ j₁ o₁ : Nat} {d₁ : Int} {a₁ : Int32} {b₁ : List Nat} {Q₁ : MI → Prop} (hM₁ : MDL K₁ N₁ R₁ m₁) (hb₁ : BST₁ I₁ m₁ b₁) (lb₁ : b₁.length ≤ 24) (wb₁ : ∀ i₁, b₁.getD i₁ 0 < 256)
    (ha₁ : (v₁ = 0 ∧ a₁ = -1) ∨ (v₁ ≠ 0 ∧ a₁ = nI v₁)) (hv₁ : v₁ < 256) (ho₁ : o₁ < 256) (hj₁ : j₁ ≤ 15) (hd₁ : -256 ≤ d₁ ∧ d₁ ≤ 255)
    (h1₁ : b₁.length = 0 ∨ betP (pkY₁ v₁ d₁ j₁ o₁) b₁ → ∀ J₁, BST₁ J₁ m₁ (pkY₁ v₁ d₁ j₁ o₁) → frWy m₁ J₁ I₁ → Q₁ J₁) (h2₁ : ¬ (b₁.length = 0 ∨ betP (pkY₁ v₁ d₁ j₁ o₁) b₁) → ∀ J₁, BST₁ J₁ m₁ b₁ → frWy m₁ J₁ I₁ → Q₁ J₁) : w_X12_tryWay m₁ a₁ (zIn₁ d₁) (nI j₁) (nI o₁) K₁ N₁ I₁ L₁ R₁ Q₁ := by
  have hm₁ := pkY_m (j₁ := j₁) hv₁ ho₁ hd₁
  have bst₁ : ∀ J₁ J'₁ : MI, BST₁ J₁ m₁ b₁ → frLy m₁ J'₁ J₁ → BST₁ J'₁ m₁ b₁ := fun J₁ J'₁ s₁ f₁ => ⟨by rw [f₁.2 37 (by decide)]; exact s₁.1, fun i₁ hi₁ => by rw [f₁.1 _ (by omega) (by omega)]; exact s₁.2 i₁ hi₁⟩
  have s53₁ : ∀ (w1₁ : List Nat) (I'₁ : MI), w1₁ ++ (List.replicate j₁ 4 ++ [o₁]) = pkY₁ v₁ d₁ j₁ o₁ → w1₁.length ≤ 5 → RWY₁ I'₁ m₁ w1₁ → BST₁ I'₁ m₁ b₁ → frWy m₁ I'₁ I₁ → w_X12_tryWay_53 m₁ (nI j₁) (nI o₁) 0 K₁ N₁ I'₁ L₁ R₁ Q₁ := fun w1₁ I'₁ hw₁ l1₁ s1₁ s2₁ f1₁ => by
    delta w_X12_tryWay_53
    refine ⟨fun n1₁ y0₁ y1₁ y2₁ y3₁ I1₁ => y0₁ = m₁ ∧ y1₁ = nI j₁ ∧ y2₁ = nI o₁ ∧ ∃ i₁, y3₁ = nI i₁ ∧ i₁ ≤ j₁ ∧ n1₁ = j₁ - i₁ ∧ RWY₁ I1₁ m₁ (w1₁ ++ List.replicate i₁ 4) ∧ BST₁ I1₁ m₁ b₁ ∧ frWy m₁ I1₁ I₁, ⟨j₁, rfl, rfl, rfl, 0, rfl, Nat.zero_le _, rfl, by rw [List.replicate_zero, List.append_nil]; exact s1₁, s2₁, f1₁⟩, ?_⟩
    rintro n1₁ y0₁ y1₁ y2₁ y3₁ I1₁ ⟨rfl, rfl, rfl, i₁, rfl, hi₁, rfl, t1₁, t2₁, t3₁⟩
    have ll₁ : (w1₁ ++ List.replicate i₁ 4).length = w1₁.length + i₁ := by rw [List.length_append, List.length_replicate]
    rw [leN (by omega) (by omega)]
    refine ⟨fun q₁ => ⟨hM₁.k, ?_⟩, fun q₁ => ⟨hM₁.k, r_lay hM₁ t1₁ (by omega) rfl (fun J₁ t4₁ f4₁ v18₁ g18₁ => ⟨j₁ - (i₁ + 1), by omega, rfl, rfl, rfl, i₁ + 1, by rw [g18₁, nI_1], by omega, rfl, ?_, bst₁ _ _ t2₁ f4₁, frWy_t (frLy_w f4₁) t3₁⟩)⟩⟩
    · have e₁ : i₁ = j₁ := by omega
      subst e₁
      have hW₁ : w1₁ ++ List.replicate i₁ 4 ++ [o₁] = pkY₁ v₁ d₁ i₁ o₁ := by rw [List.append_assoc]; exact hw₁
      refine r_wayEnd hM₁ t1₁ t2₁ (by omega) lb₁ (B256_m (fun a₁ h₁ => hm₁ a₁ ?_)) wb₁ rfl ho₁ (fun q₁ J₁ t4₁ f4₁ => ?_) (fun q₁ J₁ t4₁ f4₁ => ?_)
      · rw [← hW₁]; exact List.mem_append_left _ h₁
      · rw [hW₁] at q₁ t4₁; exact h1₁ q₁ J₁ t4₁ (frWy_t f4₁ t3₁)
      · rw [hW₁] at q₁; exact h2₁ q₁ J₁ t4₁ (frWy_t f4₁ t3₁)
    · rw [List.replicate_succ', ← List.append_assoc]; exact t4₁
  have s20₁ : ∀ (w0₁ : List Nat) (I'₁ : MI), w0₁ = (if v₁ = 0 then [] else [2, v₁]) → RWY₁ I'₁ m₁ w0₁ → BST₁ I'₁ m₁ b₁ → frWy m₁ I'₁ I₁ → w_X12_tryWay_20 m₁ (zIn₁ d₁) (nI j₁) (nI o₁) K₁ N₁ I'₁ L₁ R₁ Q₁ := fun w0₁ I'₁ hw₁ s1₁ s2₁ f1₁ => by
    have l0₁ : w0₁.length ≤ 2 := by rw [hw₁]; split <;> simp only [List.length_cons, List.length_nil] <;> omega
    have hz₁ := zI_h hd₁
    delta w_X12_tryWay_20
    rw [show (0 : Int32) = zIn₁ 0 from rfl, zI_eq (by omega) (by omega)]
    refine ⟨fun q₁ => s53₁ w0₁ I'₁ ?_ (by omega) s1₁ s2₁ f1₁, fun q₁ => ⟨hM₁.k, r_lay (b₁ := 3) hM₁ s1₁ (by omega) rfl (fun J₁ t1₁ f2₁ => r_lay (b₁ := hiB₁ d₁) hM₁ t1₁ (by rw [List.length_append, List.length_singleton]; omega) hz₁.1 (fun J2₁ t2₁ f3₁ => r_lay (b₁ := loB₁ d₁) hM₁ t2₁ (by rw [List.length_append, List.length_append, List.length_singleton, List.length_singleton]; omega) hz₁.2.1 (fun J3₁ t3₁ f4₁ => s53₁ (w0₁ ++ [3] ++ [hiB₁ d₁] ++ [loB₁ d₁]) J3₁ ?_ ?_ t3₁ (bst₁ _ _ (bst₁ _ _ (bst₁ _ _ s2₁ f2₁) f3₁) f4₁) (frWy_t (frLy_w (frLy_t f4₁ (frLy_t f3₁ f2₁))) f1₁))))⟩⟩
    · rw [pkY₁, if_pos q₁, hw₁]; rfl
    · rw [pkY₁, if_neg q₁, hw₁, List.append_assoc, List.append_assoc, List.append_assoc]; rfl
    · rw [List.length_append, List.length_append, List.length_append, List.length_singleton, List.length_singleton, List.length_singleton]; omega
  delta w_X12_tryWay
  refine ⟨hM₁.k, fun I2₁ g2₁ => ?_⟩
  have r2₁ : RWY₁ I2₁ m₁ [] := ⟨by rw [g2₁, mup_at]; rfl, fun i₁ hi₁ => absurd hi₁ (Nat.not_lt_zero i₁)⟩
  have f2₁ : frLy m₁ I2₁ I₁ := ⟨fun c₁ q1₁ _ => by rw [g2₁, mup_ne q1₁], fun y₁ q1₁ => by rw [g2₁, mup_k q1₁]⟩
  have b2₁ := bst₁ _ _ hb₁ f2₁
  rcases ha₁ with ⟨ha₁, rfl⟩ | ⟨ha₁, rfl⟩
  · exact ⟨fun _ => s20₁ [] I2₁ (by rw [if_pos ha₁]) r2₁ b2₁ (frLy_w f2₁), fun q₁ => absurd rfl q₁⟩
  · exact ⟨fun q₁ => absurd q₁ (m1_ne (by omega)), fun _ => r_lay (b₁ := 2) hM₁ r2₁ (by decide) rfl (fun J₁ t1₁ f3₁ => r_lay (b₁ := v₁) hM₁ t1₁ (by decide) rfl (fun J2₁ t2₁ f4₁ => s20₁ [2, v₁] J2₁ (by rw [if_neg ha₁]) t2₁ (bst₁ _ _ (bst₁ _ _ b2₁ f3₁) f4₁) (frLy_w (frLy_t f4₁ (frLy_t f3₁ f2₁)))))⟩
/-- the best one so far: nothing, the least, or worse -/
def gdP₁ (P₁ b₁ : List Nat) : Prop := b₁.length ≤ 24 ∧ (∀ i₁, b₁.getD i₁ 0 < 256) ∧ (b₁ = [] ∨ b₁ = P₁ ∨ betP P₁ b₁)
theorem gdP_step {P₁ b₁ w₁ : List Nat} (hP₁ : P₁ ≠ []) (hb₁ : gdP₁ P₁ b₁) (hw₁ : w₁ = P₁ ∨ betP P₁ w₁) (lw₁ : w₁.length ≤ 24) (ww₁ : ∀ i₁, w₁.getD i₁ 0 < 256) :
    ((b₁.length = 0 ∨ betP w₁ b₁) → gdP₁ P₁ w₁ ∧ ((b₁ = P₁ ∨ w₁ = P₁) → w₁ = P₁)) ∧ (¬ (b₁.length = 0 ∨ betP w₁ b₁) → (b₁ = P₁ ∨ w₁ = P₁) → b₁ = P₁) := by
  refine ⟨fun h₁ => ⟨⟨lw₁, ww₁, Or.inr hw₁⟩, fun q₁ => ?_⟩, fun h₁ q₁ => ?_⟩
  · rcases q₁ with q₁ | q₁
    · rcases hw₁ with hw₁ | hw₁
      · exact hw₁
      · rcases h₁ with h₁ | h₁
        · exact absurd (List.length_eq_zero_iff.mp h₁) (fun z₁ => hP₁ (q₁.symm.trans z₁))
        · rw [q₁] at h₁
          exact absurd h₁ (betP_as hw₁)
    · exact q₁
  · rcases q₁ with q₁ | q₁
    · exact q₁
    · rcases hb₁.2.2 with e₁ | e₁ | e₁
      · exact absurd (Or.inl (by rw [e₁]; rfl)) h₁
      · exact e₁
      · rw [← q₁] at e₁
        exact absurd (Or.inr e₁) h₁
theorem r_tryLast {u₁ p₁ o₁ t₁ : Nat} {d₁ c₁ : Int} {b₁ : List Nat} {Q₁ : MI → Prop} (hM₁ : MDL K₁ N₁ R₁ m₁) (hb₁ : BST₁ I₁ m₁ b₁) (gb₁ : gdP₁ (pkW₁ u₁ d₁) b₁) (hu₁ : u₁ < 256) (hd₁ : -249 ≤ d₁ ∧ d₁ ≤ 249) (hp₁ : u₁ = t₁ + p₁) (ho₁ : (o₁ = 1 ∧ t₁ = 0 ∧ c₁ = 0) ∨ ((o₁ : Int) = 14 + 12 * (t₁ : Int) + c₁ ∧ -4 ≤ c₁ ∧ c₁ ≤ 7 ∧ o₁ ≤ 255))
    (h₁ : ∀ b'₁ J₁, BST₁ J₁ m₁ b'₁ → gdP₁ (pkW₁ u₁ d₁) b'₁ → ((b₁ = pkW₁ u₁ d₁ ∨ ∃ j₁ v₁, p₁ = 17 * j₁ + v₁ ∧ pkY₁ v₁ (d₁ - c₁) j₁ o₁ = pkW₁ u₁ d₁) → b'₁ = pkW₁ u₁ d₁) → frWy m₁ J₁ I₁ → Q₁ J₁) : w_X12_tryLast m₁ (nI p₁) (zIn₁ (d₁ - c₁)) (nI o₁) K₁ N₁ I₁ L₁ R₁ Q₁ := by
  have hP₁ : pkW₁ u₁ d₁ ≠ [] := fun z₁ => by have := (pkW_len u₁ d₁).1; rw [z₁] at this; exact absurd this (by decide)
  have hc₁ : -4 ≤ c₁ ∧ c₁ ≤ 7 ∧ o₁ ≤ 255 := by omega
  delta w_X12_tryLast w_X12_tryLast_3
  refine ⟨fun n1₁ y0₁ y1₁ y2₁ y3₁ y4₁ I1₁ => y0₁ = m₁ ∧ y1₁ = nI p₁ ∧ y2₁ = zIn₁ (d₁ - c₁) ∧ y3₁ = nI o₁ ∧ ∃ j₁ b1₁, y4₁ = nI j₁ ∧ j₁ ≤ 16 ∧ n1₁ = 16 - j₁ ∧ BST₁ I1₁ m₁ b1₁ ∧ gdP₁ (pkW₁ u₁ d₁) b1₁ ∧ ((b₁ = pkW₁ u₁ d₁ ∨ ∃ j'₁ v₁, j'₁ < j₁ ∧ p₁ = 17 * j'₁ + v₁ ∧ pkY₁ v₁ (d₁ - c₁) j'₁ o₁ = pkW₁ u₁ d₁) → b1₁ = pkW₁ u₁ d₁) ∧ frWy m₁ I1₁ I₁, ⟨16, rfl, rfl, rfl, rfl, 0, b₁, rfl, by decide, rfl, hb₁, gb₁, fun q₁ => ?_, frWy_r⟩, ?_⟩
  · rcases q₁ with q₁ | ⟨j'₁, v₁, q₁, _⟩
    · exact q₁
    · omega
  rintro n1₁ y0₁ y1₁ y2₁ y3₁ y4₁ I1₁ ⟨rfl, rfl, rfl, rfl, j₁, b1₁, rfl, hj₁, rfl, hb1₁, gb1₁, hq₁, fr₁⟩
  rw [show (17 : Int32) = nI 17 from rfl, mulN, ltN (by omega) (by omega)]
  refine ⟨fun q₁ => h₁ b1₁ I1₁ hb1₁ gb1₁ (fun w₁ => hq₁ ?_) fr₁, fun q₁ v1₁ g1₁ => ?_⟩
  · rcases w₁ with w₁ | ⟨j'₁, v₁, w1₁, w2₁⟩
    · exact Or.inl w₁
    · exact Or.inr ⟨j'₁, v₁, by omega, w1₁, w2₁⟩
  · obtain ⟨v₁, hv₁⟩ : ∃ v₁, p₁ = 17 * j₁ + v₁ := ⟨p₁ - 17 * j₁, by omega⟩
    rw [subN (by omega), show p₁ - 17 * j₁ = v₁ by omega] at g1₁
    have hw₁ := pk_best (u₁ := u₁) (v₁ := v₁) (j₁ := j₁) (o₁ := o₁) (t₁ := t₁) (d₁ := d₁) (c₁ := c₁) hd₁ ho₁ (by omega)
    have lw₁ := pkY_len v₁ (d₁ - c₁) j₁ o₁
    have lw'₁ : (pkY₁ v₁ (d₁ - c₁) j₁ o₁).length ≤ 24 := by
      rw [lw₁]
      split <;> split <;> omega
    have ww₁ := B256_m (pkY_m (v₁ := v₁) (j₁ := j₁) (o₁ := o₁) (d₁ := d₁ - c₁) (by omega) (by omega) (by omega))
    have st₁ := gdP_step hP₁ gb1₁ hw₁ lw'₁ ww₁
    have nx₁ : ∀ b2₁, (b1₁ = pkW₁ u₁ d₁ ∨ pkY₁ v₁ (d₁ - c₁) j₁ o₁ = pkW₁ u₁ d₁ → b2₁ = pkW₁ u₁ d₁) → (b₁ = pkW₁ u₁ d₁ ∨ ∃ j'₁ v₁, j'₁ < j₁ + 1 ∧ p₁ = 17 * j'₁ + v₁ ∧ pkY₁ v₁ (d₁ - c₁) j'₁ o₁ = pkW₁ u₁ d₁) → b2₁ = pkW₁ u₁ d₁ := fun b2₁ k1₁ k2₁ => k1₁ (by
      rcases k2₁ with k2₁ | ⟨j'₁, v'₁, k3₁, k4₁, k5₁⟩
      · exact Or.inl (hq₁ (Or.inl k2₁))
      · by_cases e₁ : j'₁ = j₁
        · subst e₁
          have : v'₁ = v₁ := by omega
          subst this
          exact Or.inr k5₁
        · exact Or.inl (hq₁ (Or.inr ⟨j'₁, v'₁, by omega, k4₁, k5₁⟩)))
    have run₁ : ∀ a₁, ((v₁ = 0 ∧ a₁ = -1) ∨ (v₁ ≠ 0 ∧ a₁ = nI v₁)) → w_X12_tryWay y0₁ a₁ (zIn₁ (d₁ - c₁)) (nI j₁) (nI o₁) K₁ N₁ I1₁ L₁ R₁ (fun I3₁ => ∀ v4₁ : Int32, v4₁ = nI j₁ + 1 → ∃ n1₁, n1₁ < 16 - j₁ ∧ (fun n1₁ z0₁ y1₁ y2₁ y3₁ y4₁ I1₁ => z0₁ = y0₁ ∧ y1₁ = nI p₁ ∧ y2₁ = zIn₁ (d₁ - c₁) ∧ y3₁ = nI o₁ ∧ ∃ j₁ b1₁, y4₁ = nI j₁ ∧ j₁ ≤ 16 ∧ n1₁ = 16 - j₁ ∧ BST₁ I1₁ y0₁ b1₁ ∧ gdP₁ (pkW₁ u₁ d₁) b1₁ ∧ ((b₁ = pkW₁ u₁ d₁ ∨ ∃ j'₁ v₁, j'₁ < j₁ ∧ p₁ = 17 * j'₁ + v₁ ∧ pkY₁ v₁ (d₁ - c₁) j'₁ o₁ = pkW₁ u₁ d₁) → b1₁ = pkW₁ u₁ d₁) ∧ frWy y0₁ I1₁ I₁ : Nat → Nat → Int32 → Int32 → Int32 → Int32 → MI → Prop) n1₁ y0₁ (nI p₁) (zIn₁ (d₁ - c₁)) (nI o₁) v4₁ I3₁) := fun a₁ ha₁ =>
      r_tryWay hM₁ hb1₁ gb1₁.1 gb1₁.2.1 ha₁ (by omega) (by omega) (by omega) (by omega) (fun q₁ J₁ k1₁ k2₁ v4₁ g4₁ => ⟨16 - (j₁ + 1), by omega, rfl, rfl, rfl, rfl, j₁ + 1, _, by rw [g4₁, nI_1], by omega, rfl, k1₁, (st₁.1 q₁).1, nx₁ _ (st₁.1 q₁).2, frWy_t k2₁ fr₁⟩) (fun q₁ J₁ k1₁ k2₁ v4₁ g4₁ => ⟨16 - (j₁ + 1), by omega, rfl, rfl, rfl, rfl, j₁ + 1, _, by rw [g4₁, nI_1], by omega, rfl, k1₁, gb1₁, nx₁ _ (st₁.2 q₁), frWy_t k2₁ fr₁⟩)
    rw [g1₁, show (0 : Int32) = nI 0 from rfl, eqN (by omega) (by omega)]
    refine ⟨fun z₁ => ⟨hM₁.k, ?_⟩, fun z₁ => ⟨hM₁.k, ?_⟩⟩
    · exact run₁ _ (Or.inr ⟨z₁, rfl⟩)
    · exact run₁ _ (Or.inl ⟨z₁, rfl⟩)
end PR₁
