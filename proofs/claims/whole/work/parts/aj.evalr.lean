/-! ===== what a sentence says of a var: the reference; said ===== -/
theorem lefT_c {T₁ : Nat → Int32} {k₁ c₁ g₁ v₁ : Nat} (h₁ : lefT T₁ k₁ c₁ g₁ v₁) : c₁ = 28 ∨ c₁ = 29 ∨ c₁ = 7 ∨ c₁ = 30 ∨ c₁ = 31 ∨ c₁ = 32 ∨ c₁ = 9 ∨ c₁ = 33 := by
  obtain ⟨-, h₁⟩ := h₁
  rcases h₁ with h₁ | h₁ | h₁ <;> omega
theorem trE_en {T₁ : Nat → Int32} : ∀ (d₁ : Nat) (l₁ : List (Nat × Nat × Nat)) (k₁ : Nat), trE₁ T₁ d₁ l₁ k₁ → l₁ ≠ [] ∧ ∀ e₁ ∈ l₁, enW₁ e₁
  | 0, _, _, h₁ => h₁.elim
  | d₁ + 1, l₁, k₁, h₁ => by
    rw [trE₁] at h₁
    rcases h₁ with ⟨c₁, g₁, v₁, rfl, h1₁⟩ | ⟨l1₁, i₁, rfl, -, -, -, h5₁⟩ | ⟨l1₁, l2₁, i₁, j₁, h1₁, -, -, -, -, h6₁, h7₁⟩
    · refine ⟨(fun z₁ => by cases z₁), fun e₁ he₁ => ?_⟩
      rw [List.mem_singleton] at he₁
      subst he₁
      have := lefT_c h1₁
      show c₁ < 100
      omega
    · refine ⟨fun z₁ => by simp at z₁, fun e₁ he₁ => ?_⟩
      rw [List.mem_append, List.mem_singleton] at he₁
      rcases he₁ with he₁ | rfl
      · exact (trE_en d₁ l1₁ i₁ h5₁).2 e₁ he₁
      · exact (by decide : 27 < 100)
    · have a1₁ := (trE_en d₁ l1₁ i₁ h6₁).2
      have a2₁ := (trE_en d₁ l2₁ j₁ h7₁).2
      have key₁ : ∀ c₁ : Nat, c₁ < 100 → l₁ = l1₁ ++ l2₁ ++ [(c₁, 0, 0)] → l₁ ≠ [] ∧ ∀ e₁ ∈ l₁, enW₁ e₁ := fun c₁ hc₁ e1₁ => by
        subst e1₁
        refine ⟨fun z₁ => by simp at z₁, fun e₁ he₁ => ?_⟩
        rw [List.mem_append, List.mem_append, List.mem_singleton] at he₁
        rcases he₁ with (he₁ | he₁) | rfl
        · exact a1₁ e₁ he₁
        · exact a2₁ e₁ he₁
        · exact hc₁
      rcases h1₁ with ⟨h1₁, -⟩ | ⟨h1₁, -⟩
      · exact key₁ 26 (by decide) h1₁
      · exact key₁ 25 (by decide) h1₁
section TV₁
variable {T₁ U₁ V₁ : Nat → Int32} {v₁ : Nat}
theorem fold_leaf {c₁ g₁ n₁ : Nat} (hc₁ : c₁ = 28 ∨ c₁ = 29 ∨ c₁ = 7 ∨ c₁ = 30 ∨ c₁ = 31 ∨ c₁ = 32 ∨ c₁ = 9 ∨ c₁ = 33) (st₁ : List Bool) : [(c₁, g₁, n₁)].foldl (stpE U₁ V₁ v₁) st₁ = onV₁ U₁ V₁ v₁ (c₁, g₁, n₁) :: st₁ := by
  rw [List.foldl_cons, List.foldl_nil, stpE, if_neg (by show ¬ c₁ = 27; omega), if_neg (by show ¬ c₁ = 26; omega), if_neg (by show ¬ c₁ = 25; omega)]
theorem fold_not {l₁ : List (Nat × Nat × Nat)} {b₁ : Bool} (h₁ : ∀ st₁, l₁.foldl (stpE U₁ V₁ v₁) st₁ = b₁ :: st₁) (st₁ : List Bool) : (l₁ ++ [(27, 0, 0)]).foldl (stpE U₁ V₁ v₁) st₁ = (!b₁) :: st₁ := by
  rw [List.foldl_append, h₁, List.foldl_cons, List.foldl_nil, stpE, if_pos rfl]; rfl
theorem fold_and {l1₁ l2₁ : List (Nat × Nat × Nat)} {a₁ b₁ : Bool} (h1₁ : ∀ st₁, l1₁.foldl (stpE U₁ V₁ v₁) st₁ = a₁ :: st₁) (h2₁ : ∀ st₁, l2₁.foldl (stpE U₁ V₁ v₁) st₁ = b₁ :: st₁) (st₁ : List Bool) : (l1₁ ++ l2₁ ++ [(26, 0, 0)]).foldl (stpE U₁ V₁ v₁) st₁ = (a₁ && b₁) :: st₁ := by
  rw [List.foldl_append, List.foldl_append, h1₁, h2₁, List.foldl_cons, List.foldl_nil, stpE, if_neg (by decide), if_pos rfl]; rfl
theorem fold_or {l1₁ l2₁ : List (Nat × Nat × Nat)} {a₁ b₁ : Bool} (h1₁ : ∀ st₁, l1₁.foldl (stpE U₁ V₁ v₁) st₁ = a₁ :: st₁) (h2₁ : ∀ st₁, l2₁.foldl (stpE U₁ V₁ v₁) st₁ = b₁ :: st₁) (st₁ : List Bool) : (l1₁ ++ l2₁ ++ [(25, 0, 0)]).foldl (stpE U₁ V₁ v₁) st₁ = (a₁ || b₁) :: st₁ := by
  rw [List.foldl_append, List.foldl_append, h1₁, h2₁, List.foldl_cons, List.foldl_nil, stpE, if_neg (by decide), if_neg (by decide), if_pos rfl]; rfl
theorem trE_val : ∀ (d₁ : Nat) (l₁ : List (Nat × Nat × Nat)) (k₁ : Nat), trE₁ T₁ d₁ l₁ k₁ → ∃ b₁, ∀ st₁, l₁.foldl (stpE U₁ V₁ v₁) st₁ = b₁ :: st₁
  | 0, _, _, h₁ => h₁.elim
  | d₁ + 1, l₁, k₁, h₁ => by
    rw [trE₁] at h₁
    rcases h₁ with ⟨c₁, g₁, n₁, rfl, h1₁⟩ | ⟨l1₁, i₁, rfl, -, -, -, h5₁⟩ | ⟨l1₁, l2₁, i₁, j₁, h1₁, -, -, -, -, h6₁, h7₁⟩
    · exact ⟨_, fold_leaf (lefT_c h1₁)⟩
    · obtain ⟨b₁, hb₁⟩ := trE_val d₁ l1₁ i₁ h5₁
      exact ⟨_, fold_not hb₁⟩
    · obtain ⟨a₁, ha₁⟩ := trE_val d₁ l1₁ i₁ h6₁
      obtain ⟨b₁, hb₁⟩ := trE_val d₁ l2₁ j₁ h7₁
      rcases h1₁ with ⟨rfl, -⟩ | ⟨rfl, -⟩
      · exact ⟨_, fold_and ha₁ hb₁⟩
      · exact ⟨_, fold_or ha₁ hb₁⟩
end TV₁
section RE₁
variable {K₁ N₁ : MK} {I₁ : MI} {L₁ : ML} {R₁ : MR} {m₁ : Nat} {U₁ : Nat → Int32}
theorem frW_r : frW₁ m₁ I₁ I₁ := ⟨fun _ _ _ => rfl, fun _ _ _ => rfl⟩
theorem r_isThere {v₁ : Int32} {Q₁ : Bool → MI → Prop} (hM₁ : MDL K₁ N₁ R₁ m₁) (hI₁ : I₁ (m₁ + 2) = U₁) (hW₁ : WFU₁ U₁) (hm₁ : WFm₁ (macV U₁))
    (h₁ : ∀ J₁, frW₁ m₁ J₁ I₁ → Q₁ (decide ((lokS U₁ (macV U₁) v₁ (macV U₁ 0)).1 = 0)) J₁) : w_X12_isThere m₁ v₁ K₁ N₁ I₁ L₁ R₁ Q₁ := by
  obtain ⟨hU₁, hr₁, hs₁, hT₁, hvt₁, hvh₁, hw₁, ho₁⟩ := hW₁
  subst hI₁
  delta w_X12_isThere
  refine ⟨hM₁.k, _, hM₁.r14, hM₁.k2, by rw [hM₁.n2]; exact vp_c (by decide) (by decide), ?_⟩
  have e9₁ : I₁ (m₁ + 2) (ix 342) = macV (I₁ (m₁ + 2)) 0 := rfl
  rw [e9₁]
  refine r_valueOf hM₁ hU₁ hw₁ hvt₁ hT₁ ho₁ hm₁ (fun J₁ r₁ g₁ a31₁ _ => ?_)
  have hJ₁ := h₁ J₁ g₁
  rw [a31₁]
  exact ⟨fun z₁ => by rw [decide_eq_false z₁] at hJ₁; exact hJ₁, fun z₁ => by rw [decide_eq_true z₁] at hJ₁; exact hJ₁⟩
theorem r_333 {k₁ : Nat} {g₁ y₁ s₁ : Int32} {W₁ : Nat → Int32 → Int32 → MK → MK → MI → ML → MR → (Bool → MI → Prop) → Prop} {Q₁ : Bool → MI → Prop} (hM₁ : MDL K₁ N₁ R₁ m₁) (hI₁ : I₁ (m₁ + 2) = U₁) (hk₁ : k₁ < 60) (e3₁ : U₁ (427 + 4 * k₁ + 3) = g₁) (hg₁ : g₁ = 60 ∨ g₁ = 61 ∨ g₁ = 62) (h₁ : Q₁ (sosB g₁ s₁ y₁) I₁) : w_X12_holds_333 W₁ m₁ (nI (427 + 4 * k₁)) y₁ s₁ K₁ N₁ I₁ L₁ R₁ Q₁ := by
  delta w_X12_holds_333
  rw [show (3 : Int32) = nI 3 from rfl, addN]
  refine ⟨hM₁.k, _, hM₁.r14, hM₁.k2, by rw [hM₁.n2]; exact (vp_nI (by omega)).mpr (by omega), ?_⟩
  rw [ix_nI (by omega), hI₁, e3₁]
  rw [sosB] at h₁
  refine ⟨fun z₁ => ⟨fun z2₁ => ?_, fun z2₁ => ?_⟩, fun z₁ => ?_⟩
  · rw [if_neg z₁, if_pos ((hg₁.resolve_left z₁).resolve_left z2₁)] at h₁
    exact ⟨fun w₁ => by rw [decide_eq_false (Int32.not_lt.mpr w₁)] at h₁; exact h₁, fun w₁ => by rw [decide_eq_true (Int32.not_le.mp w₁)] at h₁; exact h₁⟩
  · rw [if_neg z₁, if_neg (by rw [z2₁]; decide)] at h₁
    exact ⟨fun w₁ => by rw [decide_eq_false w₁] at h₁; exact h₁, fun w₁ => by rw [decide_eq_true w₁] at h₁; exact h₁⟩
  · rw [if_pos z₁] at h₁
    exact ⟨fun w₁ => by rw [decide_eq_false (Int32.not_lt.mpr w₁)] at h₁; exact h₁, fun w₁ => by rw [decide_eq_true (Int32.not_le.mp w₁)] at h₁; exact h₁⟩
/-- a node without others in it -/
theorem r_leaf {k₁ v₁ c₁ g₁ n₁ : Nat} {W₁ : Nat → Int32 → Int32 → MK → MK → MI → ML → MR → (Bool → MI → Prop) → Prop} {Q₁ : Bool → MI → Prop} (hM₁ : MDL K₁ N₁ R₁ m₁) (hI₁ : I₁ (m₁ + 2) = U₁) (hW₁ : WFU₁ U₁) (hm₁ : WFm₁ (macV U₁)) (hk₁ : k₁ < 60) (hv₁ : v₁ < ix (U₁ 4)) (hl₁ : lefT (fun y₁ => U₁ (427 + y₁)) k₁ c₁ g₁ n₁)
    (h₁ : ∀ J₁, frW₁ m₁ J₁ I₁ → Q₁ (onV₁ U₁ (macV U₁) v₁ (c₁, g₁, n₁)) J₁) : w_X12_holds W₁ m₁ (nI k₁) (nI v₁) K₁ N₁ I₁ L₁ R₁ Q₁ := by
  have hW'₁ := hW₁
  obtain ⟨hU₁, hr₁, hs₁, hT₁, hvt₁, hvh₁, hw₁, ho₁⟩ := hW₁
  have n4₁ := hU₁.2.2.2.1.2
  have n3₁ := hU₁.2.2.1.2
  have n2₁ := hU₁.2.1.2
  obtain ⟨t₁, et₁, hlt₁⟩ := hvt₁ v₁ hv₁
  obtain ⟨z₁, ez₁, hlz₁⟩ := hvh₁ v₁ hv₁
  obtain ⟨t0₁, tc₁⟩ := hl₁
  replace t0₁ : U₁ (427 + 4 * k₁) = nI (50 + wpL₁.getD c₁ 0) := t0₁
  have v342 : vp_in (342 : Int32) (N₁ (m₁ + 2)) := by rw [hM₁.n2]; exact vp_c (by decide) (by decide)
  have v114 : vp_in ((114 : Int32) + nI v₁) (N₁ (m₁ + 2)) := by rw [hM₁.n2]; exact vp_cn (by omega) (by decide)
  have v124 : vp_in ((124 : Int32) + nI v₁) (N₁ (m₁ + 2)) := by rw [hM₁.n2]; exact vp_cn (by omega) (by decide)
  have x114 : I₁ (m₁ + 2) (ix ((114 : Int32) + nI v₁)) = nI z₁ := by rw [ix_cn (by omega), hI₁]; exact ez₁
  have x124 : I₁ (m₁ + 2) (ix ((124 : Int32) + nI v₁)) = nI t₁ := by rw [ix_cn (by omega), hI₁]; exact et₁
  have x342 : I₁ (m₁ + 2) (ix 342) = macV U₁ 0 := by rw [hI₁]; rfl
  have hI'₁ := h₁ I₁ frW_r
  have it₁ : ix (nI t₁) = t₁ := ix_nI (by omega)
  have iz₁ : ix (nI z₁) = z₁ := ix_nI (by omega)
  rw [onV₁, et₁, ez₁, it₁, iz₁] at h₁ hI'₁
  delta w_X12_holds
  rw [show (427 : Int32) = nI 427 from rfl, show (4 : Int32) = nI 4 from rfl, mulN, addN]
  rintro v1₁ rfl
  rw [show (2 : Int32) = nI 2 from rfl, addN, nI_1]
  refine ⟨hM₁.k, _, hM₁.r14, hM₁.k2, by rw [hM₁.n2]; exact (vp_nI (by omega)).mpr (by omega), ?_⟩
  intro v6₁ g6₁
  refine ⟨by rw [hM₁.n2]; exact (vp_nI (by omega)).mpr (by omega), fun v8₁ g8₁ => ⟨by rw [hM₁.n2]; exact (vp_nI (by omega)).mpr (by omega), ?_⟩⟩
  rw [ix_nI (by omega), hI₁] at g6₁ g8₁
  rw [ix_nI (by omega), hI₁, t0₁, ← hI₁]
  rcases tc₁ with hc₁ | ⟨rfl, t1₁, tv₁⟩ | ⟨hc₁, t2₁, tv₁, t3₁, tg₁⟩
  · rcases hc₁ with rfl | rfl | rfl <;> dsimp only at h₁ hI'₁
    · refine ⟨fun y₁ => absurd y₁ (by decide), fun _ => ⟨fun y₁ => absurd y₁ (by decide), fun _ => ⟨fun y₁ => absurd y₁ (by decide), fun _ => ⟨fun _ => ?_, fun y₁ => absurd rfl y₁⟩⟩⟩⟩
      rw [if_pos rfl] at h₁
      exact r_isThere hM₁ hI₁ hW'₁ hm₁ h₁
    · refine ⟨fun y₁ => absurd y₁ (by decide), fun _ => ⟨fun y₁ => absurd y₁ (by decide), fun _ => ⟨fun y₁ => absurd y₁ (by decide), fun _ => ⟨fun y₁ => absurd y₁ (by decide), fun _ => ⟨fun _ => ⟨v114, v342, ?_⟩, fun y₁ => absurd rfl y₁⟩⟩⟩⟩⟩
      rw [x114, x342]
      rw [if_neg (by decide), if_pos rfl] at hI'₁
      exact r_hasAddress hM₁ (by omega) (by rw [hI₁]; exact hI'₁)
    · refine ⟨fun y₁ => absurd y₁ (by decide), fun _ => ⟨fun y₁ => absurd y₁ (by decide), fun _ => ⟨fun y₁ => absurd y₁ (by decide), fun _ => ⟨fun y₁ => absurd y₁ (by decide), fun _ => ⟨fun y₁ => absurd y₁ (by decide), fun _ => ⟨fun _ => ⟨v124, ?_⟩, fun y₁ => absurd rfl y₁⟩⟩⟩⟩⟩⟩
      rw [x124]
      rw [if_neg (by decide), if_neg (by decide), if_pos rfl] at hI'₁
      refine ⟨by rw [hM₁.n2]; exact vp_cn (by omega) (by decide), ?_⟩
      rw [ix_cn (by omega), hI₁]
      rw [← hI₁] at hI'₁ ⊢
      exact ⟨fun w₁ => by rw [decide_eq_false w₁] at hI'₁; exact hI'₁, fun w₁ => by rw [decide_eq_true w₁] at hI'₁; exact hI'₁⟩
  · dsimp only at h₁ hI'₁
    refine ⟨fun y₁ => absurd y₁ (by decide), fun _ => ⟨fun y₁ => absurd y₁ (by decide), fun _ => ⟨fun y₁ => absurd y₁ (by decide), fun _ => ⟨fun y₁ => absurd y₁ (by decide), fun _ => ⟨fun y₁ => absurd y₁ (by decide), fun _ => ⟨fun y₁ => absurd y₁ (by decide), fun _ => ⟨fun _ => ⟨v114, ?_⟩, fun y₁ => absurd rfl y₁⟩⟩⟩⟩⟩⟩⟩
    rw [x114, g6₁, show U₁ (427 + 4 * k₁ + 1) = nI n₁ from t1₁]
    rw [if_neg (by decide), if_neg (by decide), if_neg (by decide), if_pos rfl] at hI'₁
    exact r_isBehind hM₁ (by rw [hI₁]; exact hU₁) (by rw [hI₁]; exact hs₁) (by rw [hI₁]; exact hlz₁) (m1_ne (by omega)) (by rw [hI₁]; exact hI'₁)
  · have t3'₁ : U₁ (427 + 4 * k₁ + 3) = nI g₁ := t3₁
    have hg₁ : nI g₁ = 60 ∨ nI g₁ = 61 ∨ nI g₁ = 62 := by
      rcases tg₁ with rfl | rfl | rfl
      · exact Or.inl rfl
      · exact Or.inr (Or.inl rfl)
      · exact Or.inr (Or.inr rfl)
    rw [show U₁ (427 + 4 * k₁ + 2) = nI n₁ from t2₁] at g8₁
    subst g8₁
    rcases hc₁ with rfl | rfl | rfl | rfl <;> dsimp only at h₁ hI'₁
    · refine ⟨fun y₁ => absurd y₁ (by decide), fun _ => ⟨fun y₁ => absurd y₁ (by decide), fun _ => ⟨fun y₁ => absurd y₁ (by decide), fun _ => ⟨fun y₁ => absurd y₁ (by decide), fun _ => ⟨fun y₁ => absurd y₁ (by decide), fun _ => ⟨fun y₁ => absurd y₁ (by decide), fun _ => ⟨fun y₁ => absurd y₁ (by decide), fun _ v29₁ g29₁ => ?_⟩⟩⟩⟩⟩⟩⟩
      have e29₁ : v29₁ = 30 := by rw [g29₁]; decide
      subst e29₁
      refine ⟨fun _ => ?_, fun y₁ => absurd y₁ (by decide)⟩
      delta w_X12_holds_267
      refine ⟨fun y₁ => absurd rfl y₁, fun _ => ⟨hM₁.k, _, hM₁.r14, hM₁.k2, v124, ?_⟩⟩
      rw [x124]
      refine ⟨by rw [hM₁.n2]; exact vp_cn (by omega) (by decide), ?_⟩
      rw [ix_cn (by omega), hI₁]
      rw [if_neg (by decide), if_neg (by decide), if_neg (by decide), if_neg (by decide), if_pos rfl] at hI'₁
      exact r_333 hM₁ hI₁ hk₁ t3'₁ hg₁ hI'₁
    · refine ⟨fun y₁ => absurd y₁ (by decide), fun _ => ⟨fun y₁ => absurd y₁ (by decide), fun _ => ⟨fun y₁ => absurd y₁ (by decide), fun _ => ⟨fun y₁ => absurd y₁ (by decide), fun _ => ⟨fun y₁ => absurd y₁ (by decide), fun _ => ⟨fun y₁ => absurd y₁ (by decide), fun _ => ⟨fun y₁ => absurd y₁ (by decide), fun _ v29₁ g29₁ => ?_⟩⟩⟩⟩⟩⟩⟩
      have e29₁ : v29₁ = 31 := by rw [g29₁]; decide
      subst e29₁
      refine ⟨fun _ => ?_, fun y₁ => absurd y₁ (by decide)⟩
      delta w_X12_holds_267
      refine ⟨fun _ => ⟨fun y₁ => absurd rfl y₁, fun _ => ⟨hM₁.k, r_wheresOf hM₁ (by rw [hI₁]; exact hU₁) ?_⟩⟩, fun y₁ => absurd y₁ (by decide)⟩
      rw [hI₁]
      rw [if_neg (by decide), if_neg (by decide), if_neg (by decide), if_neg (by decide), if_neg (by decide), if_pos rfl] at hI'₁
      exact r_333 hM₁ hI₁ hk₁ t3'₁ hg₁ hI'₁
    · refine ⟨fun y₁ => absurd y₁ (by decide), fun _ => ⟨fun y₁ => absurd y₁ (by decide), fun _ => ⟨fun y₁ => absurd y₁ (by decide), fun _ => ⟨fun y₁ => absurd y₁ (by decide), fun _ => ⟨fun y₁ => absurd y₁ (by decide), fun _ => ⟨fun y₁ => absurd y₁ (by decide), fun _ => ⟨fun y₁ => absurd y₁ (by decide), fun _ v29₁ g29₁ => ?_⟩⟩⟩⟩⟩⟩⟩
      have e29₁ : v29₁ = 32 := by rw [g29₁]; decide
      subst e29₁
      rw [if_neg (by decide), if_neg (by decide), if_neg (by decide), if_neg (by decide), if_neg (by decide), if_neg (by decide), if_pos rfl] at h₁
      refine ⟨fun y₁ => absurd rfl y₁, fun _ => r_isThere hM₁ hI₁ hW'₁ hm₁ (fun J₁ f₁ => ⟨fun w₁ => ?_, fun w₁ => ?_⟩)⟩
      · rw [if_pos (of_decide_eq_true w₁)] at h₁
        have JI₁ : J₁ (m₁ + 2) = U₁ := by rw [frW_U f₁]; exact hI₁
        delta w_X12_holds_267
        refine ⟨fun _ => ⟨fun _ => ⟨fun y₁ => absurd rfl y₁, fun _ => ⟨hM₁.k, _, hM₁.r14, hM₁.k2, v342, ?_⟩⟩, fun y₁ => absurd y₁ (by decide)⟩, fun y₁ => absurd y₁ (by decide)⟩
        rw [show J₁ (m₁ + 2) (ix 342) = macV U₁ 0 by rw [JI₁]; rfl]
        refine r_valueOf hM₁ (by rw [JI₁]; exact hU₁) (by rw [JI₁]; exact hw₁) (by rw [JI₁]; exact hvt₁) (by rw [JI₁]; exact hT₁) (by rw [JI₁]; exact ho₁) (by rw [JI₁]; exact hm₁) (fun J2₁ r₁ f2₁ a31₁ er₁ => ?_)
        rw [JI₁] at er₁
        rw [er₁ (of_decide_eq_true w₁)]
        exact r_333 hM₁ (by rw [frW_U f2₁]; exact JI₁) hk₁ t3'₁ hg₁ (h₁ J2₁ (frW_t f2₁ f₁))
      · rw [if_neg (of_decide_eq_false w₁)] at h₁
        exact h₁ J₁ f₁
    · refine ⟨fun y₁ => absurd y₁ (by decide), fun _ => ⟨fun y₁ => absurd y₁ (by decide), fun _ => ⟨fun y₁ => absurd y₁ (by decide), fun _ => ⟨fun y₁ => absurd y₁ (by decide), fun _ => ⟨fun y₁ => absurd y₁ (by decide), fun _ => ⟨fun y₁ => absurd y₁ (by decide), fun _ => ⟨fun y₁ => absurd y₁ (by decide), fun _ v29₁ g29₁ => ?_⟩⟩⟩⟩⟩⟩⟩
      have e29₁ : v29₁ = 33 := by rw [g29₁]; decide
      subst e29₁
      refine ⟨fun _ => ?_, fun y₁ => absurd y₁ (by decide)⟩
      delta w_X12_holds_267
      refine ⟨fun _ => ⟨fun _ => ⟨fun _ => ?_, fun y₁ => absurd y₁ (by decide)⟩, fun y₁ => absurd y₁ (by decide)⟩, fun y₁ => absurd y₁ (by decide)⟩
      rw [if_neg (by decide), if_neg (by decide), if_neg (by decide), if_neg (by decide), if_neg (by decide), if_neg (by decide), if_neg (by decide)] at hI'₁
      exact r_333 hM₁ hI₁ hk₁ t3'₁ hg₁ hI'₁
theorem r_holdsD {v₁ : Nat} (hM₁ : MDL K₁ N₁ R₁ m₁) (hW₁ : WFU₁ U₁) (hm₁ : WFm₁ (macV U₁)) (hv₁ : v₁ < ix (U₁ 4)) : ∀ (d₁ e₁ : Nat) (l₁ : List (Nat × Nat × Nat)) (k₁ : Nat) (b₁ : Bool) (I₁ : MI) (Q₁ : Bool → MI → Prop), d₁ ≤ e₁ → k₁ < 60 → trE₁ (fun y₁ => U₁ (427 + y₁)) d₁ l₁ k₁ → (∀ st₁, l₁.foldl (stpE U₁ (macV U₁) v₁) st₁ = b₁ :: st₁) → I₁ (m₁ + 2) = U₁ →
    (∀ J₁, frW₁ m₁ J₁ I₁ → Q₁ b₁ J₁) → wd_X12_holds e₁ m₁ (nI k₁) (nI v₁) K₁ N₁ I₁ L₁ R₁ Q₁
  | 0, _, _, _, _, _, _, _, _, h₁, _, _, _ => h₁.elim
  | d₁ + 1, 0, _, _, _, _, _, he₁, _, _, _, _, _ => absurd he₁ (by omega)
  | d₁ + 1, e₁ + 1, l₁, k₁, b₁, I₁, Q₁, he₁, hk₁, hl₁, hb₁, hI₁, h₁ => by
    have ih₁ := r_holdsD hM₁ hW₁ hm₁ hv₁ d₁ e₁
    rw [wd_X12_holds]
    have one₁ : ∀ b2₁ : Bool, (∀ st₁, l₁.foldl (stpE U₁ (macV U₁) v₁) st₁ = b2₁ :: st₁) → b₁ = b2₁ := fun b2₁ h2₁ => by
      have := (hb₁ []).symm.trans (h2₁ [])
      injection this
    rw [trE₁] at hl₁
    rcases hl₁ with ⟨c₁, g₁, n₁, rfl, h1₁⟩ | ⟨l1₁, i₁, rfl, h2₁, h3₁, h4₁, h5₁⟩ | ⟨l1₁, l2₁, i₁, j₁, h1₁, h2₁, h3₁, h4₁, h5₁, h6₁, h7₁⟩
    · have e1₁ := one₁ _ (fold_leaf (lefT_c h1₁))
      subst e1₁
      exact r_leaf hM₁ hI₁ hW₁ hm₁ hk₁ hv₁ h1₁ h₁
    · obtain ⟨b1₁, hb1₁⟩ := trE_val (U₁ := U₁) (V₁ := macV U₁) (v₁ := v₁) d₁ l1₁ i₁ h5₁
      have e1₁ := one₁ _ (fold_not hb1₁)
      subst e1₁
      delta w_X12_holds
      rw [show (427 : Int32) = nI 427 from rfl, show (4 : Int32) = nI 4 from rfl, mulN, addN]
      rintro v1₁ rfl
      rw [show (2 : Int32) = nI 2 from rfl, addN, nI_1]
      refine ⟨hM₁.k, _, hM₁.r14, hM₁.k2, by rw [hM₁.n2]; exact (vp_nI (by omega)).mpr (by omega), ?_⟩
      intro v6₁ g6₁
      refine ⟨by rw [hM₁.n2]; exact (vp_nI (by omega)).mpr (by omega), fun v8₁ g8₁ => ⟨by rw [hM₁.n2]; exact (vp_nI (by omega)).mpr (by omega), ?_⟩⟩
      rw [ix_nI (by omega), hI₁, show U₁ (427 + 4 * k₁ + 1) = nI i₁ from h4₁] at g6₁
      subst g6₁
      rw [ix_nI (by omega), hI₁, show U₁ (427 + 4 * k₁) = 1 from h3₁]
      refine ⟨fun _ => ih₁ l1₁ i₁ b1₁ I₁ _ (by omega) (by omega) h5₁ hb1₁ hI₁ (fun J₁ f₁ => ⟨fun w₁ => ?_, fun w₁ => ?_⟩), fun y₁ => absurd rfl y₁⟩
      · have := h₁ J₁ f₁; rw [w₁] at this; exact this
      · have := h₁ J₁ f₁; rw [w₁] at this; exact this
    · obtain ⟨b1₁, hb1₁⟩ := trE_val (U₁ := U₁) (V₁ := macV U₁) (v₁ := v₁) d₁ l1₁ i₁ h6₁
      obtain ⟨b2₁, hb2₁⟩ := trE_val (U₁ := U₁) (V₁ := macV U₁) (v₁ := v₁) d₁ l2₁ j₁ h7₁
      delta w_X12_holds
      rw [show (427 : Int32) = nI 427 from rfl, show (4 : Int32) = nI 4 from rfl, mulN, addN]
      rintro v1₁ rfl
      rw [show (427 : Nat) + 4 * k₁ = 427 + 4 * k₁ from rfl]
      have ad2₁ : nI (427 + 4 * k₁) + 2 = nI (427 + 4 * k₁ + 2) := addN _ 2
      rw [ad2₁, nI_1]
      refine ⟨hM₁.k, _, hM₁.r14, hM₁.k2, by rw [hM₁.n2]; exact (vp_nI (by omega)).mpr (by omega), ?_⟩
      intro v6₁ g6₁
      refine ⟨by rw [hM₁.n2]; exact (vp_nI (by omega)).mpr (by omega), fun v8₁ g8₁ => ⟨by rw [hM₁.n2]; exact (vp_nI (by omega)).mpr (by omega), ?_⟩⟩
      rw [ix_nI (by omega), hI₁, show U₁ (427 + 4 * k₁ + 1) = nI i₁ from h4₁] at g6₁
      rw [ix_nI (by omega), hI₁, show U₁ (427 + 4 * k₁ + 2) = nI j₁ from h5₁] at g8₁
      subst g6₁ g8₁
      rcases h1₁ with ⟨rfl, h1₁⟩ | ⟨rfl, h1₁⟩
      · have e1₁ := one₁ _ (fold_and hb1₁ hb2₁)
        subst e1₁
        rw [ix_nI (by omega), hI₁, show U₁ (427 + 4 * k₁) = 2 from h1₁]
        refine ⟨fun y₁ => absurd y₁ (by decide), fun _ => ⟨fun _ => ih₁ l1₁ i₁ b1₁ I₁ _ (by omega) (by omega) h6₁ hb1₁ hI₁ (fun J₁ f₁ => ⟨fun w₁ => ?_, fun w₁ => ?_⟩), fun y₁ => absurd rfl y₁⟩⟩
        · have := h₁ J₁ f₁; rw [w₁] at this; exact this
        · refine ih₁ l2₁ j₁ b2₁ J₁ _ (by omega) (by omega) h7₁ hb2₁ (by rw [frW_U f₁]; exact hI₁) (fun J2₁ f2₁ => ⟨fun w2₁ => ?_, fun w2₁ => ?_⟩)
          · have := h₁ J2₁ (frW_t f2₁ f₁); rw [w₁, w2₁] at this; exact this
          · have := h₁ J2₁ (frW_t f2₁ f₁); rw [w₁, w2₁] at this; exact this
      · have e1₁ := one₁ _ (fold_or hb1₁ hb2₁)
        subst e1₁
        rw [ix_nI (by omega), hI₁, show U₁ (427 + 4 * k₁) = 3 from h1₁]
        refine ⟨fun y₁ => absurd y₁ (by decide), fun _ => ⟨fun y₁ => absurd y₁ (by decide), fun _ => ⟨fun _ => ih₁ l1₁ i₁ b1₁ I₁ _ (by omega) (by omega) h6₁ hb1₁ hI₁ (fun J₁ f₁ => ⟨fun w₁ => ?_, fun w₁ => ?_⟩), fun y₁ => absurd rfl y₁⟩⟩⟩
        · have := h₁ J₁ f₁; rw [w₁] at this; exact this
        · refine ih₁ l2₁ j₁ b2₁ J₁ _ (by omega) (by omega) h7₁ hb2₁ (by rw [frW_U f₁]; exact hI₁) (fun J2₁ f2₁ => ⟨fun w2₁ => ?_, fun w2₁ => ?_⟩)
          · have := h₁ J2₁ (frW_t f2₁ f₁); rw [w₁, w2₁] at this; exact this
          · have := h₁ J2₁ (frW_t f2₁ f₁); rw [w₁, w2₁] at this; exact this
end RE₁
