/-! ===== image, restore: both sides ===== -/
/-- what a sentence of the class holds: words, signs, numbers -/
def SED₁ (I₁ : MI) (s₁ : Nat) (l₁ : List (Nat × Nat × Nat)) : Prop := I₁ s₁ 0 = nI l₁.length ∧ l₁.length ≤ 40 ∧ ∀ i₁, i₁ < l₁.length → I₁ (s₁ + 1) i₁ = nI (l₁.getD i₁ (0, 0, 0)).1 ∧ I₁ (s₁ + 2) i₁ = nI (l₁.getD i₁ (0, 0, 0)).2.1 ∧ I₁ (s₁ + 3) i₁ = nI (l₁.getD i₁ (0, 0, 0)).2.2
section UN₁
variable {K₁ N₁ : MK} {I₁ : MI} {L₁ : ML} {R₁ : MR} {x₁ s₁ c₁ : Nat} {U₁ V₁ : Nat → Int32} {W₁ : Nat → Int64} {l₁ : List (Nat × Nat × Nat)}
theorem SED_fr {J₁ : MI} (h₁ : SED₁ I₁ s₁ l₁) (g₁ : ∀ b₁, s₁ ≤ b₁ → b₁ ≤ s₁ + 3 → J₁ b₁ = I₁ b₁) : SED₁ J₁ s₁ l₁ := by
  rw [SED₁, g₁ s₁ (by omega) (by omega), g₁ (s₁ + 1) (by omega) (by omega), g₁ (s₁ + 2) (by omega) (by omega), g₁ (s₁ + 3) (by omega) (by omega)]
  exact h₁
theorem s_scopy {Q₁ : MI → Prop} (hC₁ : SEL K₁ N₁ R₁ c₁) (hS₁ : SEL K₁ N₁ R₁ s₁) (hV₁ : SED₁ I₁ s₁ l₁) (hd₁ : c₁ + 4 < s₁ ∨ s₁ + 4 < c₁)
    (h₁ : ∀ J₁, SED₁ J₁ c₁ l₁ → (∀ b₁, b₁ ≠ c₁ → b₁ ≠ c₁ + 1 → b₁ ≠ c₁ + 2 → b₁ ≠ c₁ + 3 → J₁ b₁ = I₁ b₁) → Q₁ J₁) : w_X5_copyFrom c₁ s₁ K₁ N₁ I₁ L₁ R₁ Q₁ := by
  obtain ⟨p1₁, p2₁, p3₁, p4₁, p5₁, p6₁, p7₁, p8₁, p9₁, p10₁, p11₁, p12₁, p13₁⟩ := hC₁
  obtain ⟨q1₁, q2₁, q3₁, q4₁, q5₁, q6₁, q7₁, q8₁, q9₁, q10₁, q11₁, q12₁, q13₁⟩ := hS₁
  obtain ⟨d1₁, d2₁, d3₁⟩ := hV₁
  have ok₁ : mcp_ok 0 0 40 40 40 := by unfold mcp_ok; decide
  delta w_X5_copyFrom
  refine ⟨q1₁, p1₁, fun I3₁ g3₁ => ⟨_, q2₁, _, p2₁, q6₁, p6₁, by rw [q7₁, p7₁]; exact ok₁, fun I9₁ g9₁ => ⟨_, q3₁, _, p3₁, q8₁, p8₁, by rw [q9₁, p9₁]; exact ok₁, fun I15₁ g15₁ => ⟨_, q4₁, _, p4₁, q10₁, p10₁, by rw [q11₁, p11₁]; exact ok₁, fun I21₁ g21₁ => h₁ I21₁ ⟨?_, d2₁, fun i₁ hi₁ => ⟨?_, ?_, ?_⟩⟩ (fun b₁ z1₁ z2₁ z3₁ z4₁ => ?_)⟩⟩⟩⟩
  · rw [g21₁, mcp_ne (by omega), g15₁, mcp_ne (by omega), g9₁, mcp_ne (by omega), g3₁, mup_at]; exact d1₁
  · rw [g21₁, mcp_ne (by omega), g15₁, mcp_ne (by omega), g9₁, show ix (40 : Int32) = 40 from rfl, mcp_in (by omega), g3₁, mup_ne (by omega)]; exact (d3₁ i₁ hi₁).1
  · rw [g21₁, mcp_ne (by omega), g15₁, show ix (40 : Int32) = 40 from rfl, mcp_in (by omega), g9₁, mcp_ne (by omega), g3₁, mup_ne (by omega)]; exact (d3₁ i₁ hi₁).2.1
  · rw [g21₁, show ix (40 : Int32) = 40 from rfl, mcp_in (by omega), g15₁, mcp_ne (by omega), g9₁, mcp_ne (by omega), g3₁, mup_ne (by omega)]; exact (d3₁ i₁ hi₁).2.2
  · rw [g21₁, mcp_ne z4₁, g15₁, mcp_ne z3₁, g9₁, mcp_ne z2₁, g3₁, mup_ne z1₁]
/-- the cells that keep unit, machine, sentence k -/
def kuA₁ (x₁ k₁ : Nat) : Nat := x₁ + 118 + 25 * k₁
def kmA₁ (x₁ k₁ : Nat) : Nat := x₁ + 134 + 25 * k₁
def ksA₁ (x₁ k₁ : Nat) : Nat := x₁ + 138 + 25 * k₁
theorem PDL.ku (hX₁ : PDL K₁ N₁ R₁ x₁) {k₁ : Nat} (h₁ : k₁ < 2) : R₁ (x₁ + 73) k₁ = some (kuA₁ x₁ k₁) ∧ UL K₁ N₁ R₁ (kuA₁ x₁ k₁) := by
  obtain rfl | rfl : k₁ = 0 ∨ k₁ = 1 := by omega
  · exact ⟨hX₁.ku_0, hX₁.u0⟩
  · exact ⟨hX₁.ku_1, hX₁.u1⟩
theorem PDL.km (hX₁ : PDL K₁ N₁ R₁ x₁) {k₁ : Nat} (h₁ : k₁ < 2) : R₁ (x₁ + 74) k₁ = some (kmA₁ x₁ k₁) ∧ MAL K₁ N₁ R₁ (kmA₁ x₁ k₁) := by
  obtain rfl | rfl : k₁ = 0 ∨ k₁ = 1 := by omega
  · exact ⟨hX₁.km_0, hX₁.m0⟩
  · exact ⟨hX₁.km_1, hX₁.m1⟩
theorem PDL.ks (hX₁ : PDL K₁ N₁ R₁ x₁) {k₁ : Nat} (h₁ : k₁ < 2) : R₁ (x₁ + 75) k₁ = some (ksA₁ x₁ k₁) ∧ SEL K₁ N₁ R₁ (ksA₁ x₁ k₁) := by
  obtain rfl | rfl : k₁ = 0 ∨ k₁ = 1 := by omega
  · exact ⟨hX₁.ks_0, hX₁.s0⟩
  · exact ⟨hX₁.ks_1, hX₁.s1⟩
theorem s_image {k₁ : Int32} {Q₁ : Bool → MI → ML → Prop} (hX₁ : PDL K₁ N₁ R₁ x₁) (hu₁ : UD I₁ L₁ (x₁ + 3) U₁ W₁) (hW₁ : WFU₁ U₁) (hV₁ : MACD I₁ (x₁ + 19) V₁) (hS₁ : SED₁ I₁ (x₁ + 31) l₁) (hwd₁ : ∀ j₁, j₁ < 2 → UWd₁ I₁ (kuA₁ x₁ j₁))
    (hno₁ : inN k₁ 2 = false → Q₁ false I₁ L₁)
    (h₁ : ∀ j₁, k₁ = nI j₁ → j₁ < 2 → ∀ J₁ M₁, UD J₁ M₁ (kuA₁ x₁ j₁) U₁ W₁ → MACD J₁ (kmA₁ x₁ j₁) V₁ → SED₁ J₁ (ksA₁ x₁ j₁) l₁ → J₁ (x₁ + 76) j₁ = 1 → (∀ y₁, y₁ ≠ j₁ → J₁ (x₁ + 76) y₁ = I₁ (x₁ + 76) y₁) → (∀ b₁, b₁ ≠ x₁ + 76 → b₁ < kuA₁ x₁ j₁ ∨ kuA₁ x₁ j₁ + 24 < b₁ → J₁ b₁ = I₁ b₁) → (∀ b₁, b₁ < kuA₁ x₁ j₁ ∨ kuA₁ x₁ j₁ + 15 < b₁ → M₁ b₁ = L₁ b₁) → Q₁ true J₁ M₁) : w_X11_image x₁ k₁ K₁ N₁ I₁ L₁ R₁ Q₁ := by
  delta w_X11_image
  refine ⟨hX₁.k, _, hX₁.r_kept, hX₁.kk_k, s_isIn ?_⟩
  rw [isInB_pred (by rw [hX₁.kk_n]) (by decide)]
  refine ⟨fun e₁ => ?_, hno₁⟩
  obtain ⟨j₁, hj₁, rfl⟩ := inN_t e₁ (by decide)
  rw [ix_nI (by omega)]
  have a1₁ : x₁ + 118 ≤ kuA₁ x₁ j₁ := by rw [kuA₁]; omega
  have a2₁ : kmA₁ x₁ j₁ = kuA₁ x₁ j₁ + 16 := by rw [kuA₁, kmA₁]; omega
  have a3₁ : ksA₁ x₁ j₁ = kuA₁ x₁ j₁ + 20 := by rw [kuA₁, ksA₁]; omega
  refine ⟨_, hX₁.r_keptUnits, hX₁.ku_k, by rw [hX₁.ku_n]; exact (vp_nI (by omega)).mpr hj₁, _, (hX₁.ku hj₁).1, _, hX₁.r_unit, (hX₁.ku hj₁).2.1, s_ucopy (hX₁.ku hj₁).2 hX₁.un hu₁ hW₁ (hwd₁ j₁ hj₁) (by omega) (fun J1₁ M1₁ d1₁ f1₁ l1₁ => ⟨_, hX₁.r_keptMachines, hX₁.km_k, by rw [hX₁.km_n]; exact (vp_nI (by omega)).mpr hj₁, _, (hX₁.km hj₁).1, _, hX₁.r_machine, (hX₁.km hj₁).2.1, s_copyFrom (hX₁.km hj₁).2 hX₁.mac (MACD_fr hV₁ (fun b₁ hb₁ => f1₁ b₁ (by omega))) (by omega) (fun J2₁ d2₁ f2₁ => ⟨_, hX₁.r_keptSentences, hX₁.ks_k, by rw [hX₁.ks_n]; exact (vp_nI (by omega)).mpr hj₁, _, (hX₁.ks hj₁).1, _, hX₁.r_sentence, (hX₁.ks hj₁).2.1, s_scopy (hX₁.ks hj₁).2 hX₁.sen (SED_fr hS₁ (fun b₁ h1₁ h2₁ => by rw [f2₁ b₁ (by omega) (by omega) (by omega) (by omega), f1₁ b₁ (by omega)])) (by omega) (fun J3₁ d3₁ f3₁ => ⟨by rw [hX₁.kk_n]; exact (vp_nI (by omega)).mpr hj₁, fun J4₁ g4₁ => ?_⟩)⟩)⟩)⟩
  have f4₁ : ∀ b₁, b₁ ≠ x₁ + 76 → J4₁ b₁ = J3₁ b₁ := fun b₁ hb₁ => by rw [g4₁, mup_ne hb₁]
  have f34₁ : ∀ b₁, b₁ ≠ x₁ + 76 → b₁ < kuA₁ x₁ j₁ ∨ kuA₁ x₁ j₁ + 24 < b₁ → J4₁ b₁ = I₁ b₁ := fun b₁ hb₁ hb2₁ => by rw [f4₁ b₁ hb₁, f3₁ b₁ (by omega) (by omega) (by omega) (by omega), f2₁ b₁ (by omega) (by omega) (by omega) (by omega), f1₁ b₁ (by omega)]
  refine h₁ j₁ rfl hj₁ J4₁ M1₁ (UD_fr d1₁ (fun b₁ h1₁ h2₁ => by rw [f4₁ b₁ (by omega), f3₁ b₁ (by omega) (by omega) (by omega) (by omega), f2₁ b₁ (by omega) (by omega) (by omega) (by omega)])) (MACD_fr d2₁ (fun b₁ hb₁ => by rw [f4₁ b₁ (by omega), f3₁ b₁ (by omega) (by omega) (by omega) (by omega)])) (SED_fr d3₁ (fun b₁ h1₁ h2₁ => f4₁ b₁ (by omega))) ?_ (fun y₁ hy₁ => ?_) f34₁ (fun b₁ hb₁ => l1₁ b₁ (by omega))
  · rw [g4₁, mup_at]; rfl
  · rw [g4₁, mup_k hy₁, f3₁ _ (by omega) (by omega) (by omega) (by omega), f2₁ _ (by omega) (by omega) (by omega) (by omega), f1₁ _ (by omega)]
theorem s_restore {k₁ : Int32} {Q₁ : Bool → MI → ML → Prop} (hX₁ : PDL K₁ N₁ R₁ x₁) (hwd₁ : UWd₁ I₁ (x₁ + 3))
    (hno₁ : inN k₁ 2 = false → Q₁ false I₁ L₁) (hno2 : ∀ j₁, k₁ = nI j₁ → j₁ < 2 → I₁ (x₁ + 76) j₁ = 0 → Q₁ false I₁ L₁)
    (hk₁ : ∀ j₁, j₁ < 2 → I₁ (x₁ + 76) j₁ ≠ 0 → ∃ U₁ W₁ V₁ l₁, UD I₁ L₁ (kuA₁ x₁ j₁) U₁ W₁ ∧ WFU₁ U₁ ∧ MACD I₁ (kmA₁ x₁ j₁) V₁ ∧ SED₁ I₁ (ksA₁ x₁ j₁) l₁)
    (h₁ : ∀ j₁ U₁ W₁ V₁ l₁, k₁ = nI j₁ → j₁ < 2 → I₁ (x₁ + 76) j₁ ≠ 0 → UD I₁ L₁ (kuA₁ x₁ j₁) U₁ W₁ → WFU₁ U₁ → MACD I₁ (kmA₁ x₁ j₁) V₁ → SED₁ I₁ (ksA₁ x₁ j₁) l₁ → ∀ J₁ M₁, UD J₁ M₁ (x₁ + 3) U₁ W₁ → MACD J₁ (x₁ + 19) V₁ → SED₁ J₁ (x₁ + 31) l₁ → J₁ x₁ 5 = 0 → (∀ y₁, y₁ ≠ 5 → J₁ x₁ y₁ = I₁ x₁ y₁) → (∀ b₁, b₁ ≠ x₁ → b₁ < x₁ + 3 ∨ x₁ + 22 < b₁ → b₁ < x₁ + 31 ∨ x₁ + 34 < b₁ → J₁ b₁ = I₁ b₁) → (∀ b₁, b₁ < x₁ + 3 ∨ x₁ + 18 < b₁ → M₁ b₁ = L₁ b₁) → Q₁ true J₁ M₁) : w_X11_restore x₁ k₁ K₁ N₁ I₁ L₁ R₁ Q₁ := by
  delta w_X11_restore
  refine ⟨hX₁.k, _, hX₁.r_kept, hX₁.kk_k, s_isIn ?_⟩
  rw [isInB_pred (by rw [hX₁.kk_n]) (by decide)]
  refine ⟨hno₁, fun e₁ => ?_⟩
  obtain ⟨j₁, hj₁, rfl⟩ := inN_t e₁ (by decide)
  rw [ix_nI (by omega)]
  refine ⟨by rw [hX₁.kk_n]; exact (vp_nI (by omega)).mpr hj₁, fun e2₁ => ?_, hno2 j₁ rfl hj₁⟩
  have a1₁ : x₁ + 118 ≤ kuA₁ x₁ j₁ := by rw [kuA₁]; omega
  have a2₁ : kmA₁ x₁ j₁ = kuA₁ x₁ j₁ + 16 := by rw [kuA₁, kmA₁]; omega
  have a3₁ : ksA₁ x₁ j₁ = kuA₁ x₁ j₁ + 20 := by rw [kuA₁, ksA₁]; omega
  obtain ⟨U₁, W₁, V₁, l₁, hu₁, hW₁, hV₁, hS₁⟩ := hk₁ j₁ hj₁ e2₁
  refine ⟨_, hX₁.r_unit, _, hX₁.r_keptUnits, hX₁.ku_k, by rw [hX₁.ku_n]; exact (vp_nI (by omega)).mpr hj₁, _, (hX₁.ku hj₁).1, hX₁.un.1, s_ucopy hX₁.un (hX₁.ku hj₁).2 hu₁ hW₁ hwd₁ (by omega) (fun J1₁ M1₁ d1₁ f1₁ l1₁ => ⟨_, hX₁.r_machine, _, hX₁.r_keptMachines, hX₁.km_k, by rw [hX₁.km_n]; exact (vp_nI (by omega)).mpr hj₁, _, (hX₁.km hj₁).1, hX₁.mac.1, s_copyFrom hX₁.mac (hX₁.km hj₁).2 (MACD_fr hV₁ (fun b₁ hb₁ => f1₁ b₁ (by omega))) (by omega) (fun J2₁ d2₁ f2₁ => ⟨_, hX₁.r_sentence, _, hX₁.r_keptSentences, hX₁.ks_k, by rw [hX₁.ks_n]; exact (vp_nI (by omega)).mpr hj₁, _, (hX₁.ks hj₁).1, hX₁.sen.1, s_scopy hX₁.sen (hX₁.ks hj₁).2 (SED_fr hS₁ (fun b₁ h1₁ h2₁ => by rw [f2₁ b₁ (by omega) (by omega) (by omega) (by omega), f1₁ b₁ (by omega)])) (by omega) (fun J3₁ d3₁ f3₁ J4₁ g4₁ => ?_)⟩)⟩)⟩
  have f4₁ : ∀ b₁, b₁ ≠ x₁ → J4₁ b₁ = J3₁ b₁ := fun b₁ hb₁ => by rw [g4₁, mup_ne hb₁]
  refine h₁ j₁ U₁ W₁ V₁ l₁ rfl hj₁ e2₁ hu₁ hW₁ hV₁ hS₁ J4₁ M1₁ (UD_fr d1₁ (fun b₁ h1₁ h2₁ => by rw [f4₁ b₁ (by omega), f3₁ b₁ (by omega) (by omega) (by omega) (by omega), f2₁ b₁ (by omega) (by omega) (by omega) (by omega)])) (MACD_fr d2₁ (fun b₁ hb₁ => by rw [f4₁ b₁ (by omega), f3₁ b₁ (by omega) (by omega) (by omega) (by omega)])) (SED_fr d3₁ (fun b₁ h1₁ h2₁ => f4₁ b₁ (by omega))) ?_ (fun y₁ hy₁ => ?_) (fun b₁ h1₁ h2₁ h3₁ => ?_) (fun b₁ hb₁ => l1₁ b₁ (by omega))
  · rw [g4₁, mup_at]
  · rw [g4₁, mup_k hy₁, f3₁ _ (by omega) (by omega) (by omega) (by omega), f2₁ _ (by omega) (by omega) (by omega) (by omega), f1₁ _ (by omega)]
  · rw [f4₁ b₁ h1₁, f3₁ b₁ (by omega) (by omega) (by omega) (by omega), f2₁ b₁ (by omega) (by omega) (by omega) (by omega), f1₁ b₁ (by omega)]
end UN₁
section RG₁
variable {K₁ N₁ : MK} {I₁ : MI} {L₁ : ML} {R₁ : MR} {m₁ : Nat}
theorem r_image {k₁ : Int32} {Q₁ : Bool → MI → ML → Prop} (hM₁ : MDL K₁ N₁ R₁ m₁)
    (hno₁ : inN k₁ 2 = false → Q₁ false (mup I₁ m₁ 0 0) L₁)
    (h₁ : ∀ j₁, k₁ = nI j₁ → j₁ < 2 → ∀ J₁ M₁, (∀ y₁, y₁ < 667 → J₁ (m₁ + 4) (667 * j₁ + y₁) = I₁ (m₁ + 2) y₁) → (∀ y₁, y₁ < 667 * j₁ ∨ 667 * j₁ + 667 ≤ y₁ → J₁ (m₁ + 4) y₁ = I₁ (m₁ + 4) y₁) → J₁ (m₁ + 11) j₁ = 1 → (∀ y₁, y₁ ≠ j₁ → J₁ (m₁ + 11) y₁ = I₁ (m₁ + 11) y₁) → (∀ y₁, y₁ ≠ 0 → J₁ m₁ y₁ = I₁ m₁ y₁) → (∀ b₁, b₁ ≠ m₁ → b₁ ≠ m₁ + 4 → b₁ ≠ m₁ + 11 → J₁ b₁ = I₁ b₁) → (∀ y₁, y₁ < 26 → M₁ (m₁ + 10) (26 * j₁ + y₁) = L₁ (m₁ + 8) y₁) → (∀ y₁, y₁ < 26 * j₁ ∨ 26 * j₁ + 26 ≤ y₁ → M₁ (m₁ + 10) y₁ = L₁ (m₁ + 10) y₁) → (∀ b₁, b₁ ≠ m₁ + 10 → M₁ b₁ = L₁ b₁) → Q₁ true J₁ M₁) : w_X12_image m₁ k₁ K₁ N₁ I₁ L₁ R₁ Q₁ := by
  delta w_X12_image
  refine ⟨hM₁.k, fun I2₁ g2₁ => r_isIn ?_⟩
  rw [← g2₁] at hno₁
  rw [show isInB k₁ 0 1 = inN k₁ 2 from isInB_lit 1 (by decide)]
  refine ⟨fun e₁ => ?_, hno₁⟩
  obtain ⟨j₁, hj₁, rfl⟩ := inN_t e₁ (by decide)
  have b2₁ : ∀ b₁, b₁ ≠ m₁ → I2₁ b₁ = I₁ b₁ := fun b₁ hb₁ => by rw [g2₁, mup_ne hb₁]
  delta w_X12_image_18
  refine ⟨fun n1₁ y0₁ y1₁ y2₁ I1₁ L1₁ => y0₁ = m₁ ∧ y1₁ = nI j₁ ∧ ∃ i₁, i₁ ≤ 667 ∧ n1₁ = 667 - i₁ ∧ y2₁ = nI i₁ ∧ (∀ y₁, y₁ < i₁ → I1₁ (m₁ + 4) (667 * j₁ + y₁) = I₁ (m₁ + 2) y₁) ∧ (∀ y₁, y₁ < 667 * j₁ ∨ 667 * j₁ + i₁ ≤ y₁ → I1₁ (m₁ + 4) y₁ = I₁ (m₁ + 4) y₁) ∧ (∀ z₁, z₁ ≠ m₁ + 4 → I1₁ z₁ = I2₁ z₁) ∧ L1₁ = L₁, ⟨667, rfl, rfl, 0, by omega, rfl, rfl, fun y₁ hy₁ => absurd hy₁ (by omega), fun y₁ _ => by rw [b2₁ _ (by omega)], fun z₁ _ => rfl, rfl⟩, ?_⟩
  rintro n1₁ y0₁ y1₁ y2₁ I1₁ L1₁ ⟨rfl, rfl, i₁, hi₁, rfl, rfl, p1₁, p2₁, p3₁, rfl⟩
  rw [show (667 : Int32) = nI 667 from rfl, leN (by omega) (by omega)]
  refine ⟨fun e₁ => ?_, fun e₁ => ?_⟩
  · rw [show i₁ = 667 by omega] at p1₁ p2₁
    delta w_X12_image_51
    refine ⟨fun n1₁ z0₁ z1₁ z2₁ I3₁ L3₁ => z0₁ = y0₁ ∧ z1₁ = nI j₁ ∧ ∃ i₁, i₁ ≤ 26 ∧ n1₁ = 26 - i₁ ∧ z2₁ = nI i₁ ∧ I3₁ = I1₁ ∧ (∀ y₁, y₁ < i₁ → L3₁ (y0₁ + 10) (26 * j₁ + y₁) = L1₁ (y0₁ + 8) y₁) ∧ (∀ y₁, y₁ < 26 * j₁ ∨ 26 * j₁ + i₁ ≤ y₁ → L3₁ (y0₁ + 10) y₁ = L1₁ (y0₁ + 10) y₁) ∧ (∀ z₁, z₁ ≠ y0₁ + 10 → L3₁ z₁ = L1₁ z₁), ⟨26, rfl, rfl, 0, by omega, rfl, rfl, rfl, fun y₁ hy₁ => absurd hy₁ (by omega), fun y₁ _ => rfl, fun z₁ _ => rfl⟩, ?_⟩
    rintro n1₁ z0₁ z1₁ z2₁ I3₁ L3₁ ⟨rfl, rfl, i₁, hi₁, rfl, rfl, rfl, q1₁, q2₁, q3₁⟩
    rw [show (26 : Int32) = nI 26 from rfl, leN (by omega) (by omega), mulN, addN]
    refine ⟨fun e₁ => ⟨hM₁.k, _, hM₁.r23, hM₁.k11, by rw [hM₁.n11]; exact (vp_nI (by omega)).mpr hj₁, fun I8₁ g8₁ => ?_⟩, fun e₁ => ⟨hM₁.k, _, hM₁.r22, _, hM₁.r20, hM₁.k8, by rw [hM₁.n8]; exact (vp_nI (by omega)).mpr (by omega), hM₁.k10, by rw [hM₁.n10]; exact (vp_nI (by omega)).mpr (by omega), fun L16₁ g16₁ v17₁ g17₁ => ⟨26 - (i₁ + 1), by omega, rfl, rfl, i₁ + 1, by omega, rfl, by rw [g17₁, nI_1], rfl, fun y₁ hy₁ => ?_, fun y₁ hy₁ => ?_, fun z₁ hz₁ => ?_⟩⟩⟩
    · rw [show i₁ = 26 by omega] at q1₁ q2₁
      rw [ix_nI (by omega)] at g8₁
      refine h₁ j₁ rfl hj₁ I8₁ L3₁ (fun y₁ hy₁ => ?_) (fun y₁ hy₁ => ?_) ?_ (fun y₁ hy₁ => ?_) (fun y₁ hy₁ => ?_) (fun b₁ h1₁ h2₁ h3₁ => ?_) q1₁ q2₁ q3₁
      · rw [g8₁, mup_ne (by omega)]; exact p1₁ y₁ hy₁
      · rw [g8₁, mup_ne (by omega)]; exact p2₁ y₁ hy₁
      · rw [g8₁, mup_at]; rfl
      · rw [g8₁, mup_k hy₁, p3₁ _ (by omega), b2₁ _ (by omega)]
      · rw [g8₁, mup_ne (by omega), p3₁ _ (by omega), g2₁, mup_k hy₁]
      · rw [g8₁, mup_ne h3₁, p3₁ _ h2₁, b2₁ _ h1₁]
    · rw [ix_nI (by omega), ix_nI (by omega)] at g16₁
      rw [g16₁]
      by_cases q₁ : y₁ = i₁
      · rw [q₁, mup_at, q3₁ _ (by omega)]
      · rw [mup_k (by omega)]; exact q1₁ y₁ (by omega)
    · rw [ix_nI (by omega), ix_nI (by omega)] at g16₁
      rw [g16₁, mup_k (by omega)]; exact q2₁ y₁ (by omega)
    · rw [g16₁, mup_ne hz₁]; exact q3₁ z₁ hz₁
  · rw [mulN, addN]
    refine ⟨hM₁.k, _, hM₁.r16, _, hM₁.r14, hM₁.k2, by rw [hM₁.n2]; exact (vp_nI (by omega)).mpr (by omega), hM₁.k4, by rw [hM₁.n4]; exact (vp_nI (by omega)).mpr (by omega), fun I25₁ g25₁ v26₁ g26₁ => ⟨667 - (i₁ + 1), by omega, rfl, rfl, i₁ + 1, by omega, rfl, by rw [g26₁, nI_1], fun y₁ hy₁ => ?_, fun y₁ hy₁ => ?_, fun z₁ hz₁ => ?_, rfl⟩⟩
    · rw [ix_nI (by omega), ix_nI (by omega)] at g25₁
      rw [g25₁]
      by_cases q₁ : y₁ = i₁
      · rw [q₁, mup_at, p3₁ _ (by omega), b2₁ _ (by omega)]
      · rw [mup_k (by omega)]; exact p1₁ y₁ (by omega)
    · rw [ix_nI (by omega), ix_nI (by omega)] at g25₁
      rw [g25₁, mup_k (by omega)]; exact p2₁ y₁ (by omega)
    · rw [g25₁, mup_ne hz₁]; exact p3₁ z₁ hz₁
theorem r_restore {k₁ : Int32} {Q₁ : Bool → MI → ML → Prop} (hM₁ : MDL K₁ N₁ R₁ m₁)
    (hno₁ : inN k₁ 2 = false → Q₁ false (mup I₁ m₁ 0 0) L₁) (hno2 : ∀ j₁, k₁ = nI j₁ → j₁ < 2 → I₁ (m₁ + 11) j₁ = 0 → Q₁ false (mup I₁ m₁ 0 0) L₁)
    (h₁ : ∀ j₁, k₁ = nI j₁ → j₁ < 2 → I₁ (m₁ + 11) j₁ ≠ 0 → ∀ J₁ M₁, (∀ y₁, y₁ < 667 → J₁ (m₁ + 2) y₁ = I₁ (m₁ + 4) (667 * j₁ + y₁)) → (∀ y₁, 667 ≤ y₁ → J₁ (m₁ + 2) y₁ = I₁ (m₁ + 2) y₁) → J₁ m₁ 24 = 0 → (∀ y₁, y₁ ≠ 0 → y₁ ≠ 24 → J₁ m₁ y₁ = I₁ m₁ y₁) → (∀ b₁, b₁ ≠ m₁ → b₁ ≠ m₁ + 2 → J₁ b₁ = I₁ b₁) → (∀ y₁, y₁ < 26 → M₁ (m₁ + 8) y₁ = L₁ (m₁ + 10) (26 * j₁ + y₁)) → (∀ b₁, b₁ ≠ m₁ + 8 → M₁ b₁ = L₁ b₁) → Q₁ true J₁ M₁) : w_X12_restore m₁ k₁ K₁ N₁ I₁ L₁ R₁ Q₁ := by
  delta w_X12_restore
  refine ⟨hM₁.k, fun I2₁ g2₁ => r_isIn ?_⟩
  rw [← g2₁] at hno₁ hno2
  rw [show isInB k₁ 0 1 = inN k₁ 2 from isInB_lit 1 (by decide)]
  refine ⟨hno₁, fun e₁ => ?_⟩
  obtain ⟨j₁, hj₁, rfl⟩ := inN_t e₁ (by decide)
  have b2₁ : ∀ b₁, b₁ ≠ m₁ → I2₁ b₁ = I₁ b₁ := fun b₁ hb₁ => by rw [g2₁, mup_ne hb₁]
  refine ⟨_, hM₁.r23, hM₁.k11, by rw [hM₁.n11]; exact (vp_nI (by omega)).mpr hj₁, ?_⟩
  rw [b2₁ _ (by omega), ix_nI (by omega)]
  refine ⟨fun e2₁ => ?_, hno2 j₁ rfl hj₁⟩
  delta w_X12_restore_27
  refine ⟨fun n1₁ y0₁ y1₁ y2₁ I1₁ L1₁ => y0₁ = m₁ ∧ y1₁ = nI j₁ ∧ ∃ i₁, i₁ ≤ 667 ∧ n1₁ = 667 - i₁ ∧ y2₁ = nI i₁ ∧ (∀ y₁, y₁ < i₁ → I1₁ (m₁ + 2) y₁ = I₁ (m₁ + 4) (667 * j₁ + y₁)) ∧ (∀ y₁, i₁ ≤ y₁ → I1₁ (m₁ + 2) y₁ = I₁ (m₁ + 2) y₁) ∧ (∀ z₁, z₁ ≠ m₁ + 2 → I1₁ z₁ = I2₁ z₁) ∧ L1₁ = L₁, ⟨667, rfl, rfl, 0, by omega, rfl, rfl, fun y₁ hy₁ => absurd hy₁ (by omega), fun y₁ _ => by rw [b2₁ _ (by omega)], fun z₁ _ => rfl, rfl⟩, ?_⟩
  rintro n1₁ y0₁ y1₁ y2₁ I1₁ L1₁ ⟨rfl, rfl, i₁, hi₁, rfl, rfl, p1₁, p2₁, p3₁, rfl⟩
  rw [show (667 : Int32) = nI 667 from rfl, leN (by omega) (by omega)]
  refine ⟨fun e₁ => ?_, fun e₁ => ?_⟩
  · rw [show i₁ = 667 by omega] at p1₁ p2₁
    delta w_X12_restore_60
    refine ⟨fun n1₁ z0₁ z1₁ z2₁ I3₁ L3₁ => z0₁ = y0₁ ∧ z1₁ = nI j₁ ∧ ∃ i₁, i₁ ≤ 26 ∧ n1₁ = 26 - i₁ ∧ z2₁ = nI i₁ ∧ I3₁ = I1₁ ∧ (∀ y₁, y₁ < i₁ → L3₁ (y0₁ + 8) y₁ = L1₁ (y0₁ + 10) (26 * j₁ + y₁)) ∧ (∀ z₁, z₁ ≠ y0₁ + 8 → L3₁ z₁ = L1₁ z₁), ⟨26, rfl, rfl, 0, by omega, rfl, rfl, rfl, fun y₁ hy₁ => absurd hy₁ (by omega), fun z₁ _ => rfl⟩, ?_⟩
    rintro n1₁ z0₁ z1₁ z2₁ I3₁ L3₁ ⟨rfl, rfl, i₁, hi₁, rfl, rfl, rfl, q1₁, q3₁⟩
    rw [show (26 : Int32) = nI 26 from rfl, leN (by omega) (by omega), mulN, addN]
    refine ⟨fun e₁ => ⟨hM₁.k, fun I8₁ g8₁ => ?_⟩, fun e₁ => ⟨hM₁.k, _, hM₁.r20, _, hM₁.r22, hM₁.k10, by rw [hM₁.n10]; exact (vp_nI (by omega)).mpr (by omega), hM₁.k8, by rw [hM₁.n8]; exact (vp_nI (by omega)).mpr (by omega), fun L16₁ g16₁ v17₁ g17₁ => ⟨26 - (i₁ + 1), by omega, rfl, rfl, i₁ + 1, by omega, rfl, by rw [g17₁, nI_1], rfl, fun y₁ hy₁ => ?_, fun z₁ hz₁ => ?_⟩⟩⟩
    · rw [show i₁ = 26 by omega] at q1₁
      refine h₁ j₁ rfl hj₁ e2₁ I8₁ L3₁ (fun y₁ hy₁ => ?_) (fun y₁ hy₁ => ?_) ?_ (fun y₁ h1₁ h2₁ => ?_) (fun b₁ h1₁ h2₁ => ?_) q1₁ q3₁
      · rw [g8₁, mup_ne (by omega)]; exact p1₁ y₁ hy₁
      · rw [g8₁, mup_ne (by omega)]; exact p2₁ y₁ hy₁
      · rw [g8₁, mup_at]
      · rw [g8₁, mup_k h2₁, p3₁ _ (by omega), g2₁, mup_k h1₁]
      · rw [g8₁, mup_ne h1₁, p3₁ _ h2₁, b2₁ _ h1₁]
    · rw [ix_nI (by omega), ix_nI (by omega)] at g16₁
      rw [g16₁]
      by_cases q₁ : y₁ = i₁
      · rw [q₁, mup_at, q3₁ _ (by omega)]
      · rw [mup_k (by omega)]; exact q1₁ y₁ (by omega)
    · rw [g16₁, mup_ne hz₁]; exact q3₁ z₁ hz₁
  · rw [mulN, addN]
    refine ⟨hM₁.k, _, hM₁.r14, _, hM₁.r16, hM₁.k4, by rw [hM₁.n4]; exact (vp_nI (by omega)).mpr (by omega), hM₁.k2, by rw [hM₁.n2]; exact (vp_nI (by omega)).mpr (by omega), fun I25₁ g25₁ v26₁ g26₁ => ⟨667 - (i₁ + 1), by omega, rfl, rfl, i₁ + 1, by omega, rfl, by rw [g26₁, nI_1], fun y₁ hy₁ => ?_, fun y₁ hy₁ => ?_, fun z₁ hz₁ => ?_, rfl⟩⟩
    · rw [ix_nI (by omega), ix_nI (by omega)] at g25₁
      rw [g25₁]
      by_cases q₁ : y₁ = i₁
      · rw [q₁, mup_at, p3₁ _ (by omega), b2₁ _ (by omega)]
      · rw [mup_k (by omega)]; exact p1₁ y₁ (by omega)
    · rw [ix_nI (by omega), ix_nI (by omega)] at g25₁
      rw [g25₁, mup_k (by omega)]; exact p2₁ y₁ (by omega)
    · rw [g25₁, mup_ne hz₁]; exact p3₁ z₁ hz₁
end RG₁
