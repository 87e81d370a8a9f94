/-! ===== a sentence read: the reference's tree ===== -/
/-- a node without others in it -/
def lefT (T₁ : Nat → Int32) (k₁ c₁ g₁ v₁ : Nat) : Prop := T₁ (4 * k₁) = nI (50 + wpL₁.getD c₁ 0) ∧ ((c₁ = 28 ∨ c₁ = 29 ∨ c₁ = 7) ∨ (c₁ = 30 ∧ T₁ (4 * k₁ + 1) = nI v₁ ∧ v₁ < 1000) ∨ ((c₁ = 31 ∨ c₁ = 32 ∨ c₁ = 9 ∨ c₁ = 33) ∧ T₁ (4 * k₁ + 2) = nI v₁ ∧ v₁ < 1000 ∧ T₁ (4 * k₁ + 3) = nI g₁ ∧ (g₁ = 60 ∨ g₁ = 61 ∨ g₁ = 62)))
/-- the tree at k says what the list says -/
def trE₁ (T₁ : Nat → Int32) : Nat → List (Nat × Nat × Nat) → Nat → Prop
  | 0, _, _ => False
  | d₁ + 1, l₁, k₁ => (∃ c₁ g₁ v₁, l₁ = [(c₁, g₁, v₁)] ∧ lefT T₁ k₁ c₁ g₁ v₁) ∨ (∃ l1₁ i₁, l₁ = l1₁ ++ [(27, 0, 0)] ∧ i₁ < k₁ ∧ T₁ (4 * k₁) = 1 ∧ T₁ (4 * k₁ + 1) = nI i₁ ∧ trE₁ T₁ d₁ l1₁ i₁) ∨
    ∃ l1₁ l2₁ i₁ j₁, (l₁ = l1₁ ++ l2₁ ++ [(26, 0, 0)] ∧ T₁ (4 * k₁) = 2 ∨ l₁ = l1₁ ++ l2₁ ++ [(25, 0, 0)] ∧ T₁ (4 * k₁) = 3) ∧ i₁ < k₁ ∧ j₁ < k₁ ∧ T₁ (4 * k₁ + 1) = nI i₁ ∧ T₁ (4 * k₁ + 2) = nI j₁ ∧ trE₁ T₁ d₁ l1₁ i₁ ∧ trE₁ T₁ d₁ l2₁ j₁
theorem trE_m {T₁ : Nat → Int32} : ∀ (d₁ e₁ : Nat) (l₁ : List (Nat × Nat × Nat)) (k₁ : Nat), d₁ ≤ e₁ → trE₁ T₁ d₁ l₁ k₁ → trE₁ T₁ e₁ l₁ k₁
  | 0, _, _, _, _, h₁ => h₁.elim
  | d₁ + 1, 0, _, _, hd₁, _ => absurd hd₁ (by omega)
  | d₁ + 1, e₁ + 1, l₁, k₁, hd₁, h₁ => by
    rw [trE₁] at h₁ ⊢
    rcases h₁ with h₁ | ⟨l1₁, i₁, h1₁, h2₁, h3₁, h4₁, h5₁⟩ | ⟨l1₁, l2₁, i₁, j₁, h1₁, h2₁, h3₁, h4₁, h5₁, h6₁, h7₁⟩
    · exact Or.inl h₁
    · exact Or.inr (Or.inl ⟨l1₁, i₁, h1₁, h2₁, h3₁, h4₁, trE_m d₁ e₁ l1₁ i₁ (by omega) h5₁⟩)
    · exact Or.inr (Or.inr ⟨l1₁, l2₁, i₁, j₁, h1₁, h2₁, h3₁, h4₁, h5₁, trE_m d₁ e₁ l1₁ i₁ (by omega) h6₁, trE_m d₁ e₁ l2₁ j₁ (by omega) h7₁⟩)
theorem trE_fr {T₁ S₁ : Nat → Int32} : ∀ (d₁ : Nat) (l₁ : List (Nat × Nat × Nat)) (k₁ : Nat), (∀ y₁, y₁ < 4 * (k₁ + 1) → S₁ y₁ = T₁ y₁) → trE₁ T₁ d₁ l₁ k₁ → trE₁ S₁ d₁ l₁ k₁
  | 0, _, _, _, h₁ => h₁.elim
  | d₁ + 1, l₁, k₁, hf₁, h₁ => by
    have f0₁ := hf₁ (4 * k₁) (by omega)
    have f1₁ := hf₁ (4 * k₁ + 1) (by omega)
    have f2₁ := hf₁ (4 * k₁ + 2) (by omega)
    have f3₁ := hf₁ (4 * k₁ + 3) (by omega)
    rw [trE₁] at h₁ ⊢
    rcases h₁ with ⟨c₁, g₁, v₁, h0₁, h1₁⟩ | ⟨l1₁, i₁, h1₁, h2₁, h3₁, h4₁, h5₁⟩ | ⟨l1₁, l2₁, i₁, j₁, h1₁, h2₁, h3₁, h4₁, h5₁, h6₁, h7₁⟩
    · exact Or.inl ⟨c₁, g₁, v₁, h0₁, by rw [lefT, f0₁, f1₁, f2₁, f3₁]; exact h1₁⟩
    · exact Or.inr (Or.inl ⟨l1₁, i₁, h1₁, h2₁, by rw [f0₁]; exact h3₁, by rw [f1₁]; exact h4₁, trE_fr d₁ l1₁ i₁ (fun y₁ hy₁ => hf₁ y₁ (by omega)) h5₁⟩)
    · exact Or.inr (Or.inr ⟨l1₁, l2₁, i₁, j₁, by rw [f0₁]; exact h1₁, h2₁, h3₁, by rw [f1₁]; exact h4₁, by rw [f2₁]; exact h5₁, trE_fr d₁ l1₁ i₁ (fun y₁ hy₁ => hf₁ y₁ (by omega)) h6₁, trE_fr d₁ l2₁ j₁ (fun y₁ hy₁ => hf₁ y₁ (by omega)) h7₁⟩)
section RS₁
variable {K₁ N₁ : MK} {I₁ : MI} {L₁ : ML} {R₁ : MR} {m₁ n₁ p₁ k₁ sc₁ : Nat} {B₁ : Nat → Nat} {NM₁ : Nat → List Nat}
theorem r_saysOne {w₁ a₁ b₁ r₁ : Int32} {nd₁ : Nat} {Q₁ : Int32 → MI → Prop} (hM₁ : MDL K₁ N₁ R₁ m₁) (hn₁ : I₁ m₁ 54 = nI nd₁) (hd₁ : nd₁ < 60)
    (h₁ : ∀ J₁, J₁ m₁ 54 = nI (nd₁ + 1) → J₁ (m₁ + 25) (4 * nd₁) = w₁ → J₁ (m₁ + 25) (4 * nd₁ + 1) = a₁ → J₁ (m₁ + 25) (4 * nd₁ + 2) = b₁ → J₁ (m₁ + 25) (4 * nd₁ + 3) = r₁ → (∀ y₁, y₁ < 4 * nd₁ → J₁ (m₁ + 25) y₁ = I₁ (m₁ + 25) y₁) → (∀ c₁, c₁ ≠ m₁ → c₁ ≠ m₁ + 25 → J₁ c₁ = I₁ c₁) → (∀ y₁, y₁ ≠ 54 → J₁ m₁ y₁ = I₁ m₁ y₁) → Q₁ (nI nd₁) J₁) : w_X12_saysOne m₁ w₁ a₁ b₁ r₁ K₁ N₁ I₁ L₁ R₁ Q₁ := by
  delta w_X12_saysOne
  rw [hn₁, show (4 : Int32) = nI 4 from rfl, mulN]
  refine ⟨hM₁.k, ?_⟩
  rintro v2₁ rfl
  rw [show (2 : Int32) = nI 2 from rfl, show (3 : Int32) = nI 3 from rfl, nI_1, addN, addN]
  refine ⟨_, hM₁.r53, hM₁.k25, by rw [hM₁.n25]; exact (vp_nI (by omega)).mpr (by omega), fun I6₁ g6₁ => ⟨by rw [hM₁.n25]; exact (vp_nI (by omega)).mpr (by omega), fun I8₁ g8₁ => ⟨by rw [hM₁.n25]; exact (vp_nI (by omega)).mpr (by omega), fun I10₁ g10₁ => ⟨by rw [hM₁.n25]; exact (vp_nI (by omega)).mpr (by omega), fun I12₁ g12₁ I13₁ g13₁ => ?_⟩⟩⟩⟩
  rw [ix_nI (by omega)] at g6₁ g8₁ g10₁ g12₁
  have e54₁ : I12₁ m₁ 54 = nI nd₁ := by rw [g12₁, mup_ne (by omega), g10₁, mup_ne (by omega), g8₁, mup_ne (by omega), g6₁, mup_ne (by omega)]; exact hn₁
  rw [e54₁, nI_1] at g13₁
  have q54₁ : I13₁ m₁ 54 = nI (nd₁ + 1) := by rw [g13₁, mup_at]
  rw [q54₁, nI_pred]
  refine h₁ I13₁ q54₁ ?_ ?_ ?_ ?_ (fun y₁ hy₁ => ?_) (fun c₁ q1₁ q2₁ => ?_) (fun y₁ hy₁ => ?_)
  · rw [g13₁, mup_ne (by omega), g12₁, mup_k (by omega), g10₁, mup_k (by omega), g8₁, mup_k (by omega), g6₁, mup_at]
  · rw [g13₁, mup_ne (by omega), g12₁, mup_k (by omega), g10₁, mup_k (by omega), g8₁, mup_at]
  · rw [g13₁, mup_ne (by omega), g12₁, mup_k (by omega), g10₁, mup_at]
  · rw [g13₁, mup_ne (by omega), g12₁, mup_at]
  · rw [g13₁, mup_ne (by omega), g12₁, mup_k (by omega), g10₁, mup_k (by omega), g8₁, mup_k (by omega), g6₁, mup_k (by omega)]
  · rw [g13₁, mup_ne q1₁, g12₁, mup_ne q2₁, g10₁, mup_ne q2₁, g8₁, mup_ne q2₁, g6₁, mup_ne q2₁]
  · rw [g13₁, mup_k hy₁, g12₁, mup_ne (by omega), g10₁, mup_ne (by omega), g8₁, mup_ne (by omega), g6₁, mup_ne (by omega)]
/-- the reference's state between ones -/
def SRN₁ (I₁ : MI) (L₁ : ML) (m₁ : Nat) (B₁ : Nat → Nat) (n₁ p₁ nd₁ k₁ d₁ : Nat) : Prop := TRS₁ I₁ L₁ m₁ B₁ n₁ 200 p₁ ∧ I₁ m₁ 54 = nI nd₁ ∧ I₁ m₁ 55 = nI k₁ ∧ I₁ m₁ 56 = nI (8 - d₁)
def frSr (m₁ : Nat) (J₁ I₁ : MI) (M₁ L₁ : ML) : Prop := (∀ b₁, b₁ ≠ m₁ → b₁ ≠ m₁ + 25 → J₁ b₁ = I₁ b₁) ∧ (∀ y₁, y₁ < 5 ∨ 13 < y₁ → y₁ ≠ 54 → y₁ ≠ 55 → y₁ ≠ 56 → y₁ ≠ 57 → J₁ m₁ y₁ = I₁ m₁ y₁) ∧ ∀ b₁, b₁ ≠ m₁ → M₁ b₁ = L₁ b₁
/-- the names of the scopes of the unit -/
def NMN₁ (I₁ : MI) (L₁ : ML) (m₁ : Nat) (NM₁ : Nat → List Nat) (sc₁ : Nat) : Prop := I₁ (m₁ + 2) 2 = nI sc₁ ∧ sc₁ ≤ 10 ∧ (∀ j₁, j₁ < sc₁ → wdOK (NM₁ (0 + j₁))) ∧ ∀ j₁, j₁ < sc₁ → L₁ (m₁ + 8) (0 + j₁) = encB 27 (NM₁ (0 + j₁))
theorem frSr_r : frSr m₁ I₁ I₁ L₁ L₁ := ⟨fun _ _ _ => rfl, fun _ _ _ _ _ _ => rfl, fun _ _ => rfl⟩
theorem frSr_t {J₁ J'₁ : MI} {M₁ M'₁ : ML} (h₁ : frSr m₁ J'₁ J₁ M'₁ M₁) (h2₁ : frSr m₁ J₁ I₁ M₁ L₁) : frSr m₁ J'₁ I₁ M'₁ L₁ := ⟨fun b₁ h3₁ h4₁ => by rw [h₁.1 b₁ h3₁ h4₁, h2₁.1 b₁ h3₁ h4₁], fun y₁ h3₁ h4₁ h5₁ h6₁ h7₁ => by rw [h₁.2.1 y₁ h3₁ h4₁ h5₁ h6₁ h7₁, h2₁.2.1 y₁ h3₁ h4₁ h5₁ h6₁ h7₁], fun b₁ h3₁ => by rw [h₁.2.2 b₁ h3₁, h2₁.2.2 b₁ h3₁]⟩
theorem frSr_V {J₁ : MI} {M₁ : ML} (h₁ : frV₁ m₁ J₁ I₁ M₁ L₁) : frSr m₁ J₁ I₁ M₁ L₁ := ⟨fun b₁ q₁ _ => h₁.1 b₁ q₁, fun y₁ q₁ _ _ _ _ => h₁.2.1 y₁ (by omega) (by omega) (by omega) (by omega) (by omega), h₁.2.2⟩
theorem frSr_f {J₁ : MI} {e₁ pl₁ : Nat} (h₁ : flR₁ m₁ e₁ pl₁ J₁ I₁) : frSr m₁ J₁ I₁ L₁ L₁ := ⟨fun b₁ q₁ _ => h₁.2.2.1 b₁ q₁, fun y₁ q₁ _ _ _ _ => h₁.2.2.2 y₁ (by omega) (by omega), fun _ _ => rfl⟩
theorem frSr_y {J₁ : MI} {y₁ : Nat} {v₁ : Int32} (h₁ : J₁ = mup I₁ m₁ y₁ v₁) (hy₁ : y₁ = 13 ∨ y₁ = 54 ∨ y₁ = 55 ∨ y₁ = 56 ∨ y₁ = 57) : frSr m₁ J₁ I₁ L₁ L₁ := ⟨fun b₁ q₁ _ => by rw [h₁, mup_ne q₁], fun z₁ _ _ _ _ _ => by rw [h₁, mup_k (by omega)], fun _ _ => rfl⟩
theorem frSr_s {J₁ : MI} (q1₁ : ∀ c₁, c₁ ≠ m₁ → c₁ ≠ m₁ + 25 → J₁ c₁ = I₁ c₁) (q2₁ : ∀ y₁, y₁ ≠ 54 → J₁ m₁ y₁ = I₁ m₁ y₁) : frSr m₁ J₁ I₁ L₁ L₁ := ⟨q1₁, fun y₁ _ q₁ _ _ _ => q2₁ y₁ q₁, fun _ _ => rfl⟩
theorem NMN_fr {J₁ : MI} {M₁ : ML} (h₁ : NMN₁ I₁ L₁ m₁ NM₁ sc₁) (g₁ : frSr m₁ J₁ I₁ M₁ L₁) : NMN₁ J₁ M₁ m₁ NM₁ sc₁ := ⟨by rw [g₁.1 _ (by omega) (by omega)]; exact h₁.1, h₁.2.1, h₁.2.2.1, fun j₁ hj₁ => by rw [g₁.2.2 _ (by omega)]; exact h₁.2.2.2 j₁ hj₁⟩
/-- what reading a part of a sentence comes to -/
def RSP₁ (K₁ N₁ : MK) (R₁ : MR) (m₁ : Nat) (B₁ : Nat → Nat) (n₁ : Nat) (NM₁ : Nat → List Nat) (sc₁ : Nat) (W₁ : Nat → MK → MK → MI → ML → MR → (Bool → MI → ML → Prop) → Prop) (d₁ : Nat) (one₁ : Nat → Nat → SRES) : Prop :=
  ∀ (I₁ : MI) (L₁ : ML) (p₁ nd₁ k₁ : Nat) (Q₁ : Bool → MI → ML → Prop), SRN₁ I₁ L₁ m₁ B₁ n₁ p₁ nd₁ k₁ d₁ → NMN₁ I₁ L₁ m₁ NM₁ sc₁ → k₁ ≤ 20 → nd₁ ≤ 2 * k₁ →
    (∀ e₁ pl₁, one₁ k₁ p₁ = .inl (e₁, pl₁) → ∀ J₁ M₁, J₁ m₁ 10 = nI e₁ → J₁ m₁ 11 = nI pl₁ → frSr m₁ J₁ I₁ M₁ L₁ → Q₁ false J₁ M₁) →
    (∀ l₁ k'₁ p'₁, one₁ k₁ p₁ = .inr (l₁, k'₁, p'₁) → ∀ J₁ M₁ t₁, SRN₁ J₁ M₁ m₁ B₁ n₁ p'₁ (nd₁ + l₁.length) k'₁ d₁ → J₁ m₁ 57 = nI t₁ → t₁ < nd₁ + l₁.length → trE₁ (J₁ (m₁ + 25)) (t₁ + 1) l₁ t₁ → (∀ y₁, y₁ < 4 * nd₁ → J₁ (m₁ + 25) y₁ = I₁ (m₁ + 25) y₁) → J₁ m₁ 10 = I₁ m₁ 10 → frSr m₁ J₁ I₁ M₁ L₁ → Q₁ true J₁ M₁) → W₁ m₁ K₁ N₁ I₁ L₁ R₁ Q₁
theorem r_and {d₁ : Nat} {one₁ : Nat → Nat → SRES} {W₁ : Nat → MK → MK → MI → ML → MR → (Bool → MI → ML → Prop) → Prop} (hM₁ : MDL K₁ N₁ R₁ m₁) (hW₁ : RSP₁ K₁ N₁ R₁ m₁ B₁ n₁ NM₁ sc₁ W₁ d₁ (one₁)) (ho₁ : pOK₁ (one₁)) : RSP₁ K₁ N₁ R₁ m₁ B₁ n₁ NM₁ sc₁ (w_X12_readAnd W₁) d₁ (allP B₁ n₁ 200 one₁) := by
  intro I₁ L₁ p₁ nd₁ k₁ Q₁ hS₁ hN₁ hk₁ hnd₁ hbad hok₁
  generalize hG₁ : allP B₁ n₁ 200 one₁ k₁ p₁ = G₁ at hbad hok₁
  rw [allP] at hG₁
  delta w_X12_readAnd
  refine ⟨hM₁.k, hW₁ I₁ L₁ p₁ nd₁ k₁ _ hS₁ hN₁ hk₁ hnd₁ (fun e₁ pl₁ he₁ J₁ M₁ j10₁ j11₁ f₁ => ⟨fun y₁ => absurd y₁ (by decide), fun _ => hbad e₁ pl₁ (by rw [he₁] at hG₁; exact hG₁.symm) J₁ M₁ j10₁ j11₁ f₁⟩) (fun l₁ k1₁ p1₁ he₁ J₁ M₁ t₁ s1₁ j57₁ ht₁ htr₁ hcl₁ j10₁ f₁ => ⟨fun _ v5₁ g5₁ => ?_, fun y₁ => absurd y₁ (by decide)⟩)⟩
  obtain ⟨o1₁, o2₁, o3₁⟩ := ho₁ _ _ _ _ _ hk₁ he₁
  rw [he₁] at hG₁
  replace hG₁ : andL B₁ n₁ 200 one₁ 20 l₁ k1₁ p1₁ = G₁ := hG₁
  rw [j57₁] at g5₁
  subst g5₁
  delta w_X12_readAnd_14
  refine ⟨fun n1₁ y0₁ y1₁ I1₁ L1₁ => y0₁ = m₁ ∧ ∃ (l1₁ : List (Nat × Nat × Nat)) (k1₁ p1₁ t1₁ f1₁ : Nat), y1₁ = nI t1₁ ∧ n1₁ = 20 - k1₁ ∧ k₁ < k1₁ ∧ k1₁ ≤ 20 ∧ l1₁.length + 1 ≤ 2 * (k1₁ - k₁) ∧ 21 ≤ f1₁ + k1₁ ∧ SRN₁ I1₁ L1₁ m₁ B₁ n₁ p1₁ (nd₁ + l1₁.length) k1₁ d₁ ∧ t1₁ < nd₁ + l1₁.length ∧ trE₁ (I1₁ (m₁ + 25)) (t1₁ + 1) l1₁ t1₁ ∧ (∀ y₁, y₁ < 4 * nd₁ → I1₁ (m₁ + 25) y₁ = I₁ (m₁ + 25) y₁) ∧ I1₁ m₁ 10 = I₁ m₁ 10 ∧ frSr m₁ I1₁ I₁ L1₁ L₁ ∧ andL B₁ n₁ 200 one₁ f1₁ l1₁ k1₁ p1₁ = G₁, ⟨20 - k1₁, rfl, l₁, k1₁, p1₁, t₁, 20, rfl, rfl, o1₁, o2₁, o3₁, by omega, s1₁, ht₁, htr₁, hcl₁, j10₁, f₁, hG₁⟩, ?_⟩
  rintro n1₁ y0₁ y1₁ I1₁ L1₁ ⟨rfl, l1₁, k2₁, p2₁, t1₁, f1₁, rfl, rfl, h1₁, h2₁, h3₁, h4₁, s2₁, ht1₁, tr1₁, c1₁, e10₁, fr₁, hE₁⟩
  obtain ⟨g₁, rfl⟩ : ∃ g₁, f1₁ = g₁ + 1 := ⟨f1₁ - 1, by omega⟩
  rw [andL] at hE₁
  refine ⟨hM₁.k, r_isWord (k₁ := 24) hM₁ s2₁.1 (by decide) ⟨fun w₁ I8₁ g8₁ => ?_, fun w₁ => r_next hM₁ s2₁.1 (fun J9₁ M9₁ t9₁ f9₁ => ?_)⟩⟩
  · rw [if_neg (by rw [w₁]; decide)] at hE₁
    exact hok₁ l1₁ k2₁ p2₁ hE₁.symm I8₁ L1₁ t1₁ ⟨TRS_fr s2₁.1 (by rw [g8₁, mup_ne (by omega)]) (fun y₁ _ _ => by rw [g8₁, mup_k (by omega)]) rfl, by rw [g8₁, mup_k (by decide)]; exact s2₁.2.1, by rw [g8₁, mup_k (by decide)]; exact s2₁.2.2.1, by rw [g8₁, mup_k (by decide)]; exact s2₁.2.2.2⟩ (by rw [g8₁, mup_at]) ht1₁ (by rw [g8₁, mup_ne (by omega)]; exact tr1₁) (fun y₁ hy₁ => by rw [g8₁, mup_ne (by omega)]; exact c1₁ y₁ hy₁) (by rw [g8₁, mup_k (by decide)]; exact e10₁) (frSr_t (frSr_y g8₁ (by decide)) fr₁)
  rw [if_pos w₁] at hE₁
  have y9₁ : ∀ y₁, 50 ≤ y₁ → J9₁ y0₁ y₁ = I1₁ y0₁ y₁ := fun y₁ hy₁ => f9₁.2.1 y₁ (by omega) (by omega) (by omega) (by omega) (by omega)
  have fr9₁ : frSr y0₁ J9₁ I₁ M9₁ L₁ := frSr_t (frSr_V f9₁) fr₁
  have b9₁ : J9₁ (y0₁ + 25) = I1₁ (y0₁ + 25) := f9₁.1 _ (by omega)
  refine hW₁ J9₁ M9₁ (tkN₁ B₁ n₁ 200 p2₁) (nd₁ + l1₁.length) k2₁ _ ⟨t9₁, by rw [y9₁ 54 (by decide)]; exact s2₁.2.1, by rw [y9₁ 55 (by decide)]; exact s2₁.2.2.1, by rw [y9₁ 56 (by decide)]; exact s2₁.2.2.2⟩ (NMN_fr hN₁ fr9₁) h2₁ (by omega) (fun e₁ pl₁ he₁ J2₁ M2₁ j10₁ j11₁ f2₁ => ⟨fun y₁ => absurd y₁ (by decide), fun _ => hbad e₁ pl₁ (by rw [he₁] at hE₁; exact hE₁.symm) J2₁ M2₁ j10₁ j11₁ (frSr_t f2₁ fr9₁)⟩) (fun l2₁ k3₁ p3₁ he₁ J2₁ M2₁ t2₁ s3₁ j57₁ ht2₁ tr2₁ c2₁ j10₁ f2₁ => ⟨fun _ => ?_, fun y₁ => absurd y₁ (by decide)⟩)
  obtain ⟨q1₁, q2₁, q3₁⟩ := ho₁ _ _ _ _ _ h2₁ he₁
  rw [he₁] at hE₁
  replace hE₁ : andL B₁ n₁ 200 one₁ g₁ (l1₁ ++ l2₁ ++ [(26, 0, 0)]) k3₁ p3₁ = G₁ := hE₁
  rw [j57₁]
  have ll₁ : nd₁ + (l1₁ ++ l2₁ ++ [(26, 0, 0)] : List (Nat × Nat × Nat)).length = nd₁ + l1₁.length + l2₁.length + 1 := by rw [List.length_append, List.length_append, List.length_singleton]; omega
  refine r_saysOne hM₁ s3₁.2.1 (by omega) (fun J3₁ q54₁ z0₁ z1₁ z2₁ z3₁ zl₁ zb₁ zy₁ => ⟨20 - k3₁, by omega, rfl, l1₁ ++ l2₁ ++ [(26, 0, 0)], k3₁, p3₁, nd₁ + l1₁.length + l2₁.length, g₁, rfl, rfl, by omega, q2₁, ?_, by omega, ⟨TRS_fr s3₁.1 (zb₁ _ (by omega) (by omega)) (fun y₁ _ _ => zy₁ y₁ (by omega)) rfl, by rw [ll₁]; exact q54₁, by rw [zy₁ 55 (by decide)]; exact s3₁.2.2.1, by rw [zy₁ 56 (by decide)]; exact s3₁.2.2.2⟩, by omega, ?_, fun y₁ hy₁ => ?_, ?_, ?_, hE₁⟩)
  · have := ll₁
    rw [List.length_append, List.length_append, List.length_singleton]; omega
  · rw [trE₁]
    refine Or.inr (Or.inr ⟨l1₁, l2₁, t1₁, t2₁, Or.inl ⟨rfl, z0₁⟩, by omega, by omega, z1₁, z2₁, trE_m _ _ _ _ (by omega) (trE_fr _ _ _ (fun y₁ hy₁ => ?_) tr1₁), trE_m _ _ _ _ (by omega) (trE_fr _ _ _ (fun y₁ hy₁ => zl₁ y₁ (by omega)) tr2₁)⟩)
    rw [zl₁ y₁ (by omega), c2₁ y₁ (by omega), b9₁]
  · rw [zl₁ y₁ (by omega), c2₁ y₁ (by omega), b9₁]; exact c1₁ y₁ hy₁
  · rw [zy₁ 10 (by decide), j10₁, frV_10 f9₁, e10₁]
  · exact frSr_t (frSr_s zb₁ zy₁) (frSr_t f2₁ fr9₁)
theorem r_or {d₁ : Nat} {one₁ : Nat → Nat → SRES} {W₁ : Nat → MK → MK → MI → ML → MR → (Bool → MI → ML → Prop) → Prop} (hM₁ : MDL K₁ N₁ R₁ m₁) (hW₁ : RSP₁ K₁ N₁ R₁ m₁ B₁ n₁ NM₁ sc₁ W₁ d₁ (allP B₁ n₁ 200 one₁)) (ho₁ : pOK₁ (allP B₁ n₁ 200 one₁)) : RSP₁ K₁ N₁ R₁ m₁ B₁ n₁ NM₁ sc₁ (w_X12_readOr W₁) d₁ (pCon B₁ n₁ 200 one₁) := by
  intro I₁ L₁ p₁ nd₁ k₁ Q₁ hS₁ hN₁ hk₁ hnd₁ hbad hok₁
  generalize hG₁ : pCon B₁ n₁ 200 one₁ k₁ p₁ = G₁ at hbad hok₁
  rw [pCon] at hG₁
  delta w_X12_readOr
  refine ⟨hM₁.k, hW₁ I₁ L₁ p₁ nd₁ k₁ _ hS₁ hN₁ hk₁ hnd₁ (fun e₁ pl₁ he₁ J₁ M₁ j10₁ j11₁ f₁ => ⟨fun y₁ => absurd y₁ (by decide), fun _ => hbad e₁ pl₁ (by rw [he₁] at hG₁; exact hG₁.symm) J₁ M₁ j10₁ j11₁ f₁⟩) (fun l₁ k1₁ p1₁ he₁ J₁ M₁ t₁ s1₁ j57₁ ht₁ htr₁ hcl₁ j10₁ f₁ => ⟨fun _ v5₁ g5₁ => ?_, fun y₁ => absurd y₁ (by decide)⟩)⟩
  obtain ⟨o1₁, o2₁, o3₁⟩ := ho₁ _ _ _ _ _ hk₁ he₁
  rw [he₁] at hG₁
  replace hG₁ : orrL B₁ n₁ 200 one₁ 20 l₁ k1₁ p1₁ = G₁ := hG₁
  rw [j57₁] at g5₁
  subst g5₁
  delta w_X12_readOr_14
  refine ⟨fun n1₁ y0₁ y1₁ I1₁ L1₁ => y0₁ = m₁ ∧ ∃ (l1₁ : List (Nat × Nat × Nat)) (k1₁ p1₁ t1₁ f1₁ : Nat), y1₁ = nI t1₁ ∧ n1₁ = 20 - k1₁ ∧ k₁ < k1₁ ∧ k1₁ ≤ 20 ∧ l1₁.length + 1 ≤ 2 * (k1₁ - k₁) ∧ 21 ≤ f1₁ + k1₁ ∧ SRN₁ I1₁ L1₁ m₁ B₁ n₁ p1₁ (nd₁ + l1₁.length) k1₁ d₁ ∧ t1₁ < nd₁ + l1₁.length ∧ trE₁ (I1₁ (m₁ + 25)) (t1₁ + 1) l1₁ t1₁ ∧ (∀ y₁, y₁ < 4 * nd₁ → I1₁ (m₁ + 25) y₁ = I₁ (m₁ + 25) y₁) ∧ I1₁ m₁ 10 = I₁ m₁ 10 ∧ frSr m₁ I1₁ I₁ L1₁ L₁ ∧ orrL B₁ n₁ 200 one₁ f1₁ l1₁ k1₁ p1₁ = G₁, ⟨20 - k1₁, rfl, l₁, k1₁, p1₁, t₁, 20, rfl, rfl, o1₁, o2₁, o3₁, by omega, s1₁, ht₁, htr₁, hcl₁, j10₁, f₁, hG₁⟩, ?_⟩
  rintro n1₁ y0₁ y1₁ I1₁ L1₁ ⟨rfl, l1₁, k2₁, p2₁, t1₁, f1₁, rfl, rfl, h1₁, h2₁, h3₁, h4₁, s2₁, ht1₁, tr1₁, c1₁, e10₁, fr₁, hE₁⟩
  obtain ⟨g₁, rfl⟩ : ∃ g₁, f1₁ = g₁ + 1 := ⟨f1₁ - 1, by omega⟩
  rw [orrL] at hE₁
  refine ⟨hM₁.k, r_isWord (k₁ := 23) hM₁ s2₁.1 (by decide) ⟨fun w₁ I8₁ g8₁ => ?_, fun w₁ => r_next hM₁ s2₁.1 (fun J9₁ M9₁ t9₁ f9₁ => ?_)⟩⟩
  · rw [if_neg (by rw [w₁]; decide)] at hE₁
    exact hok₁ l1₁ k2₁ p2₁ hE₁.symm I8₁ L1₁ t1₁ ⟨TRS_fr s2₁.1 (by rw [g8₁, mup_ne (by omega)]) (fun y₁ _ _ => by rw [g8₁, mup_k (by omega)]) rfl, by rw [g8₁, mup_k (by decide)]; exact s2₁.2.1, by rw [g8₁, mup_k (by decide)]; exact s2₁.2.2.1, by rw [g8₁, mup_k (by decide)]; exact s2₁.2.2.2⟩ (by rw [g8₁, mup_at]) ht1₁ (by rw [g8₁, mup_ne (by omega)]; exact tr1₁) (fun y₁ hy₁ => by rw [g8₁, mup_ne (by omega)]; exact c1₁ y₁ hy₁) (by rw [g8₁, mup_k (by decide)]; exact e10₁) (frSr_t (frSr_y g8₁ (by decide)) fr₁)
  rw [if_pos w₁] at hE₁
  have y9₁ : ∀ y₁, 50 ≤ y₁ → J9₁ y0₁ y₁ = I1₁ y0₁ y₁ := fun y₁ hy₁ => f9₁.2.1 y₁ (by omega) (by omega) (by omega) (by omega) (by omega)
  have fr9₁ : frSr y0₁ J9₁ I₁ M9₁ L₁ := frSr_t (frSr_V f9₁) fr₁
  have b9₁ : J9₁ (y0₁ + 25) = I1₁ (y0₁ + 25) := f9₁.1 _ (by omega)
  refine hW₁ J9₁ M9₁ (tkN₁ B₁ n₁ 200 p2₁) (nd₁ + l1₁.length) k2₁ _ ⟨t9₁, by rw [y9₁ 54 (by decide)]; exact s2₁.2.1, by rw [y9₁ 55 (by decide)]; exact s2₁.2.2.1, by rw [y9₁ 56 (by decide)]; exact s2₁.2.2.2⟩ (NMN_fr hN₁ fr9₁) h2₁ (by omega) (fun e₁ pl₁ he₁ J2₁ M2₁ j10₁ j11₁ f2₁ => ⟨fun y₁ => absurd y₁ (by decide), fun _ => hbad e₁ pl₁ (by rw [he₁] at hE₁; exact hE₁.symm) J2₁ M2₁ j10₁ j11₁ (frSr_t f2₁ fr9₁)⟩) (fun l2₁ k3₁ p3₁ he₁ J2₁ M2₁ t2₁ s3₁ j57₁ ht2₁ tr2₁ c2₁ j10₁ f2₁ => ⟨fun _ => ?_, fun y₁ => absurd y₁ (by decide)⟩)
  obtain ⟨q1₁, q2₁, q3₁⟩ := ho₁ _ _ _ _ _ h2₁ he₁
  rw [he₁] at hE₁
  replace hE₁ : orrL B₁ n₁ 200 one₁ g₁ (l1₁ ++ l2₁ ++ [(25, 0, 0)]) k3₁ p3₁ = G₁ := hE₁
  rw [j57₁]
  have ll₁ : nd₁ + (l1₁ ++ l2₁ ++ [(25, 0, 0)] : List (Nat × Nat × Nat)).length = nd₁ + l1₁.length + l2₁.length + 1 := by rw [List.length_append, List.length_append, List.length_singleton]; omega
  refine r_saysOne hM₁ s3₁.2.1 (by omega) (fun J3₁ q54₁ z0₁ z1₁ z2₁ z3₁ zl₁ zb₁ zy₁ => ⟨20 - k3₁, by omega, rfl, l1₁ ++ l2₁ ++ [(25, 0, 0)], k3₁, p3₁, nd₁ + l1₁.length + l2₁.length, g₁, rfl, rfl, by omega, q2₁, ?_, by omega, ⟨TRS_fr s3₁.1 (zb₁ _ (by omega) (by omega)) (fun y₁ _ _ => zy₁ y₁ (by omega)) rfl, by rw [ll₁]; exact q54₁, by rw [zy₁ 55 (by decide)]; exact s3₁.2.2.1, by rw [zy₁ 56 (by decide)]; exact s3₁.2.2.2⟩, by omega, ?_, fun y₁ hy₁ => ?_, ?_, ?_, hE₁⟩)
  · have := ll₁
    rw [List.length_append, List.length_append, List.length_singleton]; omega
  · rw [trE₁]
    refine Or.inr (Or.inr ⟨l1₁, l2₁, t1₁, t2₁, Or.inr ⟨rfl, z0₁⟩, by omega, by omega, z1₁, z2₁, trE_m _ _ _ _ (by omega) (trE_fr _ _ _ (fun y₁ hy₁ => ?_) tr1₁), trE_m _ _ _ _ (by omega) (trE_fr _ _ _ (fun y₁ hy₁ => zl₁ y₁ (by omega)) tr2₁)⟩)
    rw [zl₁ y₁ (by omega), c2₁ y₁ (by omega), b9₁]
  · rw [zl₁ y₁ (by omega), c2₁ y₁ (by omega), b9₁]; exact c1₁ y₁ hy₁
  · rw [zy₁ 10 (by decide), j10₁, frV_10 f9₁, e10₁]
  · exact frSr_t (frSr_s zb₁ zy₁) (frSr_t f2₁ fr9₁)
end RS₁
