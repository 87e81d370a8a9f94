/-! ===== a sentence read: the class's ones joined ===== -/
section CN₁
variable {B₁ : Nat → Nat} {n₁ : Nat} {one₁ : Nat → Nat → SRES}
def jnO₁ : Option (List (Nat × Nat × Nat)) → List (Nat × Nat × Nat) → List (Nat × Nat × Nat)
  | none, t₁ => t₁
  | some a₁, t₁ => a₁ ++ t₁ ++ [(25, 0, 0)]
def jnA₁ : Option (List (Nat × Nat × Nat)) → List (Nat × Nat × Nat) → List (Nat × Nat × Nat)
  | none, t₁ => t₁
  | some a₁, t₁ => a₁ ++ t₁ ++ [(26, 0, 0)]
def opLst : Option (List (Nat × Nat × Nat)) → List (Nat × Nat × Nat)
  | none => []
  | some a₁ => a₁
def opCnt : Option (List (Nat × Nat × Nat)) → Nat
  | none => 0
  | some _ => 1
/-- what comes behind a one -/
def cntA (B₁ : Nat → Nat) (n₁ : Nat) (one₁ : Nat → Nat → SRES) (fO₁ fA₁ : Nat) (more : Option (List (Nat × Nat × Nat))) (t₁ : List (Nat × Nat × Nat)) (k₁ p₁ : Nat) : SRES := match andL B₁ n₁ 200 one₁ fA₁ t₁ k₁ p₁ with
  | .inl e₁ => .inl e₁
  | .inr (t1₁, k1₁, p1₁) => orrL B₁ n₁ 200 one₁ fO₁ (jnO₁ more t1₁) k1₁ p1₁
def cntV (B₁ : Nat → Nat) (n₁ : Nat) (one₁ : Nat → Nat → SRES) (fO₁ fA₁ : Nat) (more all₁ : Option (List (Nat × Nat × Nat))) (k₁ p₁ : Nat) : SRES := match one₁ k₁ p₁ with
  | .inl e₁ => .inl e₁
  | .inr (t₁, k1₁, p1₁) => cntA B₁ n₁ one₁ fO₁ fA₁ more (jnA₁ all₁ t₁) k1₁ p1₁
theorem cntV_0 (k₁ p₁ : Nat) : pCon B₁ n₁ 200 one₁ k₁ p₁ = cntV B₁ n₁ one₁ 20 20 none none k₁ p₁ := by
  rw [pCon, allP, cntV]
  rcases one₁ k₁ p₁ with e₁ | ⟨t₁, k1₁, p1₁⟩
  · rfl
  · rfl
theorem cntA_and {fO₁ fA₁ k₁ p₁ : Nat} {more : Option (List (Nat × Nat × Nat))} {t₁ : List (Nat × Nat × Nat)} (h₁ : isWd B₁ n₁ 200 p₁ 24 = true) : cntA B₁ n₁ one₁ fO₁ (fA₁ + 1) more t₁ k₁ p₁ = cntV B₁ n₁ one₁ fO₁ fA₁ more (some t₁) k₁ (tkN₁ B₁ n₁ 200 p₁) := by
  rw [cntA, cntV, andL, if_pos h₁]
  rcases one₁ k₁ (tkN₁ B₁ n₁ 200 p₁) with e₁ | ⟨t2₁, k2₁, p2₁⟩
  · rfl
  · rfl
theorem cntA_or {fO₁ fA₁ k₁ p₁ : Nat} {more : Option (List (Nat × Nat × Nat))} {t₁ : List (Nat × Nat × Nat)} (h₁ : isWd B₁ n₁ 200 p₁ 24 = false) (h2₁ : isWd B₁ n₁ 200 p₁ 23 = true) : cntA B₁ n₁ one₁ (fO₁ + 1) (fA₁ + 1) more t₁ k₁ p₁ = cntV B₁ n₁ one₁ fO₁ 20 (some (jnO₁ more t₁)) none k₁ (tkN₁ B₁ n₁ 200 p₁) := by
  rw [cntA, cntV, andL, if_neg (by rw [h₁]; decide)]
  show orrL B₁ n₁ 200 one₁ (fO₁ + 1) (jnO₁ more t₁) k₁ p₁ = _
  rw [orrL, if_pos h2₁, allP]
  rcases one₁ k₁ (tkN₁ B₁ n₁ 200 p₁) with e₁ | ⟨t2₁, k2₁, p2₁⟩
  · rfl
  · rfl
theorem cntA_end {fO₁ fA₁ k₁ p₁ : Nat} {more : Option (List (Nat × Nat × Nat))} {t₁ : List (Nat × Nat × Nat)} (h₁ : isWd B₁ n₁ 200 p₁ 24 = false) (h2₁ : isWd B₁ n₁ 200 p₁ 23 = false) : cntA B₁ n₁ one₁ (fO₁ + 1) (fA₁ + 1) more t₁ k₁ p₁ = .inr (jnO₁ more t₁, k₁, p₁) := by
  rw [cntA, andL, if_neg (by rw [h₁]; decide)]
  show orrL B₁ n₁ 200 one₁ (fO₁ + 1) (jnO₁ more t₁) k₁ p₁ = _
  rw [orrL, if_neg (by rw [h2₁]; decide)]
end CN₁
section SC₁
variable {K₁ N₁ : MK} {R₁ : MR} {x₁ n₁ sc₁ : Nat} {B₁ : Nat → Nat} {NM₁ : Nat → List Nat}
def SONE (K₁ N₁ : MK) (R₁ : MR) (x₁ : Nat) (B₁ : Nat → Nat) (n₁ : Nat) (NM₁ : Nat → List Nat) (sc₁ : Nat) (W₁ : Nat → Nat → Nat → Int32 → MK → MK → MI → ML → MR → (Bool → MI → ML → Prop) → Prop) (d₁ : Nat) : Prop :=
  ∀ (I₁ : MI) (L₁ : ML) (p₁ k₁ : Nat) (l0₁ : List (Nat × Nat × Nat)) (Q₁ : Bool → MI → ML → Prop), SNC₁ K₁ N₁ R₁ I₁ L₁ x₁ B₁ n₁ p₁ k₁ l0₁ → NMC₁ I₁ L₁ x₁ NM₁ sc₁ → k₁ ≤ 20 → l0₁.length ≤ 2 * k₁ →
    (∀ e₁ pl₁, pOneD B₁ n₁ 200 NM₁ sc₁ d₁ k₁ p₁ = .inl (e₁, pl₁) → ∀ J₁ M₁, SNB₁ J₁ x₁ e₁ pl₁ → frSn x₁ J₁ I₁ M₁ L₁ → Q₁ false J₁ M₁) →
    (∀ l₁ k'₁ p'₁, pOneD B₁ n₁ 200 NM₁ sc₁ d₁ k₁ p₁ = .inr (l₁, k'₁, p'₁) → ∀ J₁ M₁, SNC₁ K₁ N₁ R₁ J₁ M₁ x₁ B₁ n₁ p'₁ k'₁ (l0₁ ++ l₁) → J₁ (x₁ + 1) 10 = I₁ (x₁ + 1) 10 → frSn x₁ J₁ I₁ M₁ L₁ → Q₁ true J₁ M₁) → W₁ (x₁ + 53) (x₁ + 1) (x₁ + 3) (nI (9 - d₁)) K₁ N₁ I₁ L₁ R₁ Q₁
theorem s_cond {I₁ : MI} {L₁ : ML} {p₁ k₁ d₁ : Nat} {l0₁ : List (Nat × Nat × Nat)} {Q₁ : Bool → MI → ML → Prop} {W₁ : Nat → Nat → Nat → Int32 → MK → MK → MI → ML → MR → (Bool → MI → ML → Prop) → Prop} (hX₁ : PDL K₁ N₁ R₁ x₁) (hW₁ : SONE K₁ N₁ R₁ x₁ B₁ n₁ NM₁ sc₁ W₁ d₁)
    (hS₁ : SNC₁ K₁ N₁ R₁ I₁ L₁ x₁ B₁ n₁ p₁ k₁ l0₁) (hN₁ : NMC₁ I₁ L₁ x₁ NM₁ sc₁) (hk₁ : k₁ ≤ 20) (hl₁ : l0₁.length ≤ 2 * k₁)
    (hbad : ∀ e₁ pl₁, pCon B₁ n₁ 200 (pOneD B₁ n₁ 200 NM₁ sc₁ d₁) k₁ p₁ = .inl (e₁, pl₁) → ∀ J₁ M₁, SNB₁ J₁ x₁ e₁ pl₁ → frSn x₁ J₁ I₁ M₁ L₁ → Q₁ false J₁ M₁)
    (hok₁ : ∀ l₁ k'₁ p'₁, pCon B₁ n₁ 200 (pOneD B₁ n₁ 200 NM₁ sc₁ d₁) k₁ p₁ = .inr (l₁, k'₁, p'₁) → ∀ J₁ M₁, SNC₁ K₁ N₁ R₁ J₁ M₁ x₁ B₁ n₁ p'₁ k'₁ (l0₁ ++ l₁) → J₁ (x₁ + 1) 10 = I₁ (x₁ + 1) 10 → frSn x₁ J₁ I₁ M₁ L₁ → Q₁ true J₁ M₁) : w_X6_readCond W₁ (x₁ + 53) (x₁ + 1) (x₁ + 3) (nI (9 - d₁)) K₁ N₁ I₁ L₁ R₁ Q₁ := by
  have pok₁ := pOneD_ok (B₁ := B₁) (n₁ := n₁) (lm₁ := 200) (NM₁ := NM₁) (sc₁ := sc₁) d₁
  rw [cntV_0] at hbad hok₁
  generalize hone : pOneD B₁ n₁ 200 NM₁ sc₁ d₁ = one₁ at *
  generalize hG₁ : cntV B₁ n₁ one₁ 20 20 none none k₁ p₁ = G₁ at *
  delta w_X6_readCond w_X6_readCond_9
  refine ⟨fun n1₁ y0₁ y1₁ y2₁ y3₁ y4₁ y5₁ y6₁ I1₁ L1₁ => y0₁ = x₁ + 53 ∧ y1₁ = x₁ + 1 ∧ y2₁ = x₁ + 3 ∧ y3₁ = nI (9 - d₁) ∧ ∃ (i₁ k1₁ p1₁ fO₁ fA₁ : Nat) (more all₁ : Option (List (Nat × Nat × Nat))), y4₁ = nI (opCnt all₁) ∧ y5₁ = nI (opCnt more) ∧ y6₁ = nI i₁ ∧ n1₁ = 21 - i₁ ∧ i₁ ≤ k1₁ ∧ k1₁ ≤ 20 ∧ 20 ≤ fA₁ + k1₁ ∧ 20 ≤ fO₁ + k1₁ ∧ l0₁.length + (opLst more).length + (opLst all₁).length + opCnt more + opCnt all₁ ≤ 2 * k1₁ ∧ SNC₁ K₁ N₁ R₁ I1₁ L1₁ x₁ B₁ n₁ p1₁ k1₁ (l0₁ ++ opLst more ++ opLst all₁) ∧ I1₁ (x₁ + 1) 10 = I₁ (x₁ + 1) 10 ∧ frSn x₁ I1₁ I₁ L1₁ L₁ ∧ cntV B₁ n₁ one₁ fO₁ fA₁ more all₁ k1₁ p1₁ = G₁, ⟨21, rfl, rfl, rfl, rfl, 0, k₁, p₁, 20, 20, none, none, rfl, rfl, rfl, rfl, Nat.zero_le _, hk₁, by omega, by omega, by simp only [opLst, opCnt, List.length_nil]; omega, by rw [opLst, List.append_nil, List.append_nil]; exact hS₁, rfl, frSn_r, hG₁⟩, ?_⟩
  rintro n1₁ y0₁ y1₁ y2₁ y3₁ y4₁ y5₁ y6₁ I1₁ L1₁ ⟨rfl, rfl, rfl, rfl, i₁, k1₁, p1₁, fO₁, fA₁, more, all₁, rfl, rfl, rfl, rfl, hi₁, hk1₁, hfA₁, hfO₁, hlen, hS1₁, e10₁, fr₁, hE₁⟩
  rw [show (20 : Int32) = nI 20 from rfl, ltN (by omega) (by omega)]
  refine ⟨fun q₁ => by omega, fun _ => ⟨hX₁.srd, hW₁ I1₁ L1₁ p1₁ k1₁ _ _ hS1₁ (NMC_fr hN₁ fr₁) hk1₁ (by rw [List.length_append, List.length_append]; omega) (fun e₁ pl₁ he₁ J₁ M₁ b1₁ f1₁ => ⟨fun y₁ => absurd y₁ (by decide), fun _ => ?_⟩) (fun t₁ k2₁ p2₁ he₁ J₁ M₁ s2₁ j10₁ f1₁ => ⟨fun _ => ?_, fun y₁ => absurd y₁ (by decide)⟩)⟩⟩
  · rw [hone] at he₁
    rw [cntV, he₁] at hE₁
    exact hbad e₁ pl₁ hE₁.symm J₁ M₁ b1₁ (frSn_t f1₁ fr₁)
  rw [hone] at he₁
  rw [cntV, he₁] at hE₁
  replace hE₁ : cntA B₁ n₁ one₁ fO₁ fA₁ more (jnA₁ all₁ t₁) k2₁ p2₁ = G₁ := hE₁
  obtain ⟨o1₁, o2₁, o3₁⟩ := pok₁ _ _ _ _ _ hk1₁ he₁
  -- behind the₁ one₁
  have s44₁ : ∀ J'₁ : MI, SNC₁ K₁ N₁ R₁ J'₁ M₁ x₁ B₁ n₁ p2₁ k2₁ (l0₁ ++ opLst more ++ jnA₁ all₁ t₁) → J'₁ (x₁ + 1) 10 = I₁ (x₁ + 1) 10 → frSn x₁ J'₁ I₁ M₁ L₁ → l0₁.length + (opLst more).length + (jnA₁ all₁ t₁).length + opCnt more + 1 ≤ 2 * k2₁ → w_X6_readCond_44 W₁ (x₁ + 53) (x₁ + 1) (x₁ + 3) (nI (9 - d₁)) (nI (opCnt more)) (nI i₁) K₁ N₁ J'₁ M₁ R₁ (fun y0₁ y1₁ y2₁ y3₁ y4₁ y5₁ y6₁ y7₁ y8₁ => ∃ n1₁, n1₁ < 21 - i₁ ∧ (fun n1₁ y0₁ y1₁ y2₁ y3₁ y4₁ y5₁ y6₁ I1₁ L1₁ => y0₁ = x₁ + 53 ∧ y1₁ = x₁ + 1 ∧ y2₁ = x₁ + 3 ∧ y3₁ = nI (9 - d₁) ∧ ∃ (i₁ k1₁ p1₁ fO₁ fA₁ : Nat) (more all₁ : Option (List (Nat × Nat × Nat))), y4₁ = nI (opCnt all₁) ∧ y5₁ = nI (opCnt more) ∧ y6₁ = nI i₁ ∧ n1₁ = 21 - i₁ ∧ i₁ ≤ k1₁ ∧ k1₁ ≤ 20 ∧ 20 ≤ fA₁ + k1₁ ∧ 20 ≤ fO₁ + k1₁ ∧ l0₁.length + (opLst more).length + (opLst all₁).length + opCnt more + opCnt all₁ ≤ 2 * k1₁ ∧ SNC₁ K₁ N₁ R₁ I1₁ L1₁ x₁ B₁ n₁ p1₁ k1₁ (l0₁ ++ opLst more ++ opLst all₁) ∧ I1₁ (x₁ + 1) 10 = I₁ (x₁ + 1) 10 ∧ frSn x₁ I1₁ I₁ L1₁ L₁ ∧ cntV B₁ n₁ one₁ fO₁ fA₁ more all₁ k1₁ p1₁ = G₁ : Nat → Nat → Nat → Nat → Int32 → Int32 → Int32 → Int32 → MI → ML → Prop) n1₁ y0₁ y1₁ y2₁ y3₁ y4₁ y5₁ y6₁ y7₁ y8₁) Q₁ := fun J'₁ s3₁ j3₁ f3₁ hlen2 => by
    obtain ⟨gA₁, rfl⟩ : ∃ gA₁, fA₁ = gA₁ + 1 := ⟨fA₁ - 1, by omega⟩
    obtain ⟨gO₁, rfl⟩ : ∃ gO₁, fO₁ = gO₁ + 1 := ⟨fO₁ - 1, by omega⟩
    generalize jnA₁ all₁ t₁ = u₁ at *
    have w24₁ : whS₁ B₁ n₁ 200 p2₁ = nI 26 ↔ isWd B₁ n₁ 200 p2₁ 24 = true := whS_iff (c₁ := 26) (by decide)
    have w23₁ : whS₁ B₁ n₁ 200 p2₁ = nI 25 ↔ isWd B₁ n₁ 200 p2₁ 23 = true := whS_iff (c₁ := 25) (by decide)
    delta w_X6_readCond_44
    refine ⟨hX₁.tok, s_wordHere s3₁.1 ?_⟩
    rw [show (26 : Int32) = nI 26 from rfl, w24₁]
    refine ⟨fun na₁ => ?_, fun ya₁ => ?_⟩
    · have na'₁ : isWd B₁ n₁ 200 p2₁ 24 = false := Bool.eq_false_iff.mpr na₁
      -- the₁ all₁ is₁ at its₁ end
      have s81₁ : ∀ J2₁ : MI, SNC₁ K₁ N₁ R₁ J2₁ M₁ x₁ B₁ n₁ p2₁ k2₁ (l0₁ ++ jnO₁ more u₁) → J2₁ (x₁ + 1) 10 = I₁ (x₁ + 1) 10 → frSn x₁ J2₁ I₁ M₁ L₁ → l0₁.length + (jnO₁ more u₁).length + 1 ≤ 2 * k2₁ → w_X6_readCond_81 W₁ (x₁ + 53) (x₁ + 1) (x₁ + 3) (nI (9 - d₁)) 0 (nI (opCnt more)) (nI i₁) K₁ N₁ J2₁ M₁ R₁ (fun y0₁ y1₁ y2₁ y3₁ y4₁ y5₁ y6₁ y7₁ y8₁ => ∃ n1₁, n1₁ < 21 - i₁ ∧ (fun n1₁ y0₁ y1₁ y2₁ y3₁ y4₁ y5₁ y6₁ I1₁ L1₁ => y0₁ = x₁ + 53 ∧ y1₁ = x₁ + 1 ∧ y2₁ = x₁ + 3 ∧ y3₁ = nI (9 - d₁) ∧ ∃ (i₁ k1₁ p1₁ fO₁ fA₁ : Nat) (more all₁ : Option (List (Nat × Nat × Nat))), y4₁ = nI (opCnt all₁) ∧ y5₁ = nI (opCnt more) ∧ y6₁ = nI i₁ ∧ n1₁ = 21 - i₁ ∧ i₁ ≤ k1₁ ∧ k1₁ ≤ 20 ∧ 20 ≤ fA₁ + k1₁ ∧ 20 ≤ fO₁ + k1₁ ∧ l0₁.length + (opLst more).length + (opLst all₁).length + opCnt more + opCnt all₁ ≤ 2 * k1₁ ∧ SNC₁ K₁ N₁ R₁ I1₁ L1₁ x₁ B₁ n₁ p1₁ k1₁ (l0₁ ++ opLst more ++ opLst all₁) ∧ I1₁ (x₁ + 1) 10 = I₁ (x₁ + 1) 10 ∧ frSn x₁ I1₁ I₁ L1₁ L₁ ∧ cntV B₁ n₁ one₁ fO₁ fA₁ more all₁ k1₁ p1₁ = G₁ : Nat → Nat → Nat → Nat → Int32 → Int32 → Int32 → Int32 → MI → ML → Prop) n1₁ y0₁ y1₁ y2₁ y3₁ y4₁ y5₁ y6₁ y7₁ y8₁) Q₁ := fun J2₁ s4₁ j4₁ f4₁ hlen3 => by
        delta w_X6_readCond_81
        refine ⟨fun z₁ => absurd rfl z₁, fun _ => ⟨hX₁.tok, s_wordHere s4₁.1 ?_⟩⟩
        rw [show (25 : Int32) = nI 25 from rfl, w23₁]
        refine ⟨fun yo₁ => ?_, fun no₁ => ?_⟩
        · rw [cntA_or na'₁ yo₁] at hE₁
          have go₁ : ∀ J3₁ M3₁, SNC₁ K₁ N₁ R₁ J3₁ M3₁ x₁ B₁ n₁ (tkN₁ B₁ n₁ 200 p2₁) k2₁ (l0₁ ++ jnO₁ more u₁) → J3₁ (x₁ + 1) 10 = J2₁ (x₁ + 1) 10 → frSn x₁ J3₁ J2₁ M3₁ M₁ → ∀ v₁ : Int32, v₁ = nI i₁ + 1 → ∃ n1₁, n1₁ < 21 - i₁ ∧ (fun n1₁ y0₁ y1₁ y2₁ y3₁ y4₁ y5₁ y6₁ I1₁ L1₁ => y0₁ = x₁ + 53 ∧ y1₁ = x₁ + 1 ∧ y2₁ = x₁ + 3 ∧ y3₁ = nI (9 - d₁) ∧ ∃ (i₁ k1₁ p1₁ fO₁ fA₁ : Nat) (more all₁ : Option (List (Nat × Nat × Nat))), y4₁ = nI (opCnt all₁) ∧ y5₁ = nI (opCnt more) ∧ y6₁ = nI i₁ ∧ n1₁ = 21 - i₁ ∧ i₁ ≤ k1₁ ∧ k1₁ ≤ 20 ∧ 20 ≤ fA₁ + k1₁ ∧ 20 ≤ fO₁ + k1₁ ∧ l0₁.length + (opLst more).length + (opLst all₁).length + opCnt more + opCnt all₁ ≤ 2 * k1₁ ∧ SNC₁ K₁ N₁ R₁ I1₁ L1₁ x₁ B₁ n₁ p1₁ k1₁ (l0₁ ++ opLst more ++ opLst all₁) ∧ I1₁ (x₁ + 1) 10 = I₁ (x₁ + 1) 10 ∧ frSn x₁ I1₁ I₁ L1₁ L₁ ∧ cntV B₁ n₁ one₁ fO₁ fA₁ more all₁ k1₁ p1₁ = G₁ : Nat → Nat → Nat → Nat → Int32 → Int32 → Int32 → Int32 → MI → ML → Prop) n1₁ (x₁ + 53) (x₁ + 1) (x₁ + 3) (nI (9 - d₁)) 0 1 v₁ J3₁ M3₁ := fun J3₁ M3₁ s5₁ j5₁ f5₁ v₁ gv₁ =>
            ⟨21 - (i₁ + 1), by omega, rfl, rfl, rfl, rfl, i₁ + 1, k2₁, tkN₁ B₁ n₁ 200 p2₁, gO₁, 20, some (jnO₁ more u₁), none, rfl, rfl, by rw [gv₁, nI_1], rfl, by omega, o2₁, by omega, by omega, by simp only [opLst, opCnt, List.length_nil]; omega, by rw [opLst, opLst, List.append_nil]; exact s5₁, by rw [j5₁, j4₁], frSn_t f5₁ f4₁, hE₁⟩
          delta w_X6_readCond_97
          refine ⟨fun _ => ⟨hX₁.tok, s_snext s4₁ go₁⟩, fun _ => ⟨fun z₁ => absurd rfl z₁, fun _ => ⟨hX₁.tok, s_snext s4₁ go₁⟩⟩⟩
        · have no'₁ : isWd B₁ n₁ 200 p2₁ 23 = false := Bool.eq_false_iff.mpr no₁
          rw [cntA_end na'₁ no'₁] at hE₁
          exact hok₁ _ _ _ hE₁.symm J2₁ M₁ s4₁ j4₁ f4₁
      rcases more with - | t0₁
      · refine ⟨fun _ => s81₁ J'₁ (by rw [opLst, List.append_nil] at s3₁; exact s3₁) j3₁ f3₁ (by simp only [opLst, opCnt, jnO₁, List.length_nil] at hlen2 ⊢; omega), fun z₁ => absurd rfl z₁⟩
      · refine ⟨fun z₁ => absurd z₁ (by rw [opCnt]; decide), fun _ => ⟨hX₁.srd, _, hX₁.srd_r, hX₁.srd_s.1, ?_⟩⟩
        simp only [opLst, opCnt] at hlen2 s3₁
        exact s_sput (c₁ := 25) (g₁ := 0) (v₁ := 0) hX₁ s3₁ (by rw [List.length_append, List.length_append]; omega) (fun J2₁ s4₁ e4₁ f4₁ => s81₁ J2₁ (by rw [jnO₁, ← List.append_assoc, ← List.append_assoc]; exact s4₁) (by rw [e4₁, j3₁]) (frSn_t f4₁ f3₁) (by rw [jnO₁, List.length_append, List.length_append, List.length_singleton]; omega))
    · rw [cntA_and ya₁] at hE₁
      have go₁ : ∀ (v5₁ : Int32), v5₁ = nI (opCnt more) → ∀ J3₁ M3₁, SNC₁ K₁ N₁ R₁ J3₁ M3₁ x₁ B₁ n₁ (tkN₁ B₁ n₁ 200 p2₁) k2₁ (l0₁ ++ opLst more ++ u₁) → J3₁ (x₁ + 1) 10 = J'₁ (x₁ + 1) 10 → frSn x₁ J3₁ J'₁ M3₁ M₁ → ∀ v₁ : Int32, v₁ = nI i₁ + 1 → ∃ n1₁, n1₁ < 21 - i₁ ∧ (fun n1₁ y0₁ y1₁ y2₁ y3₁ y4₁ y5₁ y6₁ I1₁ L1₁ => y0₁ = x₁ + 53 ∧ y1₁ = x₁ + 1 ∧ y2₁ = x₁ + 3 ∧ y3₁ = nI (9 - d₁) ∧ ∃ (i₁ k1₁ p1₁ fO₁ fA₁ : Nat) (more all₁ : Option (List (Nat × Nat × Nat))), y4₁ = nI (opCnt all₁) ∧ y5₁ = nI (opCnt more) ∧ y6₁ = nI i₁ ∧ n1₁ = 21 - i₁ ∧ i₁ ≤ k1₁ ∧ k1₁ ≤ 20 ∧ 20 ≤ fA₁ + k1₁ ∧ 20 ≤ fO₁ + k1₁ ∧ l0₁.length + (opLst more).length + (opLst all₁).length + opCnt more + opCnt all₁ ≤ 2 * k1₁ ∧ SNC₁ K₁ N₁ R₁ I1₁ L1₁ x₁ B₁ n₁ p1₁ k1₁ (l0₁ ++ opLst more ++ opLst all₁) ∧ I1₁ (x₁ + 1) 10 = I₁ (x₁ + 1) 10 ∧ frSn x₁ I1₁ I₁ L1₁ L₁ ∧ cntV B₁ n₁ one₁ fO₁ fA₁ more all₁ k1₁ p1₁ = G₁ : Nat → Nat → Nat → Nat → Int32 → Int32 → Int32 → Int32 → MI → ML → Prop) n1₁ (x₁ + 53) (x₁ + 1) (x₁ + 3) (nI (9 - d₁)) 1 v5₁ v₁ J3₁ M3₁ := fun v5₁ g5₁ J3₁ M3₁ s5₁ j5₁ f5₁ v₁ gv₁ =>
        ⟨21 - (i₁ + 1), by omega, rfl, rfl, rfl, rfl, i₁ + 1, k2₁, tkN₁ B₁ n₁ 200 p2₁, gO₁ + 1, gA₁, more, some u₁, rfl, g5₁, by rw [gv₁, nI_1], rfl, by omega, o2₁, by omega, by omega, hlen2, s5₁, by rw [j5₁, j3₁], frSn_t f5₁ f3₁, hE₁⟩
      delta w_X6_readCond_81 w_X6_readCond_97
      refine ⟨fun _ => ⟨fun z₁ => ⟨hX₁.tok, s_snext s3₁ (go₁ 1 ?_)⟩, fun z₁ => ⟨fun _ => ⟨hX₁.tok, s_snext s3₁ (go₁ 0 ?_)⟩, fun z2₁ => absurd z2₁ (by decide)⟩⟩, fun z₁ => absurd z₁ (by decide)⟩
      · rcases more with - | t0₁
        · exact absurd rfl z₁
        · rfl
      · exact z₁.symm
  rcases all₁ with - | t1₁
  · refine ⟨fun _ => s44₁ J₁ (by simp only [opLst, List.append_nil] at s2₁; exact s2₁) (by rw [j10₁, e10₁]) (frSn_t f1₁ fr₁) (by simp only [opLst, opCnt, jnA₁, List.length_nil] at hlen ⊢; omega), fun z₁ => absurd rfl z₁⟩
  · refine ⟨fun z₁ => absurd z₁ (by rw [opCnt]; decide), fun _ => ⟨_, hX₁.srd_r, hX₁.srd_s.1, ?_⟩⟩
    replace hlen : l0₁.length + (opLst more).length + t1₁.length + opCnt more + 1 ≤ 2 * k1₁ := hlen
    replace s2₁ : SNC₁ K₁ N₁ R₁ J₁ M₁ x₁ B₁ n₁ p2₁ k2₁ (l0₁ ++ opLst more ++ t1₁ ++ t₁) := s2₁
    exact s_sput (c₁ := 26) (g₁ := 0) (v₁ := 0) hX₁ s2₁ (by simp only [List.length_append]; omega) (fun J2₁ s3₁ e3₁ f3₁ => s44₁ J2₁ (by rw [jnA₁, ← List.append_assoc, ← List.append_assoc]; exact s3₁) (by rw [e3₁, j10₁, e10₁]) (frSn_t f3₁ (frSn_t f1₁ fr₁)) (by rw [jnA₁]; simp only [List.length_append, List.length_singleton]; omega))
end SC₁
