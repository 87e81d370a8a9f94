/-! ===== what a sentence says of a var: the class ===== -/
def sosB (g₁ x₁ y₁ : Int32) : Bool := if g₁ = 60 then decide (x₁ < y₁) else if g₁ = 62 then decide (y₁ < x₁) else decide (x₁ = y₁)
/-- what a one without others says of the var v -/
def onV₁ (U₁ V₁ : Nat → Int32) (v₁ : Nat) (e₁ : Nat × Nat × Nat) : Bool :=
  if e₁.1 = 28 then decide ((lokS U₁ V₁ (nI v₁) (V₁ 0)).1 = 0)
  else if e₁.1 = 29 then hasS U₁ (ix (U₁ (114 + v₁))) (V₁ 0)
  else if e₁.1 = 7 then decide (U₁ (108 + ix (U₁ (124 + v₁))) = 1)
  else if e₁.1 = 30 then behS U₁ (U₁ (114 + v₁)) (nI e₁.2.2)
  else if e₁.1 = 31 then sosB (nI e₁.2.1) (U₁ (102 + ix (U₁ (124 + v₁)))) (nI e₁.2.2)
  else if e₁.1 = 32 then sosB (nI e₁.2.1) (pcnt U₁ (nI v₁) (ix (U₁ 5))) (nI e₁.2.2)
  else if e₁.1 = 9 then (if (lokS U₁ V₁ (nI v₁) (V₁ 0)).1 = 0 then sosB (nI e₁.2.1) (lokS U₁ V₁ (nI v₁) (V₁ 0)).2 (nI e₁.2.2) else false)
  else sosB (nI e₁.2.1) (nI v₁) (nI e₁.2.2)
def stHd : List Bool → Bool
  | [] => false
  | b₁ :: _ => b₁
def stTl : List Bool → List Bool
  | [] => []
  | _ :: t₁ => t₁
def stpE (U₁ V₁ : Nat → Int32) (v₁ : Nat) (st₁ : List Bool) (e₁ : Nat × Nat × Nat) : List Bool :=
  if e₁.1 = 27 then (!stHd st₁) :: stTl st₁ else if e₁.1 = 26 then (stHd (stTl st₁) && stHd st₁) :: stTl (stTl st₁) else if e₁.1 = 25 then (stHd (stTl st₁) || stHd st₁) :: stTl (stTl st₁) else onV₁ U₁ V₁ v₁ e₁ :: st₁
def sayS (U₁ V₁ : Nat → Int32) (v₁ : Nat) (l₁ : List (Nat × Nat × Nat)) : Bool := stHd (l₁.foldl (stpE U₁ V₁ v₁) [])
def STC₁ (I₁ : MI) (s₁ : Nat) : List Bool → Prop
  | [] => True
  | b₁ :: t₁ => I₁ (s₁ + 4) t₁.length = bi b₁ ∧ STC₁ I₁ s₁ t₁
def STB₁ (I₁ : MI) (s₁ : Nat) (st₁ : List Bool) : Prop := I₁ s₁ 5 = nI st₁.length ∧ STC₁ I₁ s₁ st₁
theorem stTl_len (st₁ : List Bool) : (stTl st₁).length = st₁.length - 1 := by
  cases st₁ <;> rfl
theorem stpE_len {U₁ V₁ : Nat → Int32} {v₁ : Nat} {st₁ : List Bool} {e₁ : Nat × Nat × Nat} : (stpE U₁ V₁ v₁ st₁ e₁).length ≤ st₁.length + 1 := by
  rw [stpE]
  split
  · rw [List.length_cons, stTl_len]; omega
  · split
    · rw [List.length_cons, stTl_len, stTl_len]; omega
    · split
      · rw [List.length_cons, stTl_len, stTl_len]; omega
      · rw [List.length_cons]; omega
theorem nar_bi (b₁ : Bool) : vp_nar .boolean (bi b₁) = bi b₁ := by cases b₁ <;> rfl
section UN₁
variable {K₁ N₁ : MK} {I₁ : MI} {L₁ : ML} {R₁ : MR} {s₁ x₁ : Nat} {U₁ V₁ : Nat → Int32} {W₁ : Nat → Int64} {st₁ : List Bool} {l₁ : List (Nat × Nat × Nat)}
theorem STC_fr {J₁ : MI} : ∀ st₁ : List Bool, (∀ y₁, y₁ < st₁.length → J₁ (s₁ + 4) y₁ = I₁ (s₁ + 4) y₁) → STC₁ I₁ s₁ st₁ → STC₁ J₁ s₁ st₁
  | [], _, _ => trivial
  | b₁ :: t₁, hf₁, h₁ => by
    rw [STC₁] at h₁ ⊢
    rw [List.length_cons] at hf₁
    exact ⟨by rw [hf₁ _ (by omega)]; exact h₁.1, STC_fr t₁ (fun y₁ hy₁ => hf₁ y₁ (by omega)) h₁.2⟩
theorem s_spush {b₁ : Bool} {Q₁ : MI → Prop} (hC₁ : SEL K₁ N₁ R₁ s₁) (hS₁ : STB₁ I₁ s₁ st₁) (hl₁ : st₁.length < 40)
    (h₁ : ∀ J₁, STB₁ J₁ s₁ (b₁ :: st₁) → (∀ c₁, c₁ ≠ s₁ → c₁ ≠ s₁ + 4 → J₁ c₁ = I₁ c₁) → (∀ y₁, y₁ ≠ 5 → J₁ s₁ y₁ = I₁ s₁ y₁) → Q₁ J₁) : w_X5_push s₁ b₁ K₁ N₁ I₁ L₁ R₁ Q₁ := by
  obtain ⟨p1₁, p2₁, p3₁, p4₁, p5₁, p6₁, p7₁, p8₁, p9₁, p10₁, p11₁, p12₁, p13₁⟩ := hC₁
  delta w_X5_push
  rw [hS₁.1, show (40 : Int32) = nI 40 from rfl, leN (by omega) (by omega)]
  refine ⟨p1₁, fun q₁ => by omega, fun q₁ => ⟨_, p5₁, p12₁, by rw [p13₁]; exact (vp_nI (by omega)).mpr (by omega), fun I5₁ g5₁ I6₁ g6₁ => ?_⟩⟩
  rw [ix_nI (by omega), nar_bi] at g5₁
  have e5₁ : I5₁ s₁ 5 = nI st₁.length := by rw [g5₁, mup_ne (by omega)]; exact hS₁.1
  rw [e5₁, nI_1] at g6₁
  refine h₁ I6₁ ⟨by rw [g6₁, mup_at]; rfl, ?_, STC_fr st₁ (fun y₁ hy₁ => ?_) hS₁.2⟩ (fun c₁ q1₁ q2₁ => by rw [g6₁, mup_ne q1₁, g5₁, mup_ne q2₁]) (fun y₁ hy₁ => by rw [g6₁, mup_k hy₁, g5₁, mup_ne (by omega)])
  · rw [g6₁, mup_ne (by omega), g5₁, mup_at]
  · rw [g6₁, mup_ne (by omega), g5₁, mup_k (by omega)]
theorem s_spop {Q₁ : Bool → MI → Prop} (hC₁ : SEL K₁ N₁ R₁ s₁) (hS₁ : STB₁ I₁ s₁ st₁) (hl₁ : st₁.length ≤ 40)
    (h₁ : ∀ J₁, STB₁ J₁ s₁ (stTl st₁) → (∀ c₁, c₁ ≠ s₁ → J₁ c₁ = I₁ c₁) → (∀ y₁, y₁ ≠ 5 → J₁ s₁ y₁ = I₁ s₁ y₁) → Q₁ (stHd st₁) J₁) : w_X5_pop s₁ K₁ N₁ I₁ L₁ R₁ Q₁ := by
  obtain ⟨p1₁, p2₁, p3₁, p4₁, p5₁, p6₁, p7₁, p8₁, p9₁, p10₁, p11₁, p12₁, p13₁⟩ := hC₁
  delta w_X5_pop
  rw [hS₁.1, show (0 : Int32) = nI 0 from rfl, ltN (by omega) (by omega)]
  refine ⟨p1₁, fun q₁ I2₁ g2₁ => ⟨_, p5₁, p12₁, ?_⟩, fun q₁ => ?_⟩
  · rcases st₁ with - | ⟨b₁, t₁⟩
    · exact absurd q₁ (by rw [List.length_nil]; omega)
    · rw [List.length_cons] at hl₁
      have e2₁ : I2₁ s₁ 5 = nI t₁.length := by rw [g2₁, mup_at, List.length_cons, nI_pred]
      rw [e2₁, ix_nI (by omega), p13₁]
      refine ⟨(vp_nI (by omega)).mpr (by omega), b₁, by rw [g2₁, mup_ne (by omega)]; exact hS₁.2.1, h₁ I2₁ ⟨e2₁, STC_fr t₁ (fun y₁ hy₁ => by rw [g2₁, mup_ne (by omega)]) hS₁.2.2⟩ (fun c₁ q1₁ => by rw [g2₁, mup_ne q1₁]) (fun y₁ hy₁ => by rw [g2₁, mup_k hy₁])⟩
  · rcases st₁ with - | ⟨b₁, t₁⟩
    · exact h₁ I₁ ⟨hS₁.1, trivial⟩ (fun _ _ => rfl) (fun _ _ => rfl)
    · exact absurd q₁ (by rw [List.length_cons]; omega)
theorem s_isSo {i₁ : Nat} {a₁ g₁ y₁ : Int32} {Q₁ : Bool → Prop} (hC₁ : SEL K₁ N₁ R₁ s₁) (hi₁ : i₁ < 40) (e2₁ : I₁ (s₁ + 2) i₁ = g₁) (e3₁ : I₁ (s₁ + 3) i₁ = y₁) (h₁ : Q₁ (sosB g₁ a₁ y₁)) : w_X5_isSo s₁ a₁ (nI i₁) K₁ N₁ I₁ L₁ R₁ Q₁ := by
  obtain ⟨p1₁, p2₁, p3₁, p4₁, p5₁, p6₁, p7₁, p8₁, p9₁, p10₁, p11₁, p12₁, p13₁⟩ := hC₁
  have v3₁ : ∃ b5₁ : Nat, R₁ s₁ 3 = some b5₁ ∧ K₁ b5₁ = 14 ∧ vp_in (nI i₁) (N₁ b5₁) ∧ b5₁ = s₁ + 3 := ⟨_, p4₁, p10₁, by rw [p11₁]; exact (vp_nI (by omega)).mpr hi₁, rfl⟩
  obtain ⟨b5₁, r3₁, k3₁, v3₁, rfl⟩ := v3₁
  delta w_X5_isSo
  rw [sosB] at h₁
  refine ⟨p1₁, _, p3₁, p8₁, by rw [p9₁]; exact (vp_nI (by omega)).mpr hi₁, ?_⟩
  rw [ix_nI (by omega), e2₁]
  refine ⟨fun z₁ => ⟨fun z2₁ => ⟨_, r3₁, k3₁, v3₁, ?_⟩, fun z2₁ => ⟨_, r3₁, k3₁, v3₁, ?_⟩⟩, fun z₁ => ⟨_, r3₁, k3₁, v3₁, ?_⟩⟩
  · rw [if_neg z₁, if_neg z2₁] at h₁
    rw [e3₁]
    exact ⟨fun w₁ => by rw [decide_eq_false w₁] at h₁; exact h₁, fun w₁ => by rw [decide_eq_true w₁] at h₁; exact h₁⟩
  · rw [if_neg z₁, if_pos z2₁] at h₁
    rw [e3₁]
    exact ⟨fun w₁ => by rw [decide_eq_false (Int32.not_lt.mpr w₁)] at h₁; exact h₁, fun w₁ => by rw [decide_eq_true (Int32.not_le.mp w₁)] at h₁; exact h₁⟩
  · rw [if_pos z₁] at h₁
    rw [e3₁]
    exact ⟨fun w₁ => by rw [decide_eq_false (Int32.not_lt.mpr w₁)] at h₁; exact h₁, fun w₁ => by rw [decide_eq_true (Int32.not_le.mp w₁)] at h₁; exact h₁⟩
/-- an entry that may be -/
def enW₁ (e₁ : Nat × Nat × Nat) : Prop := e₁.1 < 100
theorem s_isOne {i₁ v₁ : Nat} {e₁ : Nat × Nat × Nat} {Q₁ : Bool → MI → Prop} (hX₁ : PDL K₁ N₁ R₁ x₁) (hi₁ : i₁ < 40) (he₁ : enW₁ e₁) (e1₁ : I₁ (x₁ + 31 + 1) i₁ = nI e₁.1) (e2₁ : I₁ (x₁ + 31 + 2) i₁ = nI e₁.2.1) (e3₁ : I₁ (x₁ + 31 + 3) i₁ = nI e₁.2.2) (hv₁ : v₁ < ix (U₁ 4)) (hD₁ : UD I₁ L₁ (x₁ + 3) U₁ W₁) (hW₁ : WFU₁ U₁) (hV₁ : MACD I₁ (x₁ + 19) V₁) (hm₁ : WFm₁ V₁)
    (h₁ : ∀ J₁, (∀ b₁, b₁ ≠ x₁ + 28 → b₁ ≠ x₁ + 29 → J₁ b₁ = I₁ b₁) → Q₁ (onV₁ U₁ V₁ v₁ e₁) J₁) : w_X5_isOne (x₁ + 31) (x₁ + 3) (x₁ + 19) (x₁ + 28) (nI v₁) (nI i₁) K₁ N₁ I₁ L₁ R₁ Q₁ := by
  obtain ⟨hU₁, hr₁, hs₁, hT₁, hvt₁, hvh₁, hw₁, ho₁⟩ := hW₁
  have hn₁ := hU₁.2.2.2.1.2
  have hn2₁ := hU₁.2.1.2
  have hn3₁ := hU₁.2.2.1.2
  have hL₁ := hX₁.un
  have T4₁ := hL₁.2.2.2.2.2.2.2.2.2.1
  have T3₁ := hL₁.2.2.2.2.2.2.2.2.1
  have hd₁ := hD₁.2.2.2.2.1.1
  have hc₁ := hD₁.2.2.2.2.1.2 v₁ hv₁
  have hd3₁ := hD₁.2.2.2.1.1
  obtain ⟨t₁, et₁, hlt₁⟩ := hvt₁ v₁ hv₁
  obtain ⟨z₁, ez₁, hlz₁⟩ := hvh₁ v₁ hv₁
  have hc3₁ := hD₁.2.2.2.1.2 t₁ hlt₁
  have hSe₁ := hX₁.sen
  have c1₁ : e₁.1 < 2147483648 := Nat.lt_trans he₁ (by decide)
  have hQ₁ := h₁ I₁ (fun b₁ _ _ => rfl)
  have ir₁ : ix (nI t₁) = t₁ := ix_nI (by omega)
  have iz₁ : ix (nI z₁) = z₁ := ix_nI (by omega)
  rw [onV₁, et₁, ez₁, ir₁, iz₁] at h₁ hQ₁
  have a0₁ : tat I₁ (x₁ + 3 + 10) 2 (ix (U₁ 4)) (nI v₁) 0 = nI z₁ := (show tat I₁ (x₁ + 3 + 10) 2 (ix (U₁ 4)) (nI v₁) (nI 0) = _ from tat_in hv₁ (by omega) (by omega) (by omega)).trans (hc₁.1.trans ez₁)
  have a1₁ : tat I₁ (x₁ + 3 + 10) 2 (ix (U₁ 4)) (nI v₁) 1 = nI t₁ := (show tat I₁ (x₁ + 3 + 10) 2 (ix (U₁ 4)) (nI v₁) (nI 1) = _ from tat_in hv₁ (by omega) (by omega) (by omega)).trans (hc₁.2.1.trans et₁)
  have b2₁ : tat I₁ (x₁ + 3 + 7) 3 (ix (U₁ 3)) (nI t₁) 2 = U₁ (108 + t₁) := (show tat I₁ (x₁ + 3 + 7) 3 (ix (U₁ 3)) (nI t₁) (nI 2) = _ from tat_in hlt₁ (by omega) (by omega) (by omega)).trans hc3₁.2.2.1
  have b1₁ : tat I₁ (x₁ + 3 + 7) 3 (ix (U₁ 3)) (nI t₁) 1 = U₁ (102 + t₁) := (show tat I₁ (x₁ + 3 + 7) 3 (ix (U₁ 3)) (nI t₁) (nI 1) = _ from tat_in hlt₁ (by omega) (by omega) (by omega)).trans hc3₁.2.1
  delta w_X5_isOne
  refine ⟨hL₁.1, _, hL₁.2.2.2.2.1, T4₁.1, s_at T4₁ hd₁ ?_⟩
  rw [a0₁]
  refine s_at T4₁ hd₁ ?_
  rw [a1₁]
  refine ⟨hSe₁.1, _, hSe₁.2.1, hSe₁.2.2.2.2.2.1, by rw [hSe₁.2.2.2.2.2.2.1]; exact (vp_nI (by omega)).mpr hi₁, ?_⟩
  rw [ix_nI (by omega), e1₁, show (7 : Int32) = nI 7 from rfl, show (9 : Int32) = nI 9 from rfl, show (28 : Int32) = nI 28 from rfl, show (29 : Int32) = nI 29 from rfl, show (30 : Int32) = nI 30 from rfl, show (31 : Int32) = nI 31 from rfl, show (32 : Int32) = nI 32 from rfl, eqN c1₁ (by decide), eqN c1₁ (by decide), eqN c1₁ (by decide), eqN c1₁ (by decide), eqN c1₁ (by decide), eqN c1₁ (by decide), eqN c1₁ (by decide)]
  refine ⟨fun q7₁ => ⟨_, hL₁.2.2.2.1, T3₁.1, s_at T3₁ hd3₁ ?_⟩, fun q7₁ => ⟨fun q9₁ => ⟨hX₁.mac.1, hX₁.fin, ?_⟩, fun q9₁ => ⟨fun q28₁ => ⟨hX₁.mac.1, hX₁.fin, ?_⟩, fun q28₁ => ⟨fun q29₁ => ⟨hX₁.mac.1, ?_⟩, fun q29₁ => ⟨fun q30₁ => ⟨_, hSe₁.2.2.2.1, hSe₁.2.2.2.2.2.2.2.2.2.1, by rw [hSe₁.2.2.2.2.2.2.2.2.2.2.1]; exact (vp_nI (by omega)).mpr hi₁, ?_⟩, fun q30₁ => ⟨fun q31₁ => ⟨_, hL₁.2.2.2.1, T3₁.1, s_at T3₁ hd3₁ ?_⟩, fun q31₁ => ⟨fun q32₁ => s_placesOf hL₁ hD₁.2.2.2.2.2 hU₁ (s_isSo hSe₁ hi₁ e2₁ e3₁ ?_), fun q32₁ => s_isSo hSe₁ hi₁ e2₁ e3₁ ?_⟩⟩⟩⟩⟩⟩⟩
  · rw [if_neg (by omega), if_neg (by omega), if_pos q7₁] at hQ₁
    rw [b2₁]
    exact ⟨fun w₁ => by rw [decide_eq_false w₁] at hQ₁; exact hQ₁, fun w₁ => by rw [decide_eq_true w₁] at hQ₁; exact hQ₁⟩
  · rw [if_neg (by omega), if_neg (by omega), if_neg (by omega), if_neg (by omega), if_neg (by omega), if_neg (by omega), if_pos q9₁] at h₁
    rw [hV₁.1]
    refine s_look hX₁.fil hX₁.mac hV₁ hm₁ (by omega) hL₁ (by omega) hD₁ hU₁ hw₁ hvt₁ hT₁ ho₁ (fun J₁ g₁ r2₁ => ⟨fun w₁ => ?_, fun w₁ => ?_⟩)
    · rw [if_neg w₁] at h₁; exact h₁ J₁ g₁
    · rw [if_pos w₁] at h₁
      rw [r2₁ w₁]
      have hJ₁ := h₁ J₁ g₁
      exact s_isSo (g₁ := nI e₁.2.1) (y₁ := nI e₁.2.2) hSe₁ hi₁ (by rw [g₁ _ (by omega) (by omega)]; exact e2₁) (by rw [g₁ _ (by omega) (by omega)]; exact e3₁) ⟨fun y₁ => by rw [y₁] at hJ₁; exact hJ₁, fun y₁ => by rw [y₁] at hJ₁; exact hJ₁⟩
  · rw [if_pos q28₁] at h₁
    rw [hV₁.1]
    exact s_look hX₁.fil hX₁.mac hV₁ hm₁ (by omega) hL₁ (by omega) hD₁ hU₁ hw₁ hvt₁ hT₁ ho₁ (fun J₁ g₁ r2₁ => ⟨fun w₁ => by have hJ₁ := h₁ J₁ g₁; rw [decide_eq_false w₁] at hJ₁; exact hJ₁, fun w₁ => by have hJ₁ := h₁ J₁ g₁; rw [decide_eq_true w₁] at hJ₁; exact hJ₁⟩)
  · rw [if_neg (by omega), if_pos q29₁] at hQ₁
    rw [hV₁.1]
    exact s_scopeHas hL₁ hD₁.2.2.1 hU₁ hs₁ hlz₁ hQ₁
  · rw [if_neg (by omega), if_neg (by omega), if_neg (by omega), if_pos q30₁] at hQ₁
    rw [e3₁]
    exact s_isWithin hL₁ hD₁.2.2.1 hU₁ hs₁ hlz₁ hQ₁
  · rw [if_neg (by omega), if_neg (by omega), if_neg (by omega), if_neg (by omega), if_pos q31₁] at hQ₁
    rw [b1₁]
    exact s_isSo hSe₁ hi₁ e2₁ e3₁ hQ₁
  · rw [if_neg (by omega), if_neg (by omega), if_neg (by omega), if_neg (by omega), if_neg (by omega), if_pos q32₁] at hQ₁
    exact hQ₁
  · rw [if_neg (by omega), if_neg (by omega), if_neg (by omega), if_neg (by omega), if_neg (by omega), if_neg (by omega), if_neg (by omega)] at hQ₁
    exact hQ₁
/-- what judging a sentence leaves as it was -/
def frSd (x₁ : Nat) (J₁ I₁ : MI) : Prop := (∀ b₁, b₁ ≠ x₁ + 28 → b₁ ≠ x₁ + 29 → b₁ ≠ x₁ + 31 → b₁ ≠ x₁ + 35 → J₁ b₁ = I₁ b₁) ∧ ∀ y₁, y₁ ≠ 5 → J₁ (x₁ + 31) y₁ = I₁ (x₁ + 31) y₁
theorem frSd_t {J₁ J'₁ : MI} (h₁ : frSd x₁ J'₁ J₁) (h2₁ : frSd x₁ J₁ I₁) : frSd x₁ J'₁ I₁ := ⟨fun b₁ q1₁ q2₁ q3₁ q4₁ => by rw [h₁.1 b₁ q1₁ q2₁ q3₁ q4₁, h2₁.1 b₁ q1₁ q2₁ q3₁ q4₁], fun y₁ q₁ => by rw [h₁.2 y₁ q₁, h2₁.2 y₁ q₁]⟩
theorem SED_sd {J₁ : MI} (h₁ : SED₁ I₁ (x₁ + 31) l₁) (g₁ : frSd x₁ J₁ I₁) : SED₁ J₁ (x₁ + 31) l₁ := by
  rw [SED₁, g₁.2 0 (by decide), g₁.1 (x₁ + 31 + 1) (by omega) (by omega) (by omega) (by omega), g₁.1 (x₁ + 31 + 2) (by omega) (by omega) (by omega) (by omega), g₁.1 (x₁ + 31 + 3) (by omega) (by omega) (by omega) (by omega)]
  exact h₁
def saJ₁ (x₁ v₁ : Nat) (l₁ : List (Nat × Nat × Nat)) (U₁ V₁ : Nat → Int32) (I₁ : MI) (n1₁ y0₁ y1₁ y2₁ y3₁ : Nat) (y4₁ y5₁ : Int32) (I1₁ : MI) : Prop := y0₁ = x₁ + 31 ∧ y1₁ = x₁ + 3 ∧ y2₁ = x₁ + 19 ∧ y3₁ = x₁ + 28 ∧ y4₁ = nI v₁ ∧ ∃ i₁ st₁, i₁ ≤ l₁.length ∧ n1₁ = l₁.length - i₁ ∧ y5₁ = nI i₁ ∧ st₁.length ≤ i₁ ∧ STB₁ I1₁ (x₁ + 31) st₁ ∧ frSd x₁ I1₁ I₁ ∧ (l₁.drop i₁).foldl (stpE U₁ V₁ v₁) st₁ = l₁.foldl (stpE U₁ V₁ v₁) []
theorem s_isSaidOf {v₁ : Nat} {Q₁ : Bool → MI → Prop} (hX₁ : PDL K₁ N₁ R₁ x₁) (hS₁ : SED₁ I₁ (x₁ + 31) l₁) (hl₁ : ∀ e₁ ∈ l₁, enW₁ e₁) (hv₁ : v₁ < ix (U₁ 4)) (hD₁ : UD I₁ L₁ (x₁ + 3) U₁ W₁) (hW₁ : WFU₁ U₁) (hV₁ : MACD I₁ (x₁ + 19) V₁) (hm₁ : WFm₁ V₁)
    (h₁ : ∀ J₁, frSd x₁ J₁ I₁ → Q₁ (sayS U₁ V₁ v₁ l₁) J₁) : w_X5_isSaidOf (x₁ + 31) (x₁ + 3) (x₁ + 19) (x₁ + 28) (nI v₁) K₁ N₁ I₁ L₁ R₁ Q₁ := by
  have hSe₁ := hX₁.sen
  delta w_X5_isSaidOf
  refine ⟨hSe₁.1, fun I2₁ g2₁ => ?_⟩
  have f2₁ : frSd x₁ I2₁ I₁ := ⟨fun b₁ q1₁ q2₁ q3₁ q4₁ => by rw [g2₁, mup_ne q3₁], fun y₁ q₁ => by rw [g2₁, mup_k q₁]⟩
  delta w_X5_isSaidOf_8
  refine ⟨saJ₁ x₁ v₁ l₁ U₁ V₁ I₁, ⟨l₁.length, rfl, rfl, rfl, rfl, rfl, 0, [], Nat.zero_le _, rfl, rfl, Nat.le_refl _, ⟨by rw [g2₁, mup_at]; rfl, trivial⟩, f2₁, rfl⟩, ?_⟩
  rintro n1₁ y0₁ y1₁ y2₁ y3₁ y4₁ y5₁ I1₁ ⟨e0₁, e1₁, e2₁, e3₁, e4₁, i₁, st₁, hi₁, e6₁, e5₁, hst₁, hB₁, fr₁, hE₁⟩
  subst e0₁ e1₁ e2₁ e3₁ e4₁ e5₁ e6₁
  have hS1₁ := SED_sd hS₁ fr₁
  have l40₁ := hS1₁.2.1
  refine ⟨hSe₁.1, ?_⟩
  rw [hS1₁.1, leN (by omega) (by omega), show (40 : Int32) = nI 40 from rfl, leN (by omega) (by omega)]
  refine ⟨fun q₁ => s_spop hSe₁ hB₁ (by omega) (fun J₁ sB₁ f1₁ f2₁ => ?_), fun q₁ => ⟨fun q2₁ => by omega, fun _ => ⟨_, hSe₁.2.1, hSe₁.2.2.2.2.2.1, by rw [hSe₁.2.2.2.2.2.2.1]; exact (vp_nI (by omega)).mpr (by omega), ?_⟩⟩⟩
  · have el₁ : i₁ = l₁.length := by omega
    rw [el₁, List.drop_length] at hE₁
    have hE₁ : st₁ = l₁.foldl (stpE U₁ V₁ v₁) [] := hE₁
    rw [hE₁]
    exact h₁ J₁ (frSd_t ⟨fun b₁ q1₁ q2₁ q3₁ q4₁ => f1₁ b₁ q3₁, f2₁⟩ fr₁)
  have hlt₁ : i₁ < l₁.length := by omega
  have hdr₁ : l₁.drop i₁ = l₁.getD i₁ (0, 0, 0) :: l₁.drop (i₁ + 1) := by
    rw [List.drop_eq_getElem_cons hlt₁, List.getD_eq_getElem?_getD, List.getElem?_eq_getElem hlt₁]; rfl
  have hme₁ : enW₁ (l₁.getD i₁ (0, 0, 0)) := by
    rw [List.getD_eq_getElem?_getD, List.getElem?_eq_getElem hlt₁]
    exact hl₁ _ (List.getElem_mem hlt₁)
  obtain ⟨w1₁, w2₁, w3₁⟩ := hS1₁.2.2 i₁ hlt₁
  rw [hdr₁, List.foldl_cons] at hE₁
  generalize l₁.getD i₁ (0, 0, 0) = e₁ at w1₁ w2₁ w3₁ hE₁ hme₁
  have c1₁ : e₁.1 < 2147483648 := Nat.lt_trans hme₁ (by decide)
  have go₁ : ∀ (st'₁ : List Bool) (J₁ : MI), st'₁ = stpE U₁ V₁ v₁ st₁ e₁ → STB₁ J₁ (x₁ + 31) st'₁ → frSd x₁ J₁ I₁ → ∀ w₁ : Int32, w₁ = nI i₁ + 1 → ∃ n1₁, n1₁ < l₁.length - i₁ ∧ saJ₁ x₁ v₁ l₁ U₁ V₁ I₁ n1₁ (x₁ + 31) (x₁ + 3) (x₁ + 19) (x₁ + 28) (nI v₁) w₁ J₁ := fun st'₁ J₁ es₁ sB₁ f₁ w₁ gw₁ =>
    ⟨l₁.length - (i₁ + 1), by omega, rfl, rfl, rfl, rfl, rfl, i₁ + 1, st'₁, by omega, rfl, by rw [gw₁, nI_1], by rw [es₁]; exact Nat.le_trans stpE_len (by omega), sB₁, f₁, by rw [es₁]; exact hE₁⟩
  -- a₁ value more
  have put₁ : ∀ (b₁ : Bool) (st2₁ : List Bool) (J₁ : MI), b₁ :: st2₁ = stpE U₁ V₁ v₁ st₁ e₁ → STB₁ J₁ (x₁ + 31) st2₁ → st2₁.length ≤ i₁ → frSd x₁ J₁ I₁ → w_X5_push (x₁ + 31) b₁ K₁ N₁ J₁ L₁ R₁ (fun I37₁ => ∀ v38₁ : Int32, v38₁ = nI i₁ + 1 → ∃ n1₁, n1₁ < l₁.length - i₁ ∧ saJ₁ x₁ v₁ l₁ U₁ V₁ I₁ n1₁ (x₁ + 31) (x₁ + 3) (x₁ + 19) (x₁ + 28) (nI v₁) v38₁ I37₁) := fun b₁ st2₁ J₁ es₁ sB₁ hl2₁ f₁ =>
    s_spush hSe₁ sB₁ (by omega) (fun J3₁ s3₁ f3₁ y3₁ => go₁ _ J3₁ es₁ s3₁ (frSd_t ⟨fun c₁ q1₁ q2₁ q3₁ q4₁ => f3₁ c₁ q3₁ (by omega), y3₁⟩ f₁))
  rw [ix_nI (by omega), w1₁, show (27 : Int32) = nI 27 from rfl, show (26 : Int32) = nI 26 from rfl, show (25 : Int32) = nI 25 from rfl, eqN c1₁ (by decide), eqN c1₁ (by decide), eqN c1₁ (by decide)]
  have two₁ : (e₁.1 = 26 ∨ e₁.1 = 25) → w_X5_isSaidOf_79 (x₁ + 31) (x₁ + 3) (x₁ + 19) (x₁ + 28) (nI v₁) (nI i₁) K₁ N₁ I1₁ L₁ R₁ (fun y0₁ y1₁ y2₁ y3₁ y4₁ y5₁ y6₁ => ∃ n1₁, n1₁ < l₁.length - i₁ ∧ saJ₁ x₁ v₁ l₁ U₁ V₁ I₁ n1₁ y0₁ y1₁ y2₁ y3₁ y4₁ y5₁ y6₁) Q₁ := fun hc₁ => by
    delta w_X5_isSaidOf_79
    refine ⟨hSe₁.1, s_spop hSe₁ hB₁ (by omega) (fun J5₁ s5₁ f5₁ y5₁ => s_spop hSe₁ s5₁ (by rw [stTl_len]; omega) (fun J6₁ s6₁ f6₁ y6₁ => ⟨_, hSe₁.2.1, hSe₁.2.2.2.2.2.1, by rw [hSe₁.2.2.2.2.2.2.1]; exact (vp_nI (by omega)).mpr (by omega), ?_⟩))⟩
    have f56₁ : frSd x₁ J6₁ I₁ := frSd_t ⟨fun c₁ q1₁ q2₁ q3₁ q4₁ => f6₁ c₁ q3₁, y6₁⟩ (frSd_t ⟨fun c₁ q1₁ q2₁ q3₁ q4₁ => f5₁ c₁ q3₁, y5₁⟩ fr₁)
    have len2 : (stTl (stTl st₁)).length ≤ i₁ := by rw [stTl_len, stTl_len]; omega
    rw [ix_nI (by omega), f6₁ _ (by omega), f5₁ _ (by omega), w1₁, show (26 : Int32) = nI 26 from rfl, eqN c1₁ (by decide)]
    refine ⟨fun q26₁ => ⟨fun z₁ => put₁ true _ J6₁ ?_ s6₁ len2 f56₁, fun z₁ => ⟨fun z2₁ => put₁ false _ J6₁ ?_ s6₁ len2 f56₁, fun z2₁ => put₁ true _ J6₁ ?_ s6₁ len2 f56₁⟩⟩, fun q26₁ => ⟨fun z₁ => put₁ false _ J6₁ ?_ s6₁ len2 f56₁, fun z₁ => ⟨fun z2₁ => put₁ false _ J6₁ ?_ s6₁ len2 f56₁, fun z2₁ => put₁ true _ J6₁ ?_ s6₁ len2 f56₁⟩⟩⟩
    · rw [stpE, if_neg (by omega), if_neg (by omega), if_pos (by omega), z₁]; rfl
    · rw [stpE, if_neg (by omega), if_neg (by omega), if_pos (by omega), z₁, z2₁]; rfl
    · rw [stpE, if_neg (by omega), if_neg (by omega), if_pos (by omega), z₁, z2₁]; rfl
    · rw [stpE, if_neg (by omega), if_pos q26₁, z₁]; rfl
    · rw [stpE, if_neg (by omega), if_pos q26₁, z₁, z2₁]; rfl
    · rw [stpE, if_neg (by omega), if_pos q26₁, z₁, z2₁]; rfl
  refine ⟨fun q27₁ => ⟨fun q26₁ => two₁ (Or.inl q26₁), fun q26₁ => ⟨fun q25₁ => ?_, fun q25₁ => two₁ (Or.inr q25₁)⟩⟩, fun q27₁ => s_spop hSe₁ hB₁ (by omega) (fun J5₁ s5₁ f5₁ y5₁ => ⟨fun z₁ => put₁ false _ J5₁ ?_ s5₁ ?_ (frSd_t ⟨fun c₁ q1₁ q2₁ q3₁ q4₁ => f5₁ c₁ q3₁, y5₁⟩ fr₁), fun z₁ => put₁ true _ J5₁ ?_ s5₁ ?_ (frSd_t ⟨fun c₁ q1₁ q2₁ q3₁ q4₁ => f5₁ c₁ q3₁, y5₁⟩ fr₁)⟩)⟩
  · refine s_isOne hX₁ (by omega) hme₁ w1₁ w2₁ w3₁ hv₁ (UD_fr hD₁ (fun b₁ q1₁ q2₁ => fr₁.1 b₁ (by omega) (by omega) (by omega) (by omega))) hW₁ (MACD_fr hV₁ (fun b₁ q₁ => fr₁.1 b₁ (by omega) (by omega) (by omega) (by omega))) hm₁ (fun J₁ g₁ => put₁ _ st₁ J₁ ?_ ⟨by rw [g₁ _ (by omega) (by omega)]; exact hB₁.1, STC_fr st₁ (fun y₁ _ => by rw [g₁ _ (by omega) (by omega)]) hB₁.2⟩ hst₁ (frSd_t ⟨fun c₁ q1₁ q2₁ q3₁ q4₁ => g₁ c₁ q1₁ q2₁, fun y₁ _ => by rw [g₁ _ (by omega) (by omega)]⟩ fr₁))
    rw [stpE, if_neg q27₁, if_neg q26₁, if_neg q25₁]
  · rw [stpE, if_pos q27₁, z₁]; rfl
  · rw [stTl_len]; omega
  · rw [stpE, if_pos q27₁, z₁]; rfl
  · rw [stTl_len]; omega
end UN₁
