/-! ===== a deed of the machine: why not, and what it leaves ===== -/
def dwS₁ (U₁ V₁ : Nat → Int32) (a₁ b₁ : Int32) : Nat → Int32
  | 0 => if V₁ (11 + ix a₁) = b₁ then 1 else 0
  | 1 => if V₁ (19 + ix a₁) = b₁ then 1 else 0
  | 2 => if V₁ 0 = a₁ then 1 else 0
  | 3 => if stpS V₁ a₁ = -1 then (if V₁ 2 = 8 then 2 else 0) else 1
  | 4 => if stpS V₁ a₁ = -1 then 1 else 0
  | 5 => if stepS U₁ (V₁ 0) = -1 then 1 else 0
  | 6 => if lvS₁ U₁ (V₁ 0) = -1 then 1 else if adr U₁ (lvS₁ U₁ (V₁ 0)) = true then 0 else 2
  | _ => if runS U₁ V₁ = -1 then 1 else 0
def chgS (U₁ V₁ : Nat → Int32) (a₁ b₁ : Int32) : Nat → Nat → Int32
  | 0 => vst₁ V₁ (11 + ix a₁) b₁
  | 1 => vst₁ V₁ (19 + ix a₁) b₁
  | 2 => vst₁ V₁ 0 a₁
  | 3 => vst₁ (vst₁ V₁ (3 + ix (V₁ 2)) a₁) 2 (V₁ 2 + 1)
  | 4 => vst₁ (vst₁ V₁ 2 (V₁ 2 - 1)) (3 + ix (stpS V₁ a₁)) (V₁ (3 + ix (V₁ 2 - 1)))
  | 5 => vst₁ V₁ 0 (stepS U₁ (V₁ 0))
  | 6 => vst₁ V₁ 0 (lvS₁ U₁ (V₁ 0))
  | _ => vst₁ V₁ 0 (runS U₁ V₁)
def dlS₁ (U₁ V₁ : Nat → Int32) (a₁ b₁ : Int32) (d₁ : Nat) : Nat → Int32 := vst₁ (chgS U₁ V₁ a₁ b₁ d₁) 1 (V₁ 1 + 1)
/-- the deed's arguments -/
def dar₁ (U₁ : Nat → Int32) (a₁ : Int32) : Nat → Prop
  | 0 => inN a₁ 8 = true
  | 1 => inN a₁ 64 = true
  | 2 => adr U₁ a₁ = true
  | _ => True
def ovr₁ (U₁ V₁ : Nat → Int32) (k₁ : Nat) : Int32 := if 342 ≤ k₁ ∧ k₁ < 425 then V₁ (k₁ - 342) else U₁ k₁
section UN₁
variable {U₁ U'₁ V₁ V'₁ : Nat → Int32}
theorem vst_vst {p₁ q₁ : Nat} {a₁ b₁ : Int32} (h₁ : p₁ ≠ q₁) : vst₁ (vst₁ V₁ p₁ a₁) q₁ b₁ = vst₁ (vst₁ V₁ q₁ b₁) p₁ a₁ := by
  funext j₁
  simp only [vst₁]
  by_cases e₁ : j₁ = q₁
  · rw [if_pos e₁, if_neg (by omega), if_pos e₁]
  · rw [if_neg e₁, if_neg e₁]
theorem vst_n {p₁ j₁ : Nat} {a₁ : Int32} (h₁ : j₁ ≠ p₁) : vst₁ V₁ p₁ a₁ j₁ = V₁ j₁ := by rw [vst₁, if_neg h₁]
theorem vst_a {p₁ : Nat} {a₁ : Int32} : vst₁ V₁ p₁ a₁ p₁ = a₁ := by rw [vst₁, if_pos rfl]
theorem ovr_mac : ovr₁ U₁ (macV U₁) = U₁ := by
  funext k₁
  simp only [ovr₁, macV]
  by_cases e₁ : 342 ≤ k₁ ∧ k₁ < 425
  · rw [if_pos e₁, show 342 + (k₁ - 342) = k₁ by omega]
  · rw [if_neg e₁]
theorem ovr_vst {i₁ : Nat} {v₁ : Int32} (h₁ : i₁ < 83) : vst₁ (ovr₁ U₁ V₁) (342 + i₁) v₁ = ovr₁ U₁ (vst₁ V₁ i₁ v₁) := by
  funext k₁
  simp only [ovr₁, vst₁]
  by_cases e₁ : k₁ = 342 + i₁
  · rw [if_pos e₁, if_pos (by omega), if_pos (by omega)]
  · rw [if_neg e₁]
    by_cases e2₁ : 342 ≤ k₁ ∧ k₁ < 425
    · rw [if_pos e2₁, if_pos e2₁, if_neg (by omega)]
    · rw [if_neg e2₁, if_neg e2₁]
theorem mac_ovr {k₁ : Nat} (h₁ : k₁ < 83) : macV (ovr₁ U₁ V₁) k₁ = V₁ k₁ := by
  rw [macV, ovr₁, if_pos (by omega), show 342 + k₁ - 342 = k₁ by omega]
theorem ovr_lo {k₁ : Nat} (h₁ : k₁ < 342) : ovr₁ U₁ V₁ k₁ = U₁ k₁ := by rw [ovr₁, if_neg (by omega)]
theorem ovr_hi {k₁ : Nat} (h₁ : 425 ≤ k₁) : ovr₁ U₁ V₁ k₁ = U₁ k₁ := by rw [ovr₁, if_neg (by omega)]
theorem ovr_ag : agU₁ (ovr₁ U₁ V₁) U₁ := fun k₁ h₁ => ovr_lo h₁
theorem mup_vst {I₁ : MI} {p₁ q₁ : Nat} {v₁ : Int32} : mup I₁ p₁ q₁ v₁ p₁ = vst₁ (I₁ p₁) q₁ v₁ := by funext y₁; simp [mup, vst₁]
theorem MACD_cg {I₁ : MI} {c₁ : Nat} (h₁ : MACD I₁ c₁ V₁) (e₁ : ∀ k₁, k₁ < 83 → V'₁ k₁ = V₁ k₁) : MACD I₁ c₁ V'₁ := by
  obtain ⟨d1₁, d2₁, d3₁, ⟨n₁, e2₁, hn₁, hv₁⟩, d5₁, d6₁⟩ := h₁
  exact ⟨by rw [e₁ 0 (by decide)]; exact d1₁, by rw [e₁ 1 (by decide)]; exact d2₁, by rw [e₁ 2 (by decide)]; exact d3₁, ⟨n₁, by rw [e₁ 2 (by decide)]; exact e2₁, hn₁, fun k₁ hk₁ => by rw [e₁ (3 + k₁) (by omega)]; exact hv₁ k₁ hk₁⟩, fun k₁ hk₁ => by rw [e₁ (11 + k₁) (by omega)]; exact d5₁ k₁ hk₁, fun k₁ hk₁ => by rw [e₁ (19 + k₁) (by omega)]; exact d6₁ k₁ hk₁⟩
end UN₁
section UN₁
variable {K₁ N₁ : MK} {I₁ : MI} {L₁ : ML} {R₁ : MR} {c₁ u₁ : Nat} {U₁ V₁ : Nat → Int32} {W₁ : Nat → Int64}
theorem s_tail {J₁ : MI} {Q₁ : Int32 → MI → Prop} (h₁ : MACD J₁ c₁ V₁) (hq₁ : ∀ J'₁, MACD J'₁ c₁ (vst₁ V₁ 1 (V₁ 1 + 1)) → (∀ b₁, b₁ ≠ c₁ → J'₁ b₁ = J₁ b₁) → Q₁ 0 J'₁) : (¬ (0 : Int32) = 0 → Q₁ 0 J₁) ∧ ((0 : Int32) = 0 → ∀ I5₁ : MI, I5₁ = mup J₁ c₁ 5 (J₁ c₁ 5 + 1) → Q₁ 0 I5₁) := by
  refine ⟨fun e₁ => absurd rfl e₁, fun _ I5₁ g₁ => hq₁ I5₁ ?_ (fun b₁ hb₁ => by rw [g₁, mup_ne hb₁])⟩
  obtain ⟨d1₁, d2₁, d3₁, ⟨n₁, e2₁, hn₁, hv₁⟩, d5₁, d6₁⟩ := h₁
  have gb₁ : ∀ b₁, b₁ ≠ c₁ → I5₁ b₁ = J₁ b₁ := fun b₁ hb₁ => by rw [g₁, mup_ne hb₁]
  refine ⟨?_, ?_, ?_, ⟨n₁, by rw [vst_n (by decide)]; exact e2₁, hn₁, fun k₁ hk₁ => ?_⟩, fun k₁ hk₁ => ?_, fun k₁ hk₁ => ?_⟩
  · rw [g₁, mup_k (by decide), d1₁, vst_n (by decide)]
  · rw [g₁, mup_at, d2₁, vst_a]
  · rw [g₁, mup_k (by decide), d3₁, vst_n (by decide)]
  · rw [gb₁ _ (by omega), hv₁ k₁ hk₁, vst_n (by omega)]
  · rw [gb₁ _ (by omega), d5₁ k₁ hk₁, vst_n (by omega)]
  · rw [gb₁ _ (by omega), d6₁ k₁ hk₁, vst_n (by omega)]
theorem s_fail {r₁ : Int32} {c₁ : Nat} {J₁ : MI} {Q₁ : Int32 → MI → Prop} (hr₁ : r₁ ≠ 0) (h₁ : Q₁ r₁ J₁) : (¬ r₁ = 0 → Q₁ r₁ J₁) ∧ (r₁ = 0 → ∀ I5₁ : MI, I5₁ = mup J₁ c₁ 5 (J₁ c₁ 5 + 1) → Q₁ r₁ I5₁) :=
  ⟨fun _ => h₁, fun e₁ => absurd e₁ hr₁⟩
theorem MACD_reg {j₁ : Nat} {v₁ : Int32} (h₁ : MACD I₁ c₁ V₁) (hj₁ : j₁ < 8) : MACD (mup I₁ (c₁ + 1) j₁ v₁) c₁ (vst₁ V₁ (11 + j₁) v₁) := by
  obtain ⟨d1₁, d2₁, d3₁, ⟨n₁, e2₁, hn₁, hv₁⟩, d5₁, d6₁⟩ := h₁
  refine ⟨?_, ?_, ?_, ⟨n₁, by rw [vst_n (by omega)]; exact e2₁, hn₁, fun k₁ hk₁ => ?_⟩, fun k₁ hk₁ => ?_, fun k₁ hk₁ => ?_⟩
  · rw [mup_ne (by omega), d1₁, vst_n (by omega)]
  · rw [mup_ne (by omega), d2₁, vst_n (by omega)]
  · rw [mup_ne (by omega), d3₁, vst_n (by omega)]
  · rw [mup_ne (by omega), hv₁ k₁ hk₁, vst_n (by omega)]
  · by_cases e₁ : k₁ = j₁
    · rw [e₁, mup_at, vst_a]
    · rw [mup_k e₁, d5₁ k₁ hk₁, vst_n (by omega)]
  · rw [mup_ne (by omega), d6₁ k₁ hk₁, vst_n (by omega)]
theorem MACD_mem {j₁ : Nat} {v₁ : Int32} (h₁ : MACD I₁ c₁ V₁) (hj₁ : j₁ < 64) : MACD (mup I₁ (c₁ + 2) j₁ v₁) c₁ (vst₁ V₁ (19 + j₁) v₁) := by
  obtain ⟨d1₁, d2₁, d3₁, ⟨n₁, e2₁, hn₁, hv₁⟩, d5₁, d6₁⟩ := h₁
  refine ⟨?_, ?_, ?_, ⟨n₁, by rw [vst_n (by omega)]; exact e2₁, hn₁, fun k₁ hk₁ => ?_⟩, fun k₁ hk₁ => ?_, fun k₁ hk₁ => ?_⟩
  · rw [mup_ne (by omega), d1₁, vst_n (by omega)]
  · rw [mup_ne (by omega), d2₁, vst_n (by omega)]
  · rw [mup_ne (by omega), d3₁, vst_n (by omega)]
  · rw [mup_ne (by omega), hv₁ k₁ hk₁, vst_n (by omega)]
  · rw [mup_ne (by omega), d5₁ k₁ hk₁, vst_n (by omega)]
  · by_cases e₁ : k₁ = j₁
    · rw [e₁, mup_at, vst_a]
    · rw [mup_k e₁, d6₁ k₁ hk₁, vst_n (by omega)]
theorem lvS_ne {a₁ : Int32} (hU₁ : WFc U₁) (hs₁ : WFs U₁) (h₁ : nicS U₁ a₁ (-1) ≠ -1) : lvS₁ U₁ a₁ ≠ -1 := by
  obtain ⟨j₁, hj₁, e₁⟩ := (nicS_or U₁ a₁ (-1)).resolve_left h₁
  have := hU₁.2.1.2
  have := hU₁.2.2.2.2.2.2
  obtain ⟨f₁, t₁, c₁, -, et₁, -, h1₁, h2₁, -⟩ := hs₁ j₁ hj₁
  rw [lvS₁, if_neg h₁, e₁, ix_nI (by omega), et₁]
  exact m1_ne (by omega)
/-- a deed by the class's machine -/
theorem s_perform {d₁ : Nat} {a₁ b₁ : Int32} {Q₁ : Int32 → MI → Prop} (hC₁ : MAL K₁ N₁ R₁ c₁) (hV₁ : MACD I₁ c₁ V₁) (hL₁ : UL K₁ N₁ R₁ u₁) (hD₁ : UD I₁ L₁ u₁ U₁ W₁) (hU₁ : WFc U₁) (hr₁ : WFr U₁) (hs₁ : WFs U₁) (hd₁ : d₁ < 8) (ha₁ : dar₁ U₁ a₁ d₁)
    (hw₁ : dwS₁ U₁ V₁ a₁ b₁ d₁ ≠ 0 → Q₁ (dwS₁ U₁ V₁ a₁ b₁ d₁) I₁)
    (h0₁ : dwS₁ U₁ V₁ a₁ b₁ d₁ = 0 → ∀ J₁, MACD J₁ c₁ (dlS₁ U₁ V₁ a₁ b₁ d₁) → (∀ b₁, b₁ ≠ c₁ → b₁ ≠ c₁ + 1 → b₁ ≠ c₁ + 2 → b₁ ≠ c₁ + 3 → J₁ b₁ = I₁ b₁) → Q₁ 0 J₁) : w_X3_perform c₁ u₁ (nI (17 + d₁)) a₁ b₁ K₁ N₁ I₁ L₁ R₁ Q₁ := by
  obtain ⟨h00₁, hD1₁, hD2₁, hD3₁, hD4₁, hD5₁⟩ := hD₁
  have hV2₁ := hV₁.2.2.2.1
  have mv₁ : ∀ t₁ : Int32, (t₁ = -1 → Q₁ 1 I₁) → (t₁ ≠ -1 → ∀ J₁, MACD J₁ c₁ (vst₁ (vst₁ V₁ 0 t₁) 1 (V₁ 1 + 1)) → (∀ b₁, b₁ ≠ c₁ → J₁ b₁ = I₁ b₁) → Q₁ 0 J₁) →
      w_X3_moveTo c₁ t₁ K₁ N₁ I₁ L₁ R₁ (fun r₁ J₁ => (¬ r₁ = 0 → Q₁ r₁ J₁) ∧ (r₁ = 0 → ∀ I5₁ : MI, I5₁ = mup J₁ c₁ 5 (J₁ c₁ 5 + 1) → Q₁ r₁ I5₁)) := fun t₁ p1₁ p0₁ =>
    s_moveTo hC₁ hV₁ (fun e₁ => s_fail (by decide) (p1₁ e₁)) (fun e₁ J₁ gJ₁ gb₁ => s_tail gJ₁ (fun J'₁ g'₁ gb'₁ => p0₁ e₁ J'₁ g'₁ (fun b₁ hb₁ => by rw [gb'₁ b₁ hb₁, gb₁ b₁ hb₁])))
  delta w_X3_perform
  obtain rfl | rfl | rfl | rfl | rfl | rfl | rfl | rfl : d₁ = 0 ∨ d₁ = 1 ∨ d₁ = 2 ∨ d₁ = 3 ∨ d₁ = 4 ∨ d₁ = 5 ∨ d₁ = 6 ∨ d₁ = 7 := by omega
  · refine ⟨fun _ => ⟨hC₁.1, _, hC₁.2.1, s_write hC₁.2.2.2.2.1 hC₁.2.2.2.2.2.1 (by decide) (fun e₁ => ?_) (fun j₁ e₁ hj₁ f₁ => ?_) (fun j₁ e₁ hj₁ f₁ => ?_)⟩, fun e₁ => absurd rfl e₁⟩
    · have ha₁ : inN a₁ 8 = true := ha₁
      rw [e₁] at ha₁; exact absurd ha₁ (by decide)
    · subst e₁
      rw [hV₁.2.2.2.2.1 j₁ hj₁] at f₁
      have hw₁ := hw₁
      rw [dwS₁, ix_nI (by omega), if_pos f₁] at hw₁
      exact s_fail (by decide) (hw₁ (by decide))
    · subst e₁
      rw [hV₁.2.2.2.2.1 j₁ hj₁] at f₁
      have h0₁ := h0₁
      rw [dwS₁, dlS₁, chgS, ix_nI (by omega), if_neg f₁] at h0₁
      refine s_tail (MACD_reg hV₁ hj₁) (fun J'₁ g'₁ gb'₁ => h0₁ rfl J'₁ ?_ (fun b₁ q1₁ q2₁ q3₁ q4₁ => ?_))
      · rw [vst_n (by omega)] at g'₁; exact g'₁
      · rw [gb'₁ b₁ q1₁, mup_ne q2₁]
  · refine ⟨fun e₁ => absurd e₁ (by decide), fun _ => ⟨fun _ => ⟨hC₁.1, _, hC₁.2.2.1, s_write hC₁.2.2.2.2.2.2.1 hC₁.2.2.2.2.2.2.2.1 (by decide) (fun e₁ => ?_) (fun j₁ e₁ hj₁ f₁ => ?_) (fun j₁ e₁ hj₁ f₁ => ?_)⟩, fun e₁ => absurd rfl e₁⟩⟩
    · have ha₁ : inN a₁ 64 = true := ha₁
      rw [e₁] at ha₁; exact absurd ha₁ (by decide)
    · subst e₁
      rw [hV₁.2.2.2.2.2 j₁ hj₁] at f₁
      have hw₁ := hw₁
      rw [dwS₁, ix_nI (by omega), if_pos f₁] at hw₁
      exact s_fail (by decide) (hw₁ (by decide))
    · subst e₁
      rw [hV₁.2.2.2.2.2 j₁ hj₁] at f₁
      have h0₁ := h0₁
      rw [dwS₁, dlS₁, chgS, ix_nI (by omega), if_neg f₁] at h0₁
      refine s_tail (MACD_mem hV₁ hj₁) (fun J'₁ g'₁ gb'₁ => h0₁ rfl J'₁ ?_ (fun b₁ q1₁ q2₁ q3₁ q4₁ => ?_))
      · rw [vst_n (by omega)] at g'₁; exact g'₁
      · rw [gb'₁ b₁ q1₁, mup_ne q3₁]
  · refine ⟨fun e₁ => absurd e₁ (by decide), fun _ => ⟨fun e₁ => absurd e₁ (by decide), fun _ => ⟨fun _ => ⟨hC₁.1, fun f₁ => ?_, fun f₁ => ?_⟩, fun e₁ => absurd rfl e₁⟩⟩⟩
    · rw [hV₁.1] at f₁
      have h0₁ := h0₁
      rw [dwS₁, dlS₁, chgS, if_neg (fun e₁ => f₁ e₁.symm)] at h0₁
      refine mv₁ a₁ (fun e₁ => ?_) (fun e₁ J₁ gJ₁ gb₁ => h0₁ rfl J₁ gJ₁ (fun b₁ q1₁ _ _ _ => gb₁ b₁ q1₁))
      have ha₁ : adr U₁ a₁ = true := ha₁
      rw [e₁, adr, isInB_pred hU₁.2.2.2.2.2.1 (by have := hU₁.2.2.2.2.2.2; omega)] at ha₁
      obtain ⟨q₁, hq₁, eq₁⟩ := inN_t ha₁ (by have := hU₁.2.2.2.2.2.2; omega)
      exact absurd eq₁ (m1_ne' (by have := hU₁.2.2.2.2.2.2; omega))
    · rw [hV₁.1] at f₁
      have hw₁ := hw₁
      rw [dwS₁, if_pos f₁.symm] at hw₁
      exact mv₁ (-1) (fun e₁ => hw₁ (by decide)) (fun e₁ => absurd rfl e₁)
  · refine ⟨fun e₁ => absurd e₁ (by decide), fun _ => ⟨fun e₁ => absurd e₁ (by decide), fun _ => ⟨fun e₁ => absurd e₁ (by decide), fun _ => ⟨fun _ => ⟨hC₁.1, s_addStop hC₁ hV₁ (fun e₁ => ?_) (fun e₁ f₁ => ?_) (fun e₁ n₁ f₁ hn₁ J₁ gJ₁ gb₁ => ?_)⟩, fun e₁ => absurd rfl e₁⟩⟩⟩⟩
    · have hw₁ := hw₁
      rw [dwS₁, if_neg e₁] at hw₁
      exact s_fail (by decide) (hw₁ (by decide))
    · have hw₁ := hw₁
      rw [dwS₁, if_pos e₁, if_pos (show V₁ 2 = 8 from f₁)] at hw₁
      exact s_fail (by decide) (hw₁ (by decide))
    · have h0₁ := h0₁
      rw [dwS₁, dlS₁, chgS, if_pos e₁, f₁, ix_nI (by omega), nI_1, if_neg (show ¬ nI n₁ = 8 from fun z₁ => by rw [show (8 : Int32) = nI 8 from rfl, eqN (by omega) (by omega)] at z₁; omega)] at h0₁
      refine s_tail gJ₁ (fun J'₁ g'₁ gb'₁ => h0₁ rfl J'₁ ?_ (fun b₁ q1₁ q2₁ q3₁ q4₁ => ?_))
      · rw [vst_n (by decide), vst_n (by omega)] at g'₁; exact g'₁
      · rw [gb'₁ b₁ q1₁, gb₁ b₁ q1₁ q4₁]
  · refine ⟨fun e₁ => absurd e₁ (by decide), fun _ => ⟨fun e₁ => absurd e₁ (by decide), fun _ => ⟨fun e₁ => absurd e₁ (by decide), fun _ => ⟨fun e₁ => absurd e₁ (by decide), fun _ => ⟨fun _ => ⟨hC₁.1, s_dropStop hC₁ hV₁ (fun e₁ => ?_) (fun j₁ n₁ e₁ f₁ hn₁ hj₁ J₁ gJ₁ gb₁ => ?_)⟩, fun e₁ => absurd rfl e₁⟩⟩⟩⟩⟩
    · have hw₁ := hw₁
      rw [dwS₁, if_pos e₁] at hw₁
      exact s_fail (by decide) (hw₁ (by decide))
    · have h0₁ := h0₁
      rw [dwS₁, dlS₁, chgS, e₁, f₁, nI_pred, ix_nI (by omega), ix_nI (by omega), if_neg (m1_ne (by omega))] at h0₁
      refine s_tail gJ₁ (fun J'₁ g'₁ gb'₁ => h0₁ rfl J'₁ ?_ (fun b₁ q1₁ q2₁ q3₁ q4₁ => ?_))
      · rw [vst_n (by omega), vst_n (by decide)] at g'₁; exact g'₁
      · rw [gb'₁ b₁ q1₁, gb₁ b₁ q1₁ q4₁]
  · refine ⟨fun e₁ => absurd e₁ (by decide), fun _ => ⟨fun e₁ => absurd e₁ (by decide), fun _ => ⟨fun e₁ => absurd e₁ (by decide), fun _ => ⟨fun e₁ => absurd e₁ (by decide), fun _ => ⟨fun e₁ => absurd e₁ (by decide), fun _ => ⟨fun _ => ⟨hC₁.1, hL₁.1, s_stepTo hL₁ hD1₁ hD2₁ hU₁ hr₁ hs₁ ?_⟩, fun e₁ => absurd rfl e₁⟩⟩⟩⟩⟩⟩
    rw [hV₁.1]
    refine mv₁ _ (fun e₁ => ?_) (fun e₁ J₁ gJ₁ gb₁ => ?_)
    · have hw₁ := hw₁
      rw [dwS₁, if_pos e₁] at hw₁
      exact hw₁ (by decide)
    · have h0₁ := h0₁
      rw [dwS₁, dlS₁, chgS, if_neg e₁] at h0₁
      exact h0₁ rfl J₁ gJ₁ (fun b₁ q1₁ _ _ _ => gb₁ b₁ q1₁)
  · refine ⟨fun e₁ => absurd e₁ (by decide), fun _ => ⟨fun e₁ => absurd e₁ (by decide), fun _ => ⟨fun e₁ => absurd e₁ (by decide), fun _ => ⟨fun e₁ => absurd e₁ (by decide), fun _ => ⟨fun e₁ => absurd e₁ (by decide), fun _ => ⟨fun e₁ => absurd e₁ (by decide), fun _ => ⟨fun _ => ⟨hC₁.1, s_leaveScope hC₁ hV₁ hL₁ h00₁ hD2₁ hU₁ hs₁ (fun e₁ => ?_) (fun e₁ f₁ => ?_) (fun e₁ f₁ J₁ gJ₁ gb₁ => ?_)⟩, fun e₁ => absurd rfl e₁⟩⟩⟩⟩⟩⟩⟩
    · have hw₁ := hw₁
      rw [dwS₁, if_pos (by rw [lvS₁, if_pos e₁])] at hw₁
      exact s_fail (by decide) (hw₁ (by decide))
    · have hw₁ := hw₁
      rw [dwS₁, if_neg (lvS_ne hU₁ hs₁ e₁), if_neg (by rw [f₁]; decide)] at hw₁
      exact s_fail (by decide) (hw₁ (by decide))
    · have h0₁ := h0₁
      rw [dwS₁, dlS₁, chgS, if_neg (lvS_ne hU₁ hs₁ e₁), if_pos f₁] at h0₁
      exact s_tail gJ₁ (fun J'₁ g'₁ gb'₁ => h0₁ rfl J'₁ g'₁ (fun b₁ q1₁ q2₁ q3₁ q4₁ => by rw [gb'₁ b₁ q1₁, gb₁ b₁ q1₁]))
  · refine ⟨fun e₁ => absurd e₁ (by decide), fun _ => ⟨fun e₁ => absurd e₁ (by decide), fun _ => ⟨fun e₁ => absurd e₁ (by decide), fun _ => ⟨fun e₁ => absurd e₁ (by decide), fun _ => ⟨fun e₁ => absurd e₁ (by decide), fun _ => ⟨fun e₁ => absurd e₁ (by decide), fun _ => ⟨fun e₁ => absurd e₁ (by decide), fun _ => ⟨hC₁.1, s_stoppingRow hC₁ hV₁ hL₁ hD1₁ hU₁ hr₁ ?_⟩⟩⟩⟩⟩⟩⟩⟩
    refine mv₁ _ (fun e₁ => ?_) (fun e₁ J₁ gJ₁ gb₁ => ?_)
    · have hw₁ : (if runS U₁ V₁ = -1 then (1 : Int32) else 0) ≠ 0 → Q₁ (if runS U₁ V₁ = -1 then (1 : Int32) else 0) I₁ := hw₁
      rw [if_pos e₁] at hw₁
      exact hw₁ (by decide)
    · exact h0₁ (show (if runS U₁ V₁ = -1 then (1 : Int32) else 0) = 0 from by rw [if_neg e₁]) J₁ gJ₁ (fun b₁ q1₁ _ _ _ => gb₁ b₁ q1₁)
end UN₁
