/-! ===== class and reference beside one another: what each holds ===== -/
section CP₁
variable {K₁ N₁ : MK} {I₁ J₁ : MI} {L₁ M₁ : ML} {R₁ : MR} {x₁ m₁ : Nat}
def cShp (K₁ N₁ : MK) (R₁ : MR) (x₁ m₁ : Nat) (p₁ : Nat → Nat) : Prop := PDL K₁ N₁ R₁ x₁ ∧ MDL K₁ N₁ R₁ m₁ ∧ HM₁ K₁ N₁ R₁ x₁ ∧ HIS₁ R₁ x₁ p₁ ∧ 1 ≤ x₁ ∧ x₁ + 168 ≤ m₁
def cTok (I₁ : MI) (x₁ m₁ : Nat) (B₁ : Nat → Nat) (n₁ : Nat) : Prop := (∀ i₁, B₁ i₁ < 256) ∧ n₁ ≤ 940 ∧ I₁ (x₁ + 1) 1 = nI n₁ ∧ I₁ m₁ 2 = nI n₁ ∧ TAP₁ I₁ (x₁ + 2) B₁ n₁ ∧ TAP₁ I₁ (m₁ + 1) B₁ n₁ ∧ I₁ (x₁ + 1) 10 = I₁ m₁ 10
def cUni (I₁ : MI) (L₁ : ML) (x₁ m₁ : Nat) (NM₁ : Nat → List Nat) : Prop := UD I₁ L₁ (x₁ + 3) (I₁ (m₁ + 2)) (eNM₁ NM₁) ∧ WFU₁ (I₁ (m₁ + 2)) ∧ NOK₁ (I₁ (m₁ + 2)) NM₁ ∧ NRF₁ L₁ (m₁ + 8) (I₁ (m₁ + 2)) NM₁
def cMac (I₁ : MI) (x₁ m₁ : Nat) : Prop := MACD I₁ (x₁ + 19) (macV (I₁ (m₁ + 2))) ∧ WFv₁ (I₁ (m₁ + 2)) (macV (I₁ (m₁ + 2)))
def cHis (I₁ : MI) (x₁ m₁ o₁ : Nat) (p₁ : Nat → Nat) : Prop := o₁ ≤ 8 ∧ I₁ x₁ 5 = nI o₁ ∧ I₁ m₁ 24 = nI o₁ ∧ HD₁ I₁ x₁ p₁ o₁ (I₁ (m₁ + 5)) ∧ ∀ k₁, k₁ < o₁ → WFv₁ (I₁ (m₁ + 2)) (fun j₁ => I₁ (m₁ + 5) (83 * k₁ + j₁))
def cCha (I₁ : MI) (x₁ m₁ nc₁ : Nat) : Prop := nc₁ ≤ 10 ∧ TD I₁ (x₁ + 77) 10 2 nc₁ ∧ I₁ m₁ 28 = nI nc₁ ∧ ∀ j₁, j₁ < nc₁ → I₁ (x₁ + 77 + 2) (j₁ * 2 + 0) = I₁ (m₁ + 12) j₁ ∧ I₁ (x₁ + 77 + 2) (j₁ * 2 + 1) = I₁ (m₁ + 13) j₁
def cTag (I₁ : MI) (x₁ m₁ nt₁ : Nat) : Prop := nt₁ ≤ 40 ∧ TD I₁ (x₁ + 80) 40 1 nt₁ ∧ I₁ m₁ 47 = nI nt₁ ∧ ∀ j₁, j₁ < nt₁ → I₁ (x₁ + 82) j₁ = I₁ (m₁ + 22) j₁
def cPak (I₁ : MI) (x₁ m₁ np₁ : Nat) : Prop := np₁ ≤ 181 ∧ TD I₁ (x₁ + 64) 181 1 np₁ ∧ I₁ m₁ 35 = nI np₁ ∧ ∀ j₁, j₁ < np₁ → I₁ (x₁ + 66) j₁ = I₁ (m₁ + 15) j₁
def cUnp (I₁ : MI) (x₁ m₁ nu₁ : Nat) : Prop := nu₁ ≤ 30 ∧ I₁ (x₁ + 70) 0 = nI 2 ∧ TD I₁ (x₁ + 67) 30 2 nu₁ ∧ I₁ m₁ 43 = nI nu₁ ∧ ∀ j₁, j₁ < nu₁ → I₁ (x₁ + 67 + 2) (j₁ * 2 + 0) = I₁ (m₁ + 20) j₁ ∧ I₁ (x₁ + 67 + 2) (j₁ * 2 + 1) = I₁ (m₁ + 21) j₁
def cTol (I₁ : MI) (x₁ m₁ : Nat) : Prop := TD I₁ (x₁ + 83) 1 4 0 ∧ I₁ m₁ 52 = 0 ∨ TD I₁ (x₁ + 83) 1 4 1 ∧ I₁ m₁ 52 ≠ 0 ∧ ∀ j₁, j₁ < 4 → I₁ (x₁ + 85) j₁ = I₁ (m₁ + 24) j₁
def sCpl (T₁ : Nat → Int32) (l₁ : List (Nat × Nat × Nat)) : Prop := (T₁ 425 = 0 ∧ l₁ = []) ∨ (T₁ 425 ≠ 0 ∧ ∃ t₁, T₁ 426 = nI t₁ ∧ t₁ < 40 ∧ trE₁ (fun y₁ => T₁ (427 + y₁)) (t₁ + 1) l₁ t₁)
def cSen (I₁ : MI) (x₁ m₁ : Nat) (l₁ : List (Nat × Nat × Nat)) : Prop := SED₁ I₁ (x₁ + 31) l₁ ∧ sCpl (I₁ (m₁ + 2)) l₁
def NRG₁ (F₁ : Nat → Int64) (U₁ : Nat → Int32) (NM₁ : Nat → List Nat) : Prop := (∀ k₁, k₁ < ix (U₁ 2) → F₁ (0 + k₁) = encB 27 (NM₁ (0 + k₁))) ∧ (∀ k₁, k₁ < ix (U₁ 3) → F₁ (10 + k₁) = encB 27 (NM₁ (10 + k₁))) ∧ ∀ k₁, k₁ < ix (U₁ 4) → F₁ (16 + k₁) = encB 27 (NM₁ (16 + k₁))
def kpT₁ (I₁ : MI) (m₁ j₁ : Nat) (y₁ : Nat) : Int32 := I₁ (m₁ + 4) (667 * j₁ + y₁)
def kpN₁ (L₁ : ML) (m₁ j₁ : Nat) (y₁ : Nat) : Int64 := L₁ (m₁ + 10) (26 * j₁ + y₁)
def kOne (I₁ : MI) (L₁ : ML) (x₁ j₁ : Nat) (T₁ : Nat → Int32) (F₁ : Nat → Int64) : Prop := ∃ (NM₁ : Nat → List Nat) (l₁ : List (Nat × Nat × Nat)), UD I₁ L₁ (kuA₁ x₁ j₁) T₁ (eNM₁ NM₁) ∧ WFU₁ T₁ ∧ NOK₁ T₁ NM₁ ∧ NRG₁ F₁ T₁ NM₁ ∧ MACD I₁ (kmA₁ x₁ j₁) (macV T₁) ∧ WFv₁ T₁ (macV T₁) ∧ SED₁ I₁ (ksA₁ x₁ j₁) l₁ ∧ sCpl T₁ l₁
def cKep (I₁ : MI) (L₁ : ML) (x₁ m₁ : Nat) : Prop := ∀ j₁, j₁ < 2 → UWd₁ I₁ (kuA₁ x₁ j₁) ∧ (I₁ (x₁ + 76) j₁ ≠ 0 ↔ I₁ (m₁ + 11) j₁ ≠ 0) ∧ (I₁ (x₁ + 76) j₁ ≠ 0 → kOne I₁ L₁ x₁ j₁ (kpT₁ I₁ m₁ j₁) (kpN₁ L₁ m₁ j₁))
def cMis (I₁ : MI) (x₁ : Nat) : Prop := UWd₁ I₁ (x₁ + 37) ∧ I₁ (x₁ + 60) 0 = nI 3
def CP₁ (K₁ N₁ : MK) (I₁ : MI) (L₁ : ML) (R₁ : MR) (x₁ m₁ : Nat) (B₁ : Nat → Nat) (n₁ : Nat) (NM₁ : Nat → List Nat) (o₁ : Nat) (p₁ : Nat → Nat) (l₁ : List (Nat × Nat × Nat)) (nc₁ nt₁ np₁ nu₁ : Nat) : Prop := cShp K₁ N₁ R₁ x₁ m₁ p₁ ∧ cTok I₁ x₁ m₁ B₁ n₁ ∧ cUni I₁ L₁ x₁ m₁ NM₁ ∧ cMac I₁ x₁ m₁ ∧ cHis I₁ x₁ m₁ o₁ p₁ ∧ cCha I₁ x₁ m₁ nc₁ ∧ cTag I₁ x₁ m₁ nt₁ ∧ cPak I₁ x₁ m₁ np₁ ∧ cUnp I₁ x₁ m₁ nu₁ ∧ cTol I₁ x₁ m₁ ∧ cSen I₁ x₁ m₁ l₁ ∧ cKep I₁ L₁ x₁ m₁ ∧ cMis I₁ x₁
def CPL₁ (K₁ N₁ : MK) (I₁ : MI) (L₁ : ML) (R₁ : MR) (x₁ m₁ : Nat) : Prop := ∃ B₁ n₁ NM₁ o₁ p₁ l₁ nc₁ nt₁ np₁ nu₁, CP₁ K₁ N₁ I₁ L₁ R₁ x₁ m₁ B₁ n₁ NM₁ o₁ p₁ l₁ nc₁ nt₁ np₁ nu₁
variable {B₁ : Nat → Nat} {NM₁ : Nat → List Nat} {p₁ : Nat → Nat} {l₁ : List (Nat × Nat × Nat)} {n₁ o₁ nc₁ nt₁ np₁ nu₁ : Nat}
theorem cTok_fr (h₁ : cTok I₁ x₁ m₁ B₁ n₁) (a₁ : J₁ (x₁ + 1) 1 = I₁ (x₁ + 1) 1) (b₁ : J₁ (x₁ + 1) 10 = I₁ (x₁ + 1) 10) (c₁ : J₁ m₁ 2 = I₁ m₁ 2) (d₁ : J₁ m₁ 10 = I₁ m₁ 10) (e₁ : J₁ (x₁ + 2) = I₁ (x₁ + 2)) (f₁ : J₁ (m₁ + 1) = I₁ (m₁ + 1)) : cTok J₁ x₁ m₁ B₁ n₁ := by
  rw [cTok, TAP₁, TAP₁, a₁, b₁, c₁, d₁, e₁, f₁]; exact h₁
theorem TD_ag {t₁ k₁ w₁ c₁ : Nat} (h₁ : TD I₁ t₁ k₁ w₁ c₁) (e₁ : J₁ t₁ = I₁ t₁) : TD J₁ t₁ k₁ w₁ c₁ := by
  rw [TD, e₁]; exact h₁
theorem cUni_fr (h₁ : cUni I₁ L₁ x₁ m₁ NM₁) (hb₁ : ∀ b₁, x₁ + 3 ≤ b₁ → b₁ ≤ x₁ + 18 → J₁ b₁ = I₁ b₁) (hl₁ : ∀ b₁, x₁ + 3 ≤ b₁ → b₁ ≤ x₁ + 18 → M₁ b₁ = L₁ b₁) (e₁ : agU₁ (J₁ (m₁ + 2)) (I₁ (m₁ + 2))) (f₁ : M₁ (m₁ + 8) = L₁ (m₁ + 8)) : cUni J₁ M₁ x₁ m₁ NM₁ := by
  obtain ⟨h1₁, h2₁, h3₁, h4₁⟩ := h₁
  exact ⟨UD_ag e₁ h2₁ (h1₁.fr (fun a₁ q1₁ q2₁ => hb₁ a₁ q1₁ (by omega)) (fun a₁ q1₁ q2₁ => hl₁ a₁ q1₁ (by omega))), WFU_ag e₁ h2₁, NOK_cg h3₁ (e₁ 2 (by decide)) (e₁ 3 (by decide)) (e₁ 4 (by decide)), NRF_cg (NRF_fr h4₁ f₁) (e₁ 2 (by decide)) (e₁ 3 (by decide)) (e₁ 4 (by decide))⟩
theorem ag_r {U₁ U'₁ : Nat → Int32} (h₁ : U'₁ = U₁) : agU₁ U'₁ U₁ := fun k₁ _ => by rw [h₁]
theorem cMac_fr (h₁ : cMac I₁ x₁ m₁) (hb₁ : ∀ b₁, x₁ + 19 ≤ b₁ → b₁ ≤ x₁ + 22 → J₁ b₁ = I₁ b₁) (e₁ : J₁ (m₁ + 2) = I₁ (m₁ + 2)) : cMac J₁ x₁ m₁ := by
  rw [cMac, e₁]
  exact ⟨MACD_fr h₁.1 (fun b₁ q₁ => hb₁ b₁ (by omega) (by omega)), h₁.2⟩
theorem cHis_fr (h₁ : cHis I₁ x₁ m₁ o₁ p₁) (hp₁ : ∀ k₁, k₁ < 8 → p₁ k₁ < 8) (a₁ : J₁ x₁ 5 = I₁ x₁ 5) (b₁ : J₁ m₁ 24 = I₁ m₁ 24) (e₁ : J₁ (m₁ + 5) = I₁ (m₁ + 5)) (hb₁ : ∀ b₁, x₁ + 86 ≤ b₁ → b₁ < x₁ + 118 → J₁ b₁ = I₁ b₁) (g₁ : agU₁ (J₁ (m₁ + 2)) (I₁ (m₁ + 2))) : cHis J₁ x₁ m₁ o₁ p₁ := by
  obtain ⟨h1₁, h2₁, h3₁, h4₁, h5₁⟩ := h₁
  refine ⟨h1₁, by rw [a₁]; exact h2₁, by rw [b₁]; exact h3₁, fun k₁ hk₁ => ?_, fun k₁ hk₁ => ?_⟩
  · have := hp₁ k₁ (by omega)
    rw [e₁]
    exact MACD_fr (h4₁ k₁ hk₁) (fun c₁ q₁ => hb₁ c₁ (by omega) (by omega))
  · rw [e₁]; exact WFv_ag g₁ (h5₁ k₁ hk₁)
theorem cCha_fr (h₁ : cCha I₁ x₁ m₁ nc₁) (a₁ : J₁ (x₁ + 77) = I₁ (x₁ + 77)) (b₁ : J₁ (x₁ + 77 + 2) = I₁ (x₁ + 77 + 2)) (c₁ : J₁ m₁ 28 = I₁ m₁ 28) (d₁ : J₁ (m₁ + 12) = I₁ (m₁ + 12)) (e₁ : J₁ (m₁ + 13) = I₁ (m₁ + 13)) : cCha J₁ x₁ m₁ nc₁ := by
  rw [cCha, TD, a₁, b₁, c₁, d₁, e₁]; exact h₁
theorem cTag_fr (h₁ : cTag I₁ x₁ m₁ nt₁) (a₁ : J₁ (x₁ + 80) = I₁ (x₁ + 80)) (b₁ : J₁ (x₁ + 82) = I₁ (x₁ + 82)) (c₁ : J₁ m₁ 47 = I₁ m₁ 47) (d₁ : J₁ (m₁ + 22) = I₁ (m₁ + 22)) : cTag J₁ x₁ m₁ nt₁ := by
  rw [cTag, TD, a₁, b₁, c₁, d₁]; exact h₁
theorem cPak_fr (h₁ : cPak I₁ x₁ m₁ np₁) (a₁ : J₁ (x₁ + 64) = I₁ (x₁ + 64)) (b₁ : J₁ (x₁ + 66) = I₁ (x₁ + 66)) (c₁ : J₁ m₁ 35 = I₁ m₁ 35) (d₁ : J₁ (m₁ + 15) = I₁ (m₁ + 15)) : cPak J₁ x₁ m₁ np₁ := by
  rw [cPak, TD, a₁, b₁, c₁, d₁]; exact h₁
theorem cUnp_fr (h₁ : cUnp I₁ x₁ m₁ nu₁) (z₁ : J₁ (x₁ + 70) 0 = I₁ (x₁ + 70) 0) (a₁ : J₁ (x₁ + 67) = I₁ (x₁ + 67)) (b₁ : J₁ (x₁ + 67 + 2) = I₁ (x₁ + 67 + 2)) (c₁ : J₁ m₁ 43 = I₁ m₁ 43) (d₁ : J₁ (m₁ + 20) = I₁ (m₁ + 20)) (e₁ : J₁ (m₁ + 21) = I₁ (m₁ + 21)) : cUnp J₁ x₁ m₁ nu₁ := by
  rw [cUnp, TD, z₁, a₁, b₁, c₁, d₁, e₁]; exact h₁
theorem cTol_fr (h₁ : cTol I₁ x₁ m₁) (a₁ : J₁ (x₁ + 83) = I₁ (x₁ + 83)) (b₁ : J₁ (x₁ + 85) = I₁ (x₁ + 85)) (c₁ : J₁ m₁ 52 = I₁ m₁ 52) (d₁ : J₁ (m₁ + 24) = I₁ (m₁ + 24)) : cTol J₁ x₁ m₁ := by
  rw [cTol, TD, TD, a₁, b₁, c₁, d₁]; exact h₁
theorem sCpl_fr {T₁ S₁ : Nat → Int32} (h₁ : sCpl T₁ l₁) (e₁ : ∀ y₁, 425 ≤ y₁ → y₁ < 667 → S₁ y₁ = T₁ y₁) : sCpl S₁ l₁ := by
  rw [sCpl, e₁ 425 (by decide) (by decide), e₁ 426 (by decide) (by decide)]
  exact h₁.imp id (fun ⟨h1₁, t₁, h2₁, h3₁, h4₁⟩ => ⟨h1₁, t₁, h2₁, h3₁, trE_fr _ _ _ (fun y₁ hy₁ => e₁ (427 + y₁) (by omega) (by omega)) h4₁⟩)
theorem cSen_fr (h₁ : cSen I₁ x₁ m₁ l₁) (a₁ : J₁ (x₁ + 31) 0 = I₁ (x₁ + 31) 0) (hb₁ : ∀ b₁, x₁ + 32 ≤ b₁ → b₁ ≤ x₁ + 34 → J₁ b₁ = I₁ b₁) (e₁ : ∀ y₁, 425 ≤ y₁ → y₁ < 667 → J₁ (m₁ + 2) y₁ = I₁ (m₁ + 2) y₁) : cSen J₁ x₁ m₁ l₁ := by
  refine ⟨?_, sCpl_fr h₁.2 e₁⟩
  rw [SED₁, a₁, hb₁ (x₁ + 31 + 1) (by omega) (by omega), hb₁ (x₁ + 31 + 2) (by omega) (by omega), hb₁ (x₁ + 31 + 3) (by omega) (by omega)]
  exact h₁.1
theorem sCpl_en {T₁ : Nat → Int32} (h₁ : sCpl T₁ l₁) : (T₁ 425 = 0 ↔ l₁.length = 0) ∧ ∀ e₁ ∈ l₁, enW₁ e₁ := by
  rcases h₁ with ⟨h1₁, rfl⟩ | ⟨h1₁, t₁, -, -, h4₁⟩
  · exact ⟨⟨fun _ => rfl, fun _ => h1₁⟩, fun e₁ he₁ => by cases he₁⟩
  · obtain ⟨z1₁, z2₁⟩ := trE_en _ _ _ h4₁
    exact ⟨⟨fun z₁ => absurd z₁ h1₁, fun z₁ => absurd (List.eq_nil_of_length_eq_zero z₁) z1₁⟩, z2₁⟩
theorem kOne_fr {j₁ : Nat} {T₁ S₁ : Nat → Int32} {F₁ F'₁ : Nat → Int64} (h₁ : kOne I₁ L₁ x₁ j₁ T₁ F₁) (hb₁ : ∀ b₁, kuA₁ x₁ j₁ ≤ b₁ → b₁ ≤ kuA₁ x₁ j₁ + 24 → J₁ b₁ = I₁ b₁) (hl₁ : ∀ b₁, kuA₁ x₁ j₁ ≤ b₁ → b₁ ≤ kuA₁ x₁ j₁ + 24 → M₁ b₁ = L₁ b₁) (e₁ : ∀ y₁, y₁ < 667 → S₁ y₁ = T₁ y₁) (f₁ : ∀ y₁, y₁ < 26 → F'₁ y₁ = F₁ y₁) : kOne J₁ M₁ x₁ j₁ S₁ F'₁ := by
  obtain ⟨NM₁, l₁, h1₁, h2₁, h3₁, h4₁, h5₁, h6₁, h7₁, h8₁⟩ := h₁
  have a2₁ : kmA₁ x₁ j₁ = kuA₁ x₁ j₁ + 16 := by rw [kuA₁, kmA₁]; omega
  have a3₁ : ksA₁ x₁ j₁ = kuA₁ x₁ j₁ + 20 := by rw [kuA₁, ksA₁]; omega
  have g₁ : agU₁ S₁ T₁ := fun k₁ hk₁ => e₁ k₁ (by omega)
  have n2₁ := h2₁.1.2.1.2
  have n3₁ := h2₁.1.2.2.1.2
  have n4₁ := h2₁.1.2.2.2.1.2
  have mv₁ : ∀ k₁, k₁ < 83 → macV S₁ k₁ = macV T₁ k₁ := fun k₁ hk₁ => e₁ (342 + k₁) (by omega)
  refine ⟨NM₁, l₁, UD_ag g₁ h2₁ (h1₁.fr (fun a₁ q1₁ q2₁ => hb₁ a₁ q1₁ (by omega)) (fun a₁ q1₁ q2₁ => hl₁ a₁ q1₁ (by omega))), WFU_ag g₁ h2₁, NOK_cg h3₁ (g₁ 2 (by decide)) (g₁ 3 (by decide)) (g₁ 4 (by decide)), ⟨fun k₁ hk₁ => ?_, fun k₁ hk₁ => ?_, fun k₁ hk₁ => ?_⟩, MACD_cg (MACD_fr h5₁ (fun b₁ q₁ => hb₁ b₁ (by omega) (by omega))) mv₁, ?_, SED_fr h7₁ (fun b₁ q1₁ q2₁ => hb₁ b₁ (by omega) (by omega)), sCpl_fr h8₁ (fun y₁ _ q2₁ => e₁ y₁ q2₁)⟩
  · rw [g₁ 2 (by decide)] at hk₁
    rw [f₁ _ (by omega)]; exact h4₁.1 k₁ hk₁
  · rw [g₁ 3 (by decide)] at hk₁
    rw [f₁ _ (by omega)]; exact h4₁.2.1 k₁ hk₁
  · rw [g₁ 4 (by decide)] at hk₁
    rw [f₁ _ (by omega)]; exact h4₁.2.2 k₁ hk₁
  · obtain ⟨⟨q₁, q1₁, q2₁⟩, ⟨w1₁, w2₁⟩, w3₁⟩ := h6₁
    refine ⟨⟨q₁, q1₁, by rw [mv₁ 2 (by decide)]; exact q2₁⟩, ⟨fun j₁ hj₁ => by rw [mv₁ _ (by omega)]; exact w1₁ j₁ hj₁, fun j₁ hj₁ => by rw [mv₁ _ (by omega)]; exact w2₁ j₁ hj₁⟩, by rw [adr_cg g₁, mv₁ 0 (by decide)]; exact w3₁⟩
theorem UWd_fr {u₁ : Nat} (h₁ : UWd₁ I₁ u₁) (hb₁ : ∀ b₁, u₁ ≤ b₁ → b₁ ≤ u₁ + 15 → J₁ b₁ = I₁ b₁) : UWd₁ J₁ u₁ := by
  rw [UWd₁, hb₁ _ (by omega) (by omega), hb₁ _ (by omega) (by omega), hb₁ _ (by omega) (by omega), hb₁ _ (by omega) (by omega), hb₁ _ (by omega) (by omega)]; exact h₁
theorem kOne_fr2 {j₁ : Nat} (h₁ : cKep I₁ L₁ x₁ m₁) (hj₁ : j₁ < 2) (hb₁ : ∀ b₁, kuA₁ x₁ j₁ ≤ b₁ → b₁ ≤ kuA₁ x₁ j₁ + 24 → J₁ b₁ = I₁ b₁) (hl₁ : ∀ b₁, kuA₁ x₁ j₁ ≤ b₁ → b₁ ≤ kuA₁ x₁ j₁ + 24 → M₁ b₁ = L₁ b₁) (a₁ : J₁ (x₁ + 76) j₁ = I₁ (x₁ + 76) j₁) (c₁ : J₁ (m₁ + 11) j₁ = I₁ (m₁ + 11) j₁) (e₁ : ∀ y₁, y₁ < 667 → J₁ (m₁ + 4) (667 * j₁ + y₁) = I₁ (m₁ + 4) (667 * j₁ + y₁)) (f₁ : ∀ y₁, y₁ < 26 → M₁ (m₁ + 10) (26 * j₁ + y₁) = L₁ (m₁ + 10) (26 * j₁ + y₁)) :
    UWd₁ J₁ (kuA₁ x₁ j₁) ∧ (J₁ (x₁ + 76) j₁ ≠ 0 ↔ J₁ (m₁ + 11) j₁ ≠ 0) ∧ (J₁ (x₁ + 76) j₁ ≠ 0 → kOne J₁ M₁ x₁ j₁ (kpT₁ J₁ m₁ j₁) (kpN₁ M₁ m₁ j₁)) := by
  obtain ⟨h1₁, h2₁, h3₁⟩ := h₁ j₁ hj₁
  exact ⟨UWd_fr h1₁ (fun b₁ q1₁ q2₁ => hb₁ b₁ q1₁ (by omega)), by rw [a₁, c₁]; exact h2₁, fun q₁ => kOne_fr (h3₁ (by rw [← a₁]; exact q₁)) hb₁ hl₁ e₁ f₁⟩
theorem cKep_fr (h₁ : cKep I₁ L₁ x₁ m₁) (hb₁ : ∀ b₁, x₁ + 118 ≤ b₁ → b₁ < x₁ + 168 → J₁ b₁ = I₁ b₁) (hl₁ : ∀ b₁, x₁ + 118 ≤ b₁ → b₁ < x₁ + 168 → M₁ b₁ = L₁ b₁) (a₁ : J₁ (x₁ + 76) = I₁ (x₁ + 76)) (c₁ : J₁ (m₁ + 11) = I₁ (m₁ + 11)) (e₁ : J₁ (m₁ + 4) = I₁ (m₁ + 4)) (f₁ : M₁ (m₁ + 10) = L₁ (m₁ + 10)) : cKep J₁ M₁ x₁ m₁ := fun j₁ hj₁ => by
  have a1₁ : x₁ + 118 ≤ kuA₁ x₁ j₁ := by rw [kuA₁]; omega
  have a2₁ : kuA₁ x₁ j₁ + 24 < x₁ + 168 := by rw [kuA₁]; omega
  exact kOne_fr2 h₁ hj₁ (fun b₁ q1₁ q2₁ => hb₁ b₁ (by omega) (by omega)) (fun b₁ q1₁ q2₁ => hl₁ b₁ (by omega) (by omega)) (by rw [a₁]) (by rw [c₁]) (fun y₁ _ => by rw [e₁]) (fun y₁ _ => by rw [f₁])
theorem cMis_fr (h₁ : cMis I₁ x₁) (hb₁ : ∀ b₁, x₁ + 37 ≤ b₁ → b₁ ≤ x₁ + 52 → J₁ b₁ = I₁ b₁) (a₁ : J₁ (x₁ + 60) 0 = I₁ (x₁ + 60) 0) : cMis J₁ x₁ := ⟨UWd_fr h₁.1 (fun b₁ q1₁ q2₁ => hb₁ b₁ q1₁ (by omega)), by rw [a₁]; exact h₁.2⟩
/-- the cells of which nothing is asked -/
def qtC₁ (x₁ m₁ b₁ : Nat) : Prop := b₁ = m₁ ∨ b₁ = m₁ + 3 ∨ b₁ = m₁ + 6 ∨ b₁ = m₁ + 7 ∨ b₁ = m₁ + 14 ∨ (m₁ + 16 ≤ b₁ ∧ b₁ ≤ m₁ + 19) ∨ b₁ = m₁ + 23 ∨ b₁ = m₁ + 25 ∨ (x₁ + 23 ≤ b₁ ∧ b₁ ≤ x₁ + 26) ∨ (x₁ + 28 ≤ b₁ ∧ b₁ ≤ x₁ + 31) ∨ b₁ = x₁ + 35 ∨ b₁ = x₁ + 36 ∨ (x₁ + 53 ≤ b₁ ∧ b₁ ≤ x₁ + 59)
/-- where little has changed, all is as it was -/
theorem CPL_q (h₁ : CPL₁ K₁ N₁ I₁ L₁ R₁ x₁ m₁) (hb₁ : ∀ b₁, ¬ qtC₁ x₁ m₁ b₁ → J₁ b₁ = I₁ b₁) (h31₁ : J₁ (x₁ + 31) 0 = I₁ (x₁ + 31) 0) (hm₁ : ∀ y₁, y₁ = 2 ∨ y₁ = 10 ∨ y₁ = 24 ∨ y₁ = 28 ∨ y₁ = 35 ∨ y₁ = 43 ∨ y₁ = 47 ∨ y₁ = 52 → J₁ m₁ y₁ = I₁ m₁ y₁) : CPL₁ K₁ N₁ J₁ L₁ R₁ x₁ m₁ := by
  obtain ⟨B₁, n₁, NM₁, o₁, p₁, l₁, nc₁, nt₁, np₁, nu₁, h1₁, h2₁, h3₁, h4₁, h5₁, h6₁, h7₁, h8₁, h9₁, h10₁, h11₁, h12₁, h13₁⟩ := h₁
  have hx₁ := h1₁.2.2.2.2.2
  have g₁ : ∀ b₁, ¬ qtC₁ x₁ m₁ b₁ → J₁ b₁ = I₁ b₁ := hb₁
  have hp₁ := h1₁.2.2.2.1.1
  refine ⟨B₁, n₁, NM₁, o₁, p₁, l₁, nc₁, nt₁, np₁, nu₁, h1₁, ?_, ?_, ?_, ?_, ?_, ?_, ?_, ?_, ?_, ?_, ?_, ?_⟩
  · exact cTok_fr h2₁ (by rw [g₁ _ (by unfold qtC₁; omega)]) (by rw [g₁ _ (by unfold qtC₁; omega)]) (hm₁ _ (by decide)) (hm₁ _ (by decide)) (g₁ _ (by unfold qtC₁; omega)) (g₁ _ (by unfold qtC₁; omega))
  · exact cUni_fr h3₁ (fun b₁ q1₁ q2₁ => g₁ b₁ (by unfold qtC₁; omega)) (fun _ _ _ => rfl) (ag_r (g₁ _ (by unfold qtC₁; omega))) rfl
  · exact cMac_fr h4₁ (fun b₁ q1₁ q2₁ => g₁ b₁ (by unfold qtC₁; omega)) (g₁ _ (by unfold qtC₁; omega))
  · exact cHis_fr h5₁ (fun k₁ hk₁ => (hp₁ k₁ hk₁).1) (by rw [g₁ _ (by unfold qtC₁; omega)]) (hm₁ _ (by decide)) (g₁ _ (by unfold qtC₁; omega)) (fun b₁ q1₁ q2₁ => g₁ b₁ (by unfold qtC₁; omega)) (ag_r (g₁ _ (by unfold qtC₁; omega)))
  · exact cCha_fr h6₁ (g₁ _ (by unfold qtC₁; omega)) (g₁ _ (by unfold qtC₁; omega)) (hm₁ _ (by decide)) (g₁ _ (by unfold qtC₁; omega)) (g₁ _ (by unfold qtC₁; omega))
  · exact cTag_fr h7₁ (g₁ _ (by unfold qtC₁; omega)) (g₁ _ (by unfold qtC₁; omega)) (hm₁ _ (by decide)) (g₁ _ (by unfold qtC₁; omega))
  · exact cPak_fr h8₁ (g₁ _ (by unfold qtC₁; omega)) (g₁ _ (by unfold qtC₁; omega)) (hm₁ _ (by decide)) (g₁ _ (by unfold qtC₁; omega))
  · exact cUnp_fr h9₁ (by rw [g₁ _ (by unfold qtC₁; omega)]) (g₁ _ (by unfold qtC₁; omega)) (g₁ _ (by unfold qtC₁; omega)) (hm₁ _ (by decide)) (g₁ _ (by unfold qtC₁; omega)) (g₁ _ (by unfold qtC₁; omega))
  · exact cTol_fr h10₁ (g₁ _ (by unfold qtC₁; omega)) (g₁ _ (by unfold qtC₁; omega)) (hm₁ _ (by decide)) (g₁ _ (by unfold qtC₁; omega))
  · exact cSen_fr h11₁ h31₁ (fun b₁ q1₁ q2₁ => g₁ b₁ (by unfold qtC₁; omega)) (fun y₁ _ _ => by rw [g₁ _ (by unfold qtC₁; omega)])
  · exact cKep_fr h12₁ (fun b₁ q1₁ q2₁ => g₁ b₁ (by unfold qtC₁; omega)) (fun _ _ _ => rfl) (g₁ _ (by unfold qtC₁; omega)) (g₁ _ (by unfold qtC₁; omega)) (g₁ _ (by unfold qtC₁; omega)) rfl
  · exact cMis_fr h13₁ (fun b₁ q1₁ q2₁ => g₁ b₁ (by unfold qtC₁; omega)) (by rw [g₁ _ (by unfold qtC₁; omega)])
end CP₁
