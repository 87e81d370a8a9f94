theorem new_PDL {x₁ : Nat} {K₁ N₁ : MK} {R₁ : MR} (hk₁ : ∀ j₁ {v₁ : Nat}, j₁ < 168 → lkN₁ (hL_k 2) j₁ = v₁ → K₁ (x₁ + j₁) = v₁) (hr₁ : ∀ j₁ i₁ {v₁ : Nat}, j₁ < 168 → lkR₁ (hL_r 2) j₁ i₁ = some v₁ → R₁ (x₁ + j₁) i₁ = some (x₁ + v₁)) (hn₁ : ∀ j₁ {v₁ : Nat}, j₁ < 168 → (j₁, v₁) ∈ hL_n 2 → N₁ (x₁ + j₁) = v₁) : PDL K₁ N₁ R₁ x₁ :=
  ⟨hk₁ 0 (by decide) (by decide +kernel),
   hr₁ 0 0 (v₁ := 1) (by decide) (by decide +kernel),
   hr₁ 0 1 (v₁ := 3) (by decide) (by decide +kernel),
   hr₁ 0 2 (v₁ := 19) (by decide) (by decide +kernel),
   hr₁ 0 3 (v₁ := 23) (by decide) (by decide +kernel),
   hr₁ 0 4 (v₁ := 27) (by decide) (by decide +kernel),
   hr₁ 0 6 (v₁ := 28) (by decide) (by decide +kernel),
   hr₁ 0 7 (v₁ := 30) (by decide) (by decide +kernel),
   hr₁ 0 8 (v₁ := 31) (by decide) (by decide +kernel),
   hr₁ 0 9 (v₁ := 36) (by decide) (by decide +kernel),
   hr₁ 0 10 (v₁ := 53) (by decide) (by decide +kernel),
   hr₁ 0 11 (v₁ := 59) (by decide) (by decide +kernel),
   hr₁ 0 12 (v₁ := 63) (by decide) (by decide +kernel),
   hr₁ 0 13 (v₁ := 73) (by decide) (by decide +kernel),
   hr₁ 0 14 (v₁ := 74) (by decide) (by decide +kernel),
   hr₁ 0 15 (v₁ := 75) (by decide) (by decide +kernel),
   hr₁ 0 16 (v₁ := 76) (by decide) (by decide +kernel),
   hr₁ 0 17 (v₁ := 77) (by decide) (by decide +kernel),
   hr₁ 0 18 (v₁ := 80) (by decide) (by decide +kernel),
   hr₁ 0 19 (v₁ := 83) (by decide) (by decide +kernel),
   hk₁ 1 (by decide) (by decide +kernel),
   hr₁ 1 0 (v₁ := 2) (by decide) (by decide +kernel),
   hk₁ 2 (by decide) (by decide +kernel),
   hn₁ 2 (by decide) (by decide +kernel),
   ⟨hk₁ 3 (by decide) (by decide +kernel), hr₁ 3 1 (v₁ := 4) (by decide) (by decide +kernel), hr₁ 3 2 (v₁ := 7) (by decide) (by decide +kernel), hr₁ 3 3 (v₁ := 10) (by decide) (by decide +kernel), hr₁ 3 4 (v₁ := 13) (by decide) (by decide +kernel), hr₁ 3 5 (v₁ := 16) (by decide) (by decide +kernel), ⟨hk₁ 4 (by decide) (by decide +kernel), hr₁ 4 1 (v₁ := 5) (by decide) (by decide +kernel), hr₁ 4 2 (v₁ := 6) (by decide) (by decide +kernel), hk₁ 5 (by decide) (by decide +kernel), hk₁ 6 (by decide) (by decide +kernel), hn₁ 5 (by decide) (by decide +kernel), hn₁ 6 (by decide) (by decide +kernel), by decide, by decide, by decide⟩, ⟨hk₁ 7 (by decide) (by decide +kernel), hr₁ 7 1 (v₁ := 8) (by decide) (by decide +kernel), hr₁ 7 2 (v₁ := 9) (by decide) (by decide +kernel), hk₁ 8 (by decide) (by decide +kernel), hk₁ 9 (by decide) (by decide +kernel), hn₁ 8 (by decide) (by decide +kernel), hn₁ 9 (by decide) (by decide +kernel), by decide, by decide, by decide⟩, ⟨hk₁ 10 (by decide) (by decide +kernel), hr₁ 10 1 (v₁ := 11) (by decide) (by decide +kernel), hr₁ 10 2 (v₁ := 12) (by decide) (by decide +kernel), hk₁ 11 (by decide) (by decide +kernel), hk₁ 12 (by decide) (by decide +kernel), hn₁ 11 (by decide) (by decide +kernel), hn₁ 12 (by decide) (by decide +kernel), by decide, by decide, by decide⟩, ⟨hk₁ 13 (by decide) (by decide +kernel), hr₁ 13 1 (v₁ := 14) (by decide) (by decide +kernel), hr₁ 13 2 (v₁ := 15) (by decide) (by decide +kernel), hk₁ 14 (by decide) (by decide +kernel), hk₁ 15 (by decide) (by decide +kernel), hn₁ 14 (by decide) (by decide +kernel), hn₁ 15 (by decide) (by decide +kernel), by decide, by decide, by decide⟩, ⟨hk₁ 16 (by decide) (by decide +kernel), hr₁ 16 1 (v₁ := 17) (by decide) (by decide +kernel), hr₁ 16 2 (v₁ := 18) (by decide) (by decide +kernel), hk₁ 17 (by decide) (by decide +kernel), hk₁ 18 (by decide) (by decide +kernel), hn₁ 17 (by decide) (by decide +kernel), hn₁ 18 (by decide) (by decide +kernel), by decide, by decide, by decide⟩⟩,
   ⟨hk₁ 19 (by decide) (by decide +kernel), hr₁ 19 0 (v₁ := 20) (by decide) (by decide +kernel), hr₁ 19 1 (v₁ := 21) (by decide) (by decide +kernel), hr₁ 19 2 (v₁ := 22) (by decide) (by decide +kernel), hk₁ 20 (by decide) (by decide +kernel), hn₁ 20 (by decide) (by decide +kernel), hk₁ 21 (by decide) (by decide +kernel), hn₁ 21 (by decide) (by decide +kernel), hk₁ 22 (by decide) (by decide +kernel), hn₁ 22 (by decide) (by decide +kernel)⟩,
   ⟨hk₁ 23 (by decide) (by decide +kernel), hr₁ 23 0 (v₁ := 24) (by decide) (by decide +kernel), hr₁ 23 1 (v₁ := 25) (by decide) (by decide +kernel), hr₁ 23 2 (v₁ := 26) (by decide) (by decide +kernel), hk₁ 24 (by decide) (by decide +kernel), hn₁ 24 (by decide) (by decide +kernel), hk₁ 25 (by decide) (by decide +kernel), hn₁ 25 (by decide) (by decide +kernel), hk₁ 26 (by decide) (by decide +kernel), hn₁ 26 (by decide) (by decide +kernel)⟩,
   hk₁ 27 (by decide) (by decide +kernel),
   hn₁ 27 (by decide) (by decide +kernel),
   hk₁ 28 (by decide) (by decide +kernel),
   hr₁ 28 0 (v₁ := 29) (by decide) (by decide +kernel),
   hk₁ 29 (by decide) (by decide +kernel),
   hn₁ 29 (by decide) (by decide +kernel),
   hk₁ 30 (by decide) (by decide +kernel),
   ⟨hk₁ 31 (by decide) (by decide +kernel), hr₁ 31 1 (v₁ := 32) (by decide) (by decide +kernel), hr₁ 31 2 (v₁ := 33) (by decide) (by decide +kernel), hr₁ 31 3 (v₁ := 34) (by decide) (by decide +kernel), hr₁ 31 4 (v₁ := 35) (by decide) (by decide +kernel), hk₁ 32 (by decide) (by decide +kernel), hn₁ 32 (by decide) (by decide +kernel), hk₁ 33 (by decide) (by decide +kernel), hn₁ 33 (by decide) (by decide +kernel), hk₁ 34 (by decide) (by decide +kernel), hn₁ 34 (by decide) (by decide +kernel), hk₁ 35 (by decide) (by decide +kernel), hn₁ 35 (by decide) (by decide +kernel)⟩,
   hk₁ 36 (by decide) (by decide +kernel),
   hr₁ 36 0 (v₁ := 37) (by decide) (by decide +kernel),
   ⟨hk₁ 37 (by decide) (by decide +kernel), hr₁ 37 1 (v₁ := 38) (by decide) (by decide +kernel), hr₁ 37 2 (v₁ := 41) (by decide) (by decide +kernel), hr₁ 37 3 (v₁ := 44) (by decide) (by decide +kernel), hr₁ 37 4 (v₁ := 47) (by decide) (by decide +kernel), hr₁ 37 5 (v₁ := 50) (by decide) (by decide +kernel), ⟨hk₁ 38 (by decide) (by decide +kernel), hr₁ 38 1 (v₁ := 39) (by decide) (by decide +kernel), hr₁ 38 2 (v₁ := 40) (by decide) (by decide +kernel), hk₁ 39 (by decide) (by decide +kernel), hk₁ 40 (by decide) (by decide +kernel), hn₁ 39 (by decide) (by decide +kernel), hn₁ 40 (by decide) (by decide +kernel), by decide, by decide, by decide⟩, ⟨hk₁ 41 (by decide) (by decide +kernel), hr₁ 41 1 (v₁ := 42) (by decide) (by decide +kernel), hr₁ 41 2 (v₁ := 43) (by decide) (by decide +kernel), hk₁ 42 (by decide) (by decide +kernel), hk₁ 43 (by decide) (by decide +kernel), hn₁ 42 (by decide) (by decide +kernel), hn₁ 43 (by decide) (by decide +kernel), by decide, by decide, by decide⟩, ⟨hk₁ 44 (by decide) (by decide +kernel), hr₁ 44 1 (v₁ := 45) (by decide) (by decide +kernel), hr₁ 44 2 (v₁ := 46) (by decide) (by decide +kernel), hk₁ 45 (by decide) (by decide +kernel), hk₁ 46 (by decide) (by decide +kernel), hn₁ 45 (by decide) (by decide +kernel), hn₁ 46 (by decide) (by decide +kernel), by decide, by decide, by decide⟩, ⟨hk₁ 47 (by decide) (by decide +kernel), hr₁ 47 1 (v₁ := 48) (by decide) (by decide +kernel), hr₁ 47 2 (v₁ := 49) (by decide) (by decide +kernel), hk₁ 48 (by decide) (by decide +kernel), hk₁ 49 (by decide) (by decide +kernel), hn₁ 48 (by decide) (by decide +kernel), hn₁ 49 (by decide) (by decide +kernel), by decide, by decide, by decide⟩, ⟨hk₁ 50 (by decide) (by decide +kernel), hr₁ 50 1 (v₁ := 51) (by decide) (by decide +kernel), hr₁ 50 2 (v₁ := 52) (by decide) (by decide +kernel), hk₁ 51 (by decide) (by decide +kernel), hk₁ 52 (by decide) (by decide +kernel), hn₁ 51 (by decide) (by decide +kernel), hn₁ 52 (by decide) (by decide +kernel), by decide, by decide, by decide⟩⟩,
   hk₁ 53 (by decide) (by decide +kernel),
   hr₁ 53 0 (v₁ := 54) (by decide) (by decide +kernel),
   ⟨hk₁ 54 (by decide) (by decide +kernel), hr₁ 54 1 (v₁ := 55) (by decide) (by decide +kernel), hr₁ 54 2 (v₁ := 56) (by decide) (by decide +kernel), hr₁ 54 3 (v₁ := 57) (by decide) (by decide +kernel), hr₁ 54 4 (v₁ := 58) (by decide) (by decide +kernel), hk₁ 55 (by decide) (by decide +kernel), hn₁ 55 (by decide) (by decide +kernel), hk₁ 56 (by decide) (by decide +kernel), hn₁ 56 (by decide) (by decide +kernel), hk₁ 57 (by decide) (by decide +kernel), hn₁ 57 (by decide) (by decide +kernel), hk₁ 58 (by decide) (by decide +kernel), hn₁ 58 (by decide) (by decide +kernel)⟩,
   hk₁ 59 (by decide) (by decide +kernel),
   hr₁ 59 0 (v₁ := 60) (by decide) (by decide +kernel),
   ⟨hk₁ 60 (by decide) (by decide +kernel), hr₁ 60 1 (v₁ := 61) (by decide) (by decide +kernel), hr₁ 60 2 (v₁ := 62) (by decide) (by decide +kernel), hk₁ 61 (by decide) (by decide +kernel), hk₁ 62 (by decide) (by decide +kernel), hn₁ 61 (by decide) (by decide +kernel), hn₁ 62 (by decide) (by decide +kernel), by decide, by decide, by decide⟩,
   hk₁ 63 (by decide) (by decide +kernel),
   hr₁ 63 0 (v₁ := 64) (by decide) (by decide +kernel),
   hr₁ 63 1 (v₁ := 67) (by decide) (by decide +kernel),
   hr₁ 63 2 (v₁ := 70) (by decide) (by decide +kernel),
   ⟨hk₁ 64 (by decide) (by decide +kernel), hr₁ 64 1 (v₁ := 65) (by decide) (by decide +kernel), hr₁ 64 2 (v₁ := 66) (by decide) (by decide +kernel), hk₁ 65 (by decide) (by decide +kernel), hk₁ 66 (by decide) (by decide +kernel), hn₁ 65 (by decide) (by decide +kernel), hn₁ 66 (by decide) (by decide +kernel), by decide, by decide, by decide⟩,
   ⟨hk₁ 67 (by decide) (by decide +kernel), hr₁ 67 1 (v₁ := 68) (by decide) (by decide +kernel), hr₁ 67 2 (v₁ := 69) (by decide) (by decide +kernel), hk₁ 68 (by decide) (by decide +kernel), hk₁ 69 (by decide) (by decide +kernel), hn₁ 68 (by decide) (by decide +kernel), hn₁ 69 (by decide) (by decide +kernel), by decide, by decide, by decide⟩,
   ⟨hk₁ 70 (by decide) (by decide +kernel), hr₁ 70 1 (v₁ := 71) (by decide) (by decide +kernel), hr₁ 70 2 (v₁ := 72) (by decide) (by decide +kernel), hk₁ 71 (by decide) (by decide +kernel), hk₁ 72 (by decide) (by decide +kernel), hn₁ 71 (by decide) (by decide +kernel), hn₁ 72 (by decide) (by decide +kernel), by decide, by decide, by decide⟩,
   hk₁ 73 (by decide) (by decide +kernel),
   hn₁ 73 (by decide) (by decide +kernel),
   hr₁ 73 0 (v₁ := 118) (by decide) (by decide +kernel),
   hr₁ 73 1 (v₁ := 143) (by decide) (by decide +kernel),
   hk₁ 74 (by decide) (by decide +kernel),
   hn₁ 74 (by decide) (by decide +kernel),
   hr₁ 74 0 (v₁ := 134) (by decide) (by decide +kernel),
   hr₁ 74 1 (v₁ := 159) (by decide) (by decide +kernel),
   hk₁ 75 (by decide) (by decide +kernel),
   hn₁ 75 (by decide) (by decide +kernel),
   hr₁ 75 0 (v₁ := 138) (by decide) (by decide +kernel),
   hr₁ 75 1 (v₁ := 163) (by decide) (by decide +kernel),
   hk₁ 76 (by decide) (by decide +kernel),
   hn₁ 76 (by decide) (by decide +kernel),
   ⟨hk₁ 118 (by decide) (by decide +kernel), hr₁ 118 1 (v₁ := 119) (by decide) (by decide +kernel), hr₁ 118 2 (v₁ := 122) (by decide) (by decide +kernel), hr₁ 118 3 (v₁ := 125) (by decide) (by decide +kernel), hr₁ 118 4 (v₁ := 128) (by decide) (by decide +kernel), hr₁ 118 5 (v₁ := 131) (by decide) (by decide +kernel), ⟨hk₁ 119 (by decide) (by decide +kernel), hr₁ 119 1 (v₁ := 120) (by decide) (by decide +kernel), hr₁ 119 2 (v₁ := 121) (by decide) (by decide +kernel), hk₁ 120 (by decide) (by decide +kernel), hk₁ 121 (by decide) (by decide +kernel), hn₁ 120 (by decide) (by decide +kernel), hn₁ 121 (by decide) (by decide +kernel), by decide, by decide, by decide⟩, ⟨hk₁ 122 (by decide) (by decide +kernel), hr₁ 122 1 (v₁ := 123) (by decide) (by decide +kernel), hr₁ 122 2 (v₁ := 124) (by decide) (by decide +kernel), hk₁ 123 (by decide) (by decide +kernel), hk₁ 124 (by decide) (by decide +kernel), hn₁ 123 (by decide) (by decide +kernel), hn₁ 124 (by decide) (by decide +kernel), by decide, by decide, by decide⟩, ⟨hk₁ 125 (by decide) (by decide +kernel), hr₁ 125 1 (v₁ := 126) (by decide) (by decide +kernel), hr₁ 125 2 (v₁ := 127) (by decide) (by decide +kernel), hk₁ 126 (by decide) (by decide +kernel), hk₁ 127 (by decide) (by decide +kernel), hn₁ 126 (by decide) (by decide +kernel), hn₁ 127 (by decide) (by decide +kernel), by decide, by decide, by decide⟩, ⟨hk₁ 128 (by decide) (by decide +kernel), hr₁ 128 1 (v₁ := 129) (by decide) (by decide +kernel), hr₁ 128 2 (v₁ := 130) (by decide) (by decide +kernel), hk₁ 129 (by decide) (by decide +kernel), hk₁ 130 (by decide) (by decide +kernel), hn₁ 129 (by decide) (by decide +kernel), hn₁ 130 (by decide) (by decide +kernel), by decide, by decide, by decide⟩, ⟨hk₁ 131 (by decide) (by decide +kernel), hr₁ 131 1 (v₁ := 132) (by decide) (by decide +kernel), hr₁ 131 2 (v₁ := 133) (by decide) (by decide +kernel), hk₁ 132 (by decide) (by decide +kernel), hk₁ 133 (by decide) (by decide +kernel), hn₁ 132 (by decide) (by decide +kernel), hn₁ 133 (by decide) (by decide +kernel), by decide, by decide, by decide⟩⟩,
   ⟨hk₁ 134 (by decide) (by decide +kernel), hr₁ 134 0 (v₁ := 135) (by decide) (by decide +kernel), hr₁ 134 1 (v₁ := 136) (by decide) (by decide +kernel), hr₁ 134 2 (v₁ := 137) (by decide) (by decide +kernel), hk₁ 135 (by decide) (by decide +kernel), hn₁ 135 (by decide) (by decide +kernel), hk₁ 136 (by decide) (by decide +kernel), hn₁ 136 (by decide) (by decide +kernel), hk₁ 137 (by decide) (by decide +kernel), hn₁ 137 (by decide) (by decide +kernel)⟩,
   ⟨hk₁ 138 (by decide) (by decide +kernel), hr₁ 138 1 (v₁ := 139) (by decide) (by decide +kernel), hr₁ 138 2 (v₁ := 140) (by decide) (by decide +kernel), hr₁ 138 3 (v₁ := 141) (by decide) (by decide +kernel), hr₁ 138 4 (v₁ := 142) (by decide) (by decide +kernel), hk₁ 139 (by decide) (by decide +kernel), hn₁ 139 (by decide) (by decide +kernel), hk₁ 140 (by decide) (by decide +kernel), hn₁ 140 (by decide) (by decide +kernel), hk₁ 141 (by decide) (by decide +kernel), hn₁ 141 (by decide) (by decide +kernel), hk₁ 142 (by decide) (by decide +kernel), hn₁ 142 (by decide) (by decide +kernel)⟩,
   ⟨hk₁ 143 (by decide) (by decide +kernel), hr₁ 143 1 (v₁ := 144) (by decide) (by decide +kernel), hr₁ 143 2 (v₁ := 147) (by decide) (by decide +kernel), hr₁ 143 3 (v₁ := 150) (by decide) (by decide +kernel), hr₁ 143 4 (v₁ := 153) (by decide) (by decide +kernel), hr₁ 143 5 (v₁ := 156) (by decide) (by decide +kernel), ⟨hk₁ 144 (by decide) (by decide +kernel), hr₁ 144 1 (v₁ := 145) (by decide) (by decide +kernel), hr₁ 144 2 (v₁ := 146) (by decide) (by decide +kernel), hk₁ 145 (by decide) (by decide +kernel), hk₁ 146 (by decide) (by decide +kernel), hn₁ 145 (by decide) (by decide +kernel), hn₁ 146 (by decide) (by decide +kernel), by decide, by decide, by decide⟩, ⟨hk₁ 147 (by decide) (by decide +kernel), hr₁ 147 1 (v₁ := 148) (by decide) (by decide +kernel), hr₁ 147 2 (v₁ := 149) (by decide) (by decide +kernel), hk₁ 148 (by decide) (by decide +kernel), hk₁ 149 (by decide) (by decide +kernel), hn₁ 148 (by decide) (by decide +kernel), hn₁ 149 (by decide) (by decide +kernel), by decide, by decide, by decide⟩, ⟨hk₁ 150 (by decide) (by decide +kernel), hr₁ 150 1 (v₁ := 151) (by decide) (by decide +kernel), hr₁ 150 2 (v₁ := 152) (by decide) (by decide +kernel), hk₁ 151 (by decide) (by decide +kernel), hk₁ 152 (by decide) (by decide +kernel), hn₁ 151 (by decide) (by decide +kernel), hn₁ 152 (by decide) (by decide +kernel), by decide, by decide, by decide⟩, ⟨hk₁ 153 (by decide) (by decide +kernel), hr₁ 153 1 (v₁ := 154) (by decide) (by decide +kernel), hr₁ 153 2 (v₁ := 155) (by decide) (by decide +kernel), hk₁ 154 (by decide) (by decide +kernel), hk₁ 155 (by decide) (by decide +kernel), hn₁ 154 (by decide) (by decide +kernel), hn₁ 155 (by decide) (by decide +kernel), by decide, by decide, by decide⟩, ⟨hk₁ 156 (by decide) (by decide +kernel), hr₁ 156 1 (v₁ := 157) (by decide) (by decide +kernel), hr₁ 156 2 (v₁ := 158) (by decide) (by decide +kernel), hk₁ 157 (by decide) (by decide +kernel), hk₁ 158 (by decide) (by decide +kernel), hn₁ 157 (by decide) (by decide +kernel), hn₁ 158 (by decide) (by decide +kernel), by decide, by decide, by decide⟩⟩,
   ⟨hk₁ 159 (by decide) (by decide +kernel), hr₁ 159 0 (v₁ := 160) (by decide) (by decide +kernel), hr₁ 159 1 (v₁ := 161) (by decide) (by decide +kernel), hr₁ 159 2 (v₁ := 162) (by decide) (by decide +kernel), hk₁ 160 (by decide) (by decide +kernel), hn₁ 160 (by decide) (by decide +kernel), hk₁ 161 (by decide) (by decide +kernel), hn₁ 161 (by decide) (by decide +kernel), hk₁ 162 (by decide) (by decide +kernel), hn₁ 162 (by decide) (by decide +kernel)⟩,
   ⟨hk₁ 163 (by decide) (by decide +kernel), hr₁ 163 1 (v₁ := 164) (by decide) (by decide +kernel), hr₁ 163 2 (v₁ := 165) (by decide) (by decide +kernel), hr₁ 163 3 (v₁ := 166) (by decide) (by decide +kernel), hr₁ 163 4 (v₁ := 167) (by decide) (by decide +kernel), hk₁ 164 (by decide) (by decide +kernel), hn₁ 164 (by decide) (by decide +kernel), hk₁ 165 (by decide) (by decide +kernel), hn₁ 165 (by decide) (by decide +kernel), hk₁ 166 (by decide) (by decide +kernel), hn₁ 166 (by decide) (by decide +kernel), hk₁ 167 (by decide) (by decide +kernel), hn₁ 167 (by decide) (by decide +kernel)⟩,
   ⟨hk₁ 77 (by decide) (by decide +kernel), hr₁ 77 1 (v₁ := 78) (by decide) (by decide +kernel), hr₁ 77 2 (v₁ := 79) (by decide) (by decide +kernel), hk₁ 78 (by decide) (by decide +kernel), hk₁ 79 (by decide) (by decide +kernel), hn₁ 78 (by decide) (by decide +kernel), hn₁ 79 (by decide) (by decide +kernel), by decide, by decide, by decide⟩,
   ⟨hk₁ 80 (by decide) (by decide +kernel), hr₁ 80 1 (v₁ := 81) (by decide) (by decide +kernel), hr₁ 80 2 (v₁ := 82) (by decide) (by decide +kernel), hk₁ 81 (by decide) (by decide +kernel), hk₁ 82 (by decide) (by decide +kernel), hn₁ 81 (by decide) (by decide +kernel), hn₁ 82 (by decide) (by decide +kernel), by decide, by decide, by decide⟩,
   ⟨hk₁ 83 (by decide) (by decide +kernel), hr₁ 83 1 (v₁ := 84) (by decide) (by decide +kernel), hr₁ 83 2 (v₁ := 85) (by decide) (by decide +kernel), hk₁ 84 (by decide) (by decide +kernel), hk₁ 85 (by decide) (by decide +kernel), hn₁ 84 (by decide) (by decide +kernel), hn₁ 85 (by decide) (by decide +kernel), by decide, by decide, by decide⟩⟩
theorem new_HM {x₁ : Nat} {K₁ N₁ : MK} {R₁ : MR} (hk₁ : ∀ j₁ {v₁ : Nat}, j₁ < 168 → lkN₁ (hL_k 2) j₁ = v₁ → K₁ (x₁ + j₁) = v₁) (hr₁ : ∀ j₁ i₁ {v₁ : Nat}, j₁ < 168 → lkR₁ (hL_r 2) j₁ i₁ = some v₁ → R₁ (x₁ + j₁) i₁ = some (x₁ + v₁)) (hn₁ : ∀ j₁ {v₁ : Nat}, j₁ < 168 → (j₁, v₁) ∈ hL_n 2 → N₁ (x₁ + j₁) = v₁) : HM₁ K₁ N₁ R₁ x₁ := by
  intro i₁ hi₁
  exact ⟨(by rw [Nat.add_assoc]; exact hk₁ (86 + 4 * i₁) (by omega) ((by decide +kernel : ∀ i₁, i₁ < 8 → lkN₁ (hL_k 2) (86 + 4 * i₁) = 4) i₁ hi₁)),
    (by rw [Nat.add_assoc]; exact hr₁ (86 + 4 * i₁) 0 (v₁ := 86 + 4 * i₁ + 1) (by omega) ((by decide +kernel : ∀ i₁, i₁ < 8 → lkR₁ (hL_r 2) (86 + 4 * i₁) 0 = some (86 + 4 * i₁ + 1)) i₁ hi₁)),
    (by rw [Nat.add_assoc]; exact hr₁ (86 + 4 * i₁) 1 (v₁ := 86 + 4 * i₁ + 2) (by omega) ((by decide +kernel : ∀ i₁, i₁ < 8 → lkR₁ (hL_r 2) (86 + 4 * i₁) 1 = some (86 + 4 * i₁ + 2)) i₁ hi₁)),
    (by rw [Nat.add_assoc]; exact hr₁ (86 + 4 * i₁) 2 (v₁ := 86 + 4 * i₁ + 3) (by omega) ((by decide +kernel : ∀ i₁, i₁ < 8 → lkR₁ (hL_r 2) (86 + 4 * i₁) 2 = some (86 + 4 * i₁ + 3)) i₁ hi₁)),
    (by rw [Nat.add_assoc x₁]; exact hk₁ (86 + 4 * i₁ + 1) (by omega) ((by decide +kernel : ∀ i₁, i₁ < 8 → lkN₁ (hL_k 2) (86 + 4 * i₁ + 1) = 14) i₁ hi₁)),
    (by rw [Nat.add_assoc x₁]; exact hn₁ (86 + 4 * i₁ + 1) (by omega) ((by decide +kernel : ∀ i₁, i₁ < 8 → (86 + 4 * i₁ + 1, 8) ∈ hL_n 2) i₁ hi₁)),
    (by rw [Nat.add_assoc x₁]; exact hk₁ (86 + 4 * i₁ + 2) (by omega) ((by decide +kernel : ∀ i₁, i₁ < 8 → lkN₁ (hL_k 2) (86 + 4 * i₁ + 2) = 14) i₁ hi₁)),
    (by rw [Nat.add_assoc x₁]; exact hn₁ (86 + 4 * i₁ + 2) (by omega) ((by decide +kernel : ∀ i₁, i₁ < 8 → (86 + 4 * i₁ + 2, 64) ∈ hL_n 2) i₁ hi₁)),
    (by rw [Nat.add_assoc x₁]; exact hk₁ (86 + 4 * i₁ + 3) (by omega) ((by decide +kernel : ∀ i₁, i₁ < 8 → lkN₁ (hL_k 2) (86 + 4 * i₁ + 3) = 14) i₁ hi₁)),
    (by rw [Nat.add_assoc x₁]; exact hn₁ (86 + 4 * i₁ + 3) (by omega) ((by decide +kernel : ∀ i₁, i₁ < 8 → (86 + 4 * i₁ + 3, 8) ∈ hL_n 2) i₁ hi₁))⟩
theorem new_HIS {x₁ : Nat} {K₁ N₁ : MK} {R₁ : MR} (hk₁ : ∀ j₁ {v₁ : Nat}, j₁ < 168 → lkN₁ (hL_k 2) j₁ = v₁ → K₁ (x₁ + j₁) = v₁) (hr₁ : ∀ j₁ i₁ {v₁ : Nat}, j₁ < 168 → lkR₁ (hL_r 2) j₁ i₁ = some v₁ → R₁ (x₁ + j₁) i₁ = some (x₁ + v₁)) (hn₁ : ∀ j₁ {v₁ : Nat}, j₁ < 168 → (j₁, v₁) ∈ hL_n 2 → N₁ (x₁ + j₁) = v₁) : HIS₁ R₁ x₁ (fun k₁ => k₁) := by
  refine ⟨fun k₁ hi₁ => ⟨hi₁, ?_⟩, fun i₁ j₁ _ _ e₁ => e₁⟩
  rw [Nat.add_assoc]
  exact hr₁ 27 k₁ (by decide) ((by decide +kernel : ∀ i₁, i₁ < 8 → lkR₁ (hL_r 2) 27 i₁ = some (86 + 4 * i₁)) k₁ hi₁)
theorem new_MDL {m₁ : Nat} {K0₁ N0₁ : MK} {I0₁ : MI} {L0₁ : ML} {R0₁ : MR} {K₁ N₁ : MK} {I₁ : MI} {L₁ : ML} {R₁ : MR} (h₁ : IAT₁ m₁ 27 ((26, 15) :: X12_k25) ((26, 1) :: X12_n25) X12_r25 X12_i25 K0₁ N0₁ I0₁ L0₁ R0₁ K₁ N₁ I₁ L₁ R₁) : MDL K₁ N₁ R₁ m₁ :=
  ⟨h₁.k 0 (by decide) (by decide +kernel),
   h₁.r 0 1 (by decide +kernel),
   h₁.k 1 (by decide) (by decide +kernel),
   h₁.n 1 (by decide +kernel),
   h₁.r 0 14 (by decide +kernel),
   h₁.k 2 (by decide) (by decide +kernel),
   h₁.n 2 (by decide +kernel),
   h₁.r 0 15 (by decide +kernel),
   h₁.k 3 (by decide) (by decide +kernel),
   h₁.n 3 (by decide +kernel),
   h₁.r 0 16 (by decide +kernel),
   h₁.k 4 (by decide) (by decide +kernel),
   h₁.n 4 (by decide +kernel),
   h₁.r 0 17 (by decide +kernel),
   h₁.k 5 (by decide) (by decide +kernel),
   h₁.n 5 (by decide +kernel),
   h₁.r 0 18 (by decide +kernel),
   h₁.k 6 (by decide) (by decide +kernel),
   h₁.n 6 (by decide +kernel),
   h₁.r 0 19 (by decide +kernel),
   h₁.k 7 (by decide) (by decide +kernel),
   h₁.n 7 (by decide +kernel),
   h₁.r 0 20 (by decide +kernel),
   h₁.k 8 (by decide) (by decide +kernel),
   h₁.n 8 (by decide +kernel),
   h₁.r 0 21 (by decide +kernel),
   h₁.k 9 (by decide) (by decide +kernel),
   h₁.n 9 (by decide +kernel),
   h₁.r 0 22 (by decide +kernel),
   h₁.k 10 (by decide) (by decide +kernel),
   h₁.n 10 (by decide +kernel),
   h₁.r 0 23 (by decide +kernel),
   h₁.k 11 (by decide) (by decide +kernel),
   h₁.n 11 (by decide +kernel),
   h₁.r 0 26 (by decide +kernel),
   h₁.k 12 (by decide) (by decide +kernel),
   h₁.n 12 (by decide +kernel),
   h₁.r 0 27 (by decide +kernel),
   h₁.k 13 (by decide) (by decide +kernel),
   h₁.n 13 (by decide +kernel),
   h₁.r 0 29 (by decide +kernel),
   h₁.k 14 (by decide) (by decide +kernel),
   h₁.n 14 (by decide +kernel),
   h₁.r 0 32 (by decide +kernel),
   h₁.k 15 (by decide) (by decide +kernel),
   h₁.n 15 (by decide +kernel),
   h₁.r 0 33 (by decide +kernel),
   h₁.k 16 (by decide) (by decide +kernel),
   h₁.n 16 (by decide +kernel),
   h₁.r 0 34 (by decide +kernel),
   h₁.k 17 (by decide) (by decide +kernel),
   h₁.n 17 (by decide +kernel),
   h₁.r 0 38 (by decide +kernel),
   h₁.k 18 (by decide) (by decide +kernel),
   h₁.n 18 (by decide +kernel),
   h₁.r 0 39 (by decide +kernel),
   h₁.k 19 (by decide) (by decide +kernel),
   h₁.n 19 (by decide +kernel),
   h₁.r 0 40 (by decide +kernel),
   h₁.k 20 (by decide) (by decide +kernel),
   h₁.n 20 (by decide +kernel),
   h₁.r 0 41 (by decide +kernel),
   h₁.k 21 (by decide) (by decide +kernel),
   h₁.n 21 (by decide +kernel),
   h₁.r 0 46 (by decide +kernel),
   h₁.k 22 (by decide) (by decide +kernel),
   h₁.n 22 (by decide +kernel),
   h₁.r 0 49 (by decide +kernel),
   h₁.k 23 (by decide) (by decide +kernel),
   h₁.n 23 (by decide +kernel),
   h₁.r 0 50 (by decide +kernel),
   h₁.k 24 (by decide) (by decide +kernel),
   h₁.n 24 (by decide +kernel),
   h₁.r 0 53 (by decide +kernel),
   h₁.k 25 (by decide) (by decide +kernel),
   h₁.n 25 (by decide +kernel)⟩
theorem emU_0 (k₁ : Nat) : emU₁ (fun _ => 0) k₁ = if k₁ = 0 then 256 else 0 := by
  rw [emU₁]; split
  · rfl
  · split <;> rfl
theorem mac_em (k₁ : Nat) : macV (emU₁ fun _ => 0) k₁ = 0 := by rw [macV, emU_0, if_neg (by omega)]
theorem ud_em {I₁ : MI} {L₁ : ML} {u₁ : Nat} {W₁ : Nat → Int64} {T₁ : Nat → Int32} (e0₁ : I₁ u₁ 0 = 256) (t1₁ : TD I₁ (u₁ + 1) 30 2 0) (t2₁ : TD I₁ (u₁ + 4) 10 4 0) (t3₁ : TD I₁ (u₁ + 7) 6 3 0) (t4₁ : TD I₁ (u₁ + 10) 10 2 0) (t5₁ : TD I₁ (u₁ + 13) 16 21 0) : UD I₁ L₁ u₁ (emU₁ T₁) W₁ := by
  have z₁ := fun k₁ h1₁ h2₁ => emU_z (T₁ := T₁) k₁ h1₁ h2₁
  refine ⟨e0₁, ?_, ?_, ?_, ?_, ?_⟩
  · rw [UD1₁, z₁ 1 (by decide) (by decide)]; exact ⟨t1₁, fun k₁ c₁ => absurd c₁ (by omega)⟩
  · rw [UD2₁, z₁ 2 (by decide) (by decide)]; exact ⟨t2₁, fun k₁ c₁ => absurd c₁ (by omega)⟩
  · rw [UD3₁, z₁ 3 (by decide) (by decide)]; exact ⟨t3₁, fun k₁ c₁ => absurd c₁ (by omega)⟩
  · rw [UD4₁, z₁ 4 (by decide) (by decide)]; exact ⟨t4₁, fun k₁ c₁ => absurd c₁ (by omega)⟩
  · rw [UD5₁, z₁ 5 (by decide) (by decide)]; exact ⟨t5₁, fun k₁ c₁ => absurd c₁ (by omega)⟩
theorem WFv_em : WFv₁ (emU₁ fun _ => 0) (macV (emU₁ fun _ => 0)) := by
  refine ⟨⟨0, by decide, mac_em 2⟩, ⟨fun j₁ _ => ⟨0, by decide, mac_em _⟩, fun j₁ _ => ⟨0, by decide, mac_em _⟩⟩, ?_⟩
  rw [mac_em 0]
  exact adr_nI WFU_em.1 (a₁ := 0) (by rw [emU_0]; decide)
theorem CPL_new {x₁ : Nat} {Ka₁ Na₁ : MK} {Ia₁ : MI} {La₁ : ML} {Ra₁ : MR} {K₁ N₁ : MK} {I₁ : MI} {L₁ : ML} {R₁ : MR} {K2₁ N2₁ : MK} {I2₁ : MI} {L2₁ : ML} {R2₁ : MR} (h₁ : IAT₁ x₁ 168 (hL_k 2) (hL_n 2) (hL_r 2) (hL_i 2) Ka₁ Na₁ Ia₁ La₁ Ra₁ K₁ N₁ I₁ L₁ R₁) (g₁ : IAT₁ (x₁ + 168) 27 ((26, 15) :: X12_k25) ((26, 1) :: X12_n25) X12_r25 X12_i25 K₁ N₁ I₁ L₁ R₁ K2₁ N2₁ I2₁ L2₁ R2₁) : CPL₁ K2₁ N2₁ I2₁ L2₁ R2₁ x₁ (x₁ + 168) := by
  have x1₁ : 1 ≤ x₁ := h₁.1
  have hf₁ : ∀ j₁, j₁ < 168 → K2₁ (x₁ + j₁) = K₁ (x₁ + j₁) ∧ N2₁ (x₁ + j₁) = N₁ (x₁ + j₁) ∧ I2₁ (x₁ + j₁) = I₁ (x₁ + j₁) ∧ L2₁ (x₁ + j₁) = L₁ (x₁ + j₁) ∧ R2₁ (x₁ + j₁) = R₁ (x₁ + j₁) := fun j₁ hj₁ => g₁.f (by omega) (by omega)
  have hk₁ : ∀ j₁ {v₁ : Nat}, j₁ < 168 → lkN₁ (hL_k 2) j₁ = v₁ → K2₁ (x₁ + j₁) = v₁ := fun j₁ v₁ hj₁ e₁ => (hf₁ j₁ hj₁).1.trans (h₁.k j₁ hj₁ e₁)
  have hn₁ : ∀ j₁ {v₁ : Nat}, j₁ < 168 → (j₁, v₁) ∈ hL_n 2 → N2₁ (x₁ + j₁) = v₁ := fun j₁ v₁ hj₁ e₁ => (hf₁ j₁ hj₁).2.1.trans (h₁.n j₁ e₁)
  have hr₁ : ∀ j₁ i₁ {v₁ : Nat}, j₁ < 168 → lkR₁ (hL_r 2) j₁ i₁ = some v₁ → R2₁ (x₁ + j₁) i₁ = some (x₁ + v₁) := fun j₁ i₁ v₁ hj₁ e₁ => (congrFun (hf₁ j₁ hj₁).2.2.2.2 i₁).trans (h₁.r j₁ i₁ e₁)
  have hi₁ : ∀ j₁ i₁ {v₁ : Int32}, j₁ < 168 → lkI₁ (hL_i 2) j₁ i₁ = v₁ → I2₁ (x₁ + j₁) i₁ = v₁ := fun j₁ i₁ v₁ hj₁ e₁ => (congrFun (hf₁ j₁ hj₁).2.2.1 i₁).trans (h₁.i j₁ i₁ hj₁ e₁)
  have hI₁ : I2₁ (x₁ + 168 + 2) = emU₁ fun _ => 0 := by
    funext y₁
    rw [emU_0]
    refine (g₁.i 2 y₁ (by decide) rfl).trans ?_
    by_cases c₁ : y₁ = 0
    · rw [c₁]; decide +kernel
    · rw [if_neg c₁]
      refine (if_neg (fun d₁ => c₁ d₁.2)).trans (lkI_nz (by decide +kernel) y₁)
  have hm₁ : ∀ y₁, I2₁ (x₁ + 168) y₁ = 0 := fun y₁ => (g₁.i 0 y₁ (by decide) rfl).trans (lkI_nz (by decide +kernel) y₁)
  have hz₁ : ∀ y₁, macV (I2₁ (x₁ + 168 + 2)) y₁ = 0 := fun y₁ => by rw [hI₁]; exact mac_em y₁
  refine ⟨fun _ => 0, 0, fun _ => [], 0, fun k₁ => k₁, [], 0, 0, 0, 0, ⟨new_PDL hk₁ hr₁ hn₁, new_MDL g₁, new_HM hk₁ hr₁ hn₁, new_HIS hk₁ hr₁ hn₁, x1₁, Nat.le_refl _⟩, ?_, ?_, ?_, ?_, ?_, ?_, ?_, ?_, ?_, ?_, ?_, ?_⟩
  · exact ⟨fun _ => Nat.zero_lt_succ _, by decide, hi₁ 1 1 (by decide) (by decide +kernel), hm₁ 2, fun i₁ c₁ => absurd c₁ (by omega), fun i₁ c₁ => absurd c₁ (by omega), (hi₁ 1 10 (by decide) (by decide +kernel)).trans (hm₁ 10).symm⟩
  · rw [cUni, hI₁]
    exact ⟨ud_em (hi₁ 3 0 (by decide) (by decide +kernel)) ⟨hi₁ 4 0 (by decide) (by decide +kernel), hi₁ 4 3 (by decide) (by decide +kernel), Nat.zero_le _⟩ ⟨hi₁ 7 0 (by decide) (by decide +kernel), hi₁ 7 3 (by decide) (by decide +kernel), Nat.zero_le _⟩ ⟨hi₁ 10 0 (by decide) (by decide +kernel), hi₁ 10 3 (by decide) (by decide +kernel), Nat.zero_le _⟩ ⟨hi₁ 13 0 (by decide) (by decide +kernel), hi₁ 13 3 (by decide) (by decide +kernel), Nat.zero_le _⟩ ⟨hi₁ 16 0 (by decide) (by decide +kernel), hi₁ 16 3 (by decide) (by decide +kernel), Nat.zero_le _⟩, WFU_em, NOK_em, fun k₁ c₁ => absurd c₁ (by rw [emU_z 2 (by decide) (by decide)]; omega), fun k₁ c₁ => absurd c₁ (by rw [emU_z 3 (by decide) (by decide)]; omega), fun k₁ c₁ => absurd c₁ (by rw [emU_z 4 (by decide) (by decide)]; omega)⟩
  · exact ⟨⟨(hi₁ 19 4 (by decide) (by decide +kernel)).trans (hz₁ 0).symm, (hi₁ 19 5 (by decide) (by decide +kernel)).trans (hz₁ 1).symm, (hi₁ 19 3 (by decide) (by decide +kernel)).trans (hz₁ 2).symm, ⟨0, hz₁ 2, by decide, fun k₁ c₁ => absurd c₁ (by omega)⟩, fun k₁ _ => (hi₁ 20 k₁ (by decide) (lkI_nz (by decide +kernel) k₁)).trans (hz₁ (11 + k₁)).symm, fun k₁ _ => (hi₁ 21 k₁ (by decide) (lkI_nz (by decide +kernel) k₁)).trans (hz₁ (19 + k₁)).symm⟩, by rw [hI₁]; exact WFv_em⟩
  · exact ⟨by decide, hi₁ 0 5 (by decide) (by decide +kernel), hm₁ 24, fun k₁ c₁ => absurd c₁ (by omega), fun k₁ c₁ => absurd c₁ (by omega)⟩
  · exact ⟨by decide, ⟨hi₁ 77 0 (by decide) (by decide +kernel), hi₁ 77 3 (by decide) (by decide +kernel), Nat.zero_le _⟩, hm₁ 28, fun j₁ c₁ => absurd c₁ (by omega)⟩
  · exact ⟨by decide, ⟨hi₁ 80 0 (by decide) (by decide +kernel), hi₁ 80 3 (by decide) (by decide +kernel), Nat.zero_le _⟩, hm₁ 47, fun j₁ c₁ => absurd c₁ (by omega)⟩
  · exact ⟨by decide, ⟨hi₁ 64 0 (by decide) (by decide +kernel), hi₁ 64 3 (by decide) (by decide +kernel), Nat.zero_le _⟩, hm₁ 35, fun j₁ c₁ => absurd c₁ (by omega)⟩
  · exact ⟨by decide, hi₁ 70 0 (by decide) (by decide +kernel), ⟨hi₁ 67 0 (by decide) (by decide +kernel), hi₁ 67 3 (by decide) (by decide +kernel), Nat.zero_le _⟩, hm₁ 43, fun j₁ c₁ => absurd c₁ (by omega)⟩
  · exact Or.inl ⟨⟨hi₁ 83 0 (by decide) (by decide +kernel), hi₁ 83 3 (by decide) (by decide +kernel), Nat.zero_le _⟩, hm₁ 52⟩
  · refine ⟨⟨hi₁ 31 0 (by decide) (by decide +kernel), by decide, fun i₁ c₁ => absurd c₁ (Nat.not_lt_zero i₁)⟩, Or.inl ⟨?_, rfl⟩⟩
    rw [hI₁, emU_0]; rfl
  · intro j₁ hj₁
    have e1₁ : I2₁ (x₁ + 76) j₁ = 0 := hi₁ 76 j₁ (by decide) (lkI_nz (by decide +kernel) j₁)
    have e2₁ : I2₁ (x₁ + 168 + 11) j₁ = 0 := (g₁.i 11 j₁ (by decide) rfl).trans (lkI_nz (by decide +kernel) j₁)
    refine ⟨?_, ⟨fun c₁ => absurd e1₁ c₁, fun c₁ => absurd e2₁ c₁⟩, fun c₁ => absurd e1₁ c₁⟩
    rcases (show j₁ = 0 ∨ j₁ = 1 by omega) with rfl | rfl
    · exact ⟨hi₁ 119 0 (by decide) (by decide +kernel), hi₁ 122 0 (by decide) (by decide +kernel), hi₁ 125 0 (by decide) (by decide +kernel), hi₁ 128 0 (by decide) (by decide +kernel), hi₁ 131 0 (by decide) (by decide +kernel)⟩
    · exact ⟨hi₁ 144 0 (by decide) (by decide +kernel), hi₁ 147 0 (by decide) (by decide +kernel), hi₁ 150 0 (by decide) (by decide +kernel), hi₁ 153 0 (by decide) (by decide +kernel), hi₁ 156 0 (by decide) (by decide +kernel)⟩
  · exact ⟨⟨hi₁ 38 0 (by decide) (by decide +kernel), hi₁ 41 0 (by decide) (by decide +kernel), hi₁ 44 0 (by decide) (by decide +kernel), hi₁ 47 0 (by decide) (by decide +kernel), hi₁ 50 0 (by decide) (by decide +kernel)⟩, hi₁ 60 0 (by decide) (by decide +kernel)⟩
