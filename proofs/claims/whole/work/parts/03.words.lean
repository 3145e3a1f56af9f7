/-! ===== BEGIN words by their places ===== -/
theorem tj1 {w : Cond} (j : Nat) (h : tables_1_1[j]? = some w) (hg : goodWord w = true) : w ∈ wsT := List.mem_filter.mpr ⟨List.mem_append_right _ (List.mem_append_left _ (List.mem_of_getElem? h)), hg⟩
theorem ns1 {w : Cond} (j : Nat) (h : tables_1_1[j]? = some w) (hg : nestWord w = true) : w ∈ nsW := List.mem_filter.mpr ⟨List.mem_append_right _ (List.mem_append_left _ (List.mem_of_getElem? h)), hg⟩
theorem tj2 {w : Cond} (j : Nat) (h : tables_1_2[j]? = some w) (hg : goodWord w = true) : w ∈ wsT := List.mem_filter.mpr ⟨List.mem_append_right _ (List.mem_append_right _ (List.mem_append_left _ (List.mem_of_getElem? h))), hg⟩
theorem ns2 {w : Cond} (j : Nat) (h : tables_1_2[j]? = some w) (hg : nestWord w = true) : w ∈ nsW := List.mem_filter.mpr ⟨List.mem_append_right _ (List.mem_append_right _ (List.mem_append_left _ (List.mem_of_getElem? h))), hg⟩
theorem tj3 {w : Cond} (j : Nat) (h : tables_1_3[j]? = some w) (hg : goodWord w = true) : w ∈ wsT := List.mem_filter.mpr ⟨List.mem_append_right _ (List.mem_append_right _ (List.mem_append_right _ (List.mem_append_left _ (List.mem_of_getElem? h)))), hg⟩
theorem ns3 {w : Cond} (j : Nat) (h : tables_1_3[j]? = some w) (hg : nestWord w = true) : w ∈ nsW := List.mem_filter.mpr ⟨List.mem_append_right _ (List.mem_append_right _ (List.mem_append_right _ (List.mem_append_left _ (List.mem_of_getElem? h)))), hg⟩
theorem tj4 {w : Cond} (j : Nat) (h : tables_1_4[j]? = some w) (hg : goodWord w = true) : w ∈ wsT := List.mem_filter.mpr ⟨List.mem_append_right _ (List.mem_append_right _ (List.mem_append_right _ (List.mem_append_right _ (List.mem_append_left _ (List.mem_of_getElem? h))))), hg⟩
theorem ns4 {w : Cond} (j : Nat) (h : tables_1_4[j]? = some w) (hg : nestWord w = true) : w ∈ nsW := List.mem_filter.mpr ⟨List.mem_append_right _ (List.mem_append_right _ (List.mem_append_right _ (List.mem_append_right _ (List.mem_append_left _ (List.mem_of_getElem? h))))), hg⟩
theorem tj5 {w : Cond} (j : Nat) (h : tables_1_5[j]? = some w) (hg : goodWord w = true) : w ∈ wsT := List.mem_filter.mpr ⟨List.mem_append_right _ (List.mem_append_right _ (List.mem_append_right _ (List.mem_append_right _ (List.mem_append_right _ (List.mem_of_getElem? h))))), hg⟩
theorem ns5 {w : Cond} (j : Nat) (h : tables_1_5[j]? = some w) (hg : nestWord w = true) : w ∈ nsW := List.mem_filter.mpr ⟨List.mem_append_right _ (List.mem_append_right _ (List.mem_append_right _ (List.mem_append_right _ (List.mem_append_right _ (List.mem_of_getElem? h))))), hg⟩
theorem tjs {w : Cond} (j : Nat) (h : (k2_sels lw_privs)[j]? = some w) (hg : goodWord w = true) : w ∈ wsT := List.mem_filter.mpr ⟨List.mem_append_left _ (List.mem_of_getElem? h), hg⟩
set_option maxRecDepth 20000 in
theorem inl_X0 : ∀ w ∈ u_ws RX0 TX0 7, w ∈ wsT := by
  intro w hw
  obtain ⟨k, hk, rfl⟩ := List.mem_map.mp hw
  have hk := List.mem_range.mp hk
  rcases (show k = 0 ∨ k = 1 ∨ k = 2 ∨ k = 3 ∨ k = 4 ∨ k = 5 ∨ k = 6 by omega) with rfl | rfl | rfl | rfl | rfl | rfl | rfl
  · exact (tj1 111 rfl rfl)
  · exact (tj1 113 rfl rfl)
  · exact (tj1 115 rfl rfl)
  · exact (tj1 117 rfl rfl)
  · exact (tj1 119 rfl rfl)
  · exact (tj1 121 rfl rfl)
  · exact (tj1 123 rfl rfl)
set_option maxRecDepth 20000 in
theorem inl_X1 : ∀ w ∈ u_ws RX1 TX1 3, w ∈ wsT := by
  intro w hw
  obtain ⟨k, hk, rfl⟩ := List.mem_map.mp hw
  have hk := List.mem_range.mp hk
  rcases (show k = 0 ∨ k = 1 ∨ k = 2 by omega) with rfl | rfl | rfl
  · exact (tj1 183 rfl rfl)
  · exact (tj1 185 rfl rfl)
  · exact (tj1 187 rfl rfl)
set_option maxRecDepth 20000 in
theorem inl_X2 : ∀ w ∈ u_ws RX2 TX2 10, w ∈ wsT := by
  intro w hw
  obtain ⟨k, hk, rfl⟩ := List.mem_map.mp hw
  have hk := List.mem_range.mp hk
  rcases (show k = 0 ∨ k = 1 ∨ k = 2 ∨ k = 3 ∨ k = 4 ∨ k = 5 ∨ k = 6 ∨ k = 7 ∨ k = 8 ∨ k = 9 by omega) with rfl | rfl | rfl | rfl | rfl | rfl | rfl | rfl | rfl | rfl
  · exact (tj1 71 rfl rfl)
  · exact (tj1 73 rfl rfl)
  · exact (tj1 75 rfl rfl)
  · exact (tj1 77 rfl rfl)
  · exact (tj1 79 rfl rfl)
  · exact (tj1 81 rfl rfl)
  · exact (tj1 83 rfl rfl)
  · exact (tj1 85 rfl rfl)
  · exact (tj1 87 rfl rfl)
  · exact (tj1 89 rfl rfl)
set_option maxRecDepth 20000 in
theorem inl_X3 : ∀ w ∈ u_ws RX3 TX3 3, w ∈ wsT := by
  intro w hw
  obtain ⟨k, hk, rfl⟩ := List.mem_map.mp hw
  have hk := List.mem_range.mp hk
  rcases (show k = 0 ∨ k = 1 ∨ k = 2 by omega) with rfl | rfl | rfl
  · exact (tj1 163 rfl rfl)
  · exact (tj1 165 rfl rfl)
  · exact (tj1 167 rfl rfl)
set_option maxRecDepth 20000 in
theorem inl_X4 : ∀ w ∈ u_ws RX4 TX4 3, w ∈ wsT := by
  intro w hw
  obtain ⟨k, hk, rfl⟩ := List.mem_map.mp hw
  have hk := List.mem_range.mp hk
  rcases (show k = 0 ∨ k = 1 ∨ k = 2 by omega) with rfl | rfl | rfl
  · exact (tj1 139 rfl rfl)
  · exact (tj1 141 rfl rfl)
  · exact (tj1 143 rfl rfl)
set_option maxRecDepth 20000 in
theorem inl_X5 : ∀ w ∈ u_ws RX5 TX5 4, w ∈ wsT := by
  intro w hw
  obtain ⟨k, hk, rfl⟩ := List.mem_map.mp hw
  have hk := List.mem_range.mp hk
  rcases (show k = 0 ∨ k = 1 ∨ k = 2 ∨ k = 3 by omega) with rfl | rfl | rfl | rfl
  · exact (tj1 31 rfl rfl)
  · exact (tj1 33 rfl rfl)
  · exact (tj1 35 rfl rfl)
  · exact (tj1 37 rfl rfl)
set_option maxRecDepth 20000 in
theorem inl_X6 : ∀ w ∈ u_ws RX6 TX6 11, w ∈ wsT := by
  intro w hw
  obtain ⟨k, hk, rfl⟩ := List.mem_map.mp hw
  have hk := List.mem_range.mp hk
  rcases (show k = 0 ∨ k = 1 ∨ k = 2 ∨ k = 3 ∨ k = 4 ∨ k = 5 ∨ k = 6 ∨ k = 7 ∨ k = 8 ∨ k = 9 ∨ k = 10 by omega) with rfl | rfl | rfl | rfl | rfl | rfl | rfl | rfl | rfl | rfl | rfl
  · exact (tj1 201 rfl rfl)
  · exact (tj1 203 rfl rfl)
  · exact (tj1 205 rfl rfl)
  · exact (tj1 207 rfl rfl)
  · exact (tj1 209 rfl rfl)
  · exact (tj1 211 rfl rfl)
  · exact (tj1 213 rfl rfl)
  · exact (tj1 215 rfl rfl)
  · exact (tj1 217 rfl rfl)
  · exact (tj1 219 rfl rfl)
  · exact (tj1 221 rfl rfl)
set_option maxRecDepth 20000 in
theorem inl_X7 : ∀ w ∈ u_ws RX7 TX7 29, w ∈ wsT := by
  intro w hw
  obtain ⟨k, hk, rfl⟩ := List.mem_map.mp hw
  have hk := List.mem_range.mp hk
  rcases (show k = 0 ∨ k = 1 ∨ k = 2 ∨ k = 3 ∨ k = 4 ∨ k = 5 ∨ k = 6 ∨ k = 7 ∨ k = 8 ∨ k = 9 ∨ k = 10 ∨ k = 11 ∨ k = 12 ∨ k = 13 ∨ k = 14 ∨ k = 15 ∨ k = 16 ∨ k = 17 ∨ k = 18 ∨ k = 19 ∨ k = 20 ∨ k = 21 ∨ k = 22 ∨ k = 23 ∨ k = 24 ∨ k = 25 ∨ k = 26 ∨ k = 27 ∨ k = 28 by omega) with rfl | rfl | rfl | rfl | rfl | rfl | rfl | rfl | rfl | rfl | rfl | rfl | rfl | rfl | rfl | rfl | rfl | rfl | rfl | rfl | rfl | rfl | rfl | rfl | rfl | rfl | rfl | rfl | rfl
  · exact (tj3 159 rfl rfl)
  · exact (tj3 161 rfl rfl)
  · exact (tj3 163 rfl rfl)
  · exact (tj3 165 rfl rfl)
  · exact (tj3 167 rfl rfl)
  · exact (tj3 169 rfl rfl)
  · exact (tj3 171 rfl rfl)
  · exact (tj3 173 rfl rfl)
  · exact (tj3 175 rfl rfl)
  · exact (tj3 177 rfl rfl)
  · exact (tj3 179 rfl rfl)
  · exact (tj3 181 rfl rfl)
  · exact (tj3 183 rfl rfl)
  · exact (tj3 185 rfl rfl)
  · exact (tj3 187 rfl rfl)
  · exact (tj3 189 rfl rfl)
  · exact (tj3 191 rfl rfl)
  · exact (tj3 193 rfl rfl)
  · exact (tj3 195 rfl rfl)
  · exact (tj3 197 rfl rfl)
  · exact (tj3 199 rfl rfl)
  · exact (tj3 201 rfl rfl)
  · exact (tj3 203 rfl rfl)
  · exact (tj3 205 rfl rfl)
  · exact (tj3 207 rfl rfl)
  · exact (tj3 209 rfl rfl)
  · exact (tj3 211 rfl rfl)
  · exact (tj3 213 rfl rfl)
  · exact (tj3 215 rfl rfl)
set_option maxRecDepth 20000 in
theorem oi_X0_3 : Cond.methodLink RX0 3 objectInit ∈ wsT ∧ Cond.instanceMethod objectInit ∈ wsT ∧ Cond.code objectInit ⟨#[0xb1]⟩ 1 none ∈ wsT := ⟨(tj1 97 rfl rfl), (tj1 17 rfl rfl), (tj1 18 rfl rfl)⟩
set_option maxRecDepth 20000 in
theorem f_X0_9 : FL RX0 9 0 0 := ⟨RX0, TX0, 7, rfl, by decide, inl_X0, Or.inl (tj1 98 rfl rfl)⟩
set_option maxRecDepth 20000 in
theorem p_X0_9 {ini : Bool} : FP RX0 9 0 0 (tyX0 0) ini := ⟨RX0, TX0, 7, tyX0, rfl, tyX0_ok, nmX0, tyX0_ok 0 (by decide), Or.inl rfl⟩
set_option maxRecDepth 20000 in
theorem f_X0_15 : FL RX0 15 0 1 := ⟨RX0, TX0, 7, rfl, by decide, inl_X0, Or.inl (tj1 99 rfl rfl)⟩
set_option maxRecDepth 20000 in
theorem p_X0_15 : FP RX0 15 0 1 (tyX0 1) true := ⟨RX0, TX0, 7, tyX0, rfl, tyX0_ok, nmX0, tyX0_ok 1 (by decide), Or.inr ⟨rfl, rfl, rfl, (tj1 99 rfl rfl)⟩⟩
set_option maxRecDepth 20000 in
theorem f_X0_19 : FL RX0 19 0 2 := ⟨RX0, TX0, 7, rfl, by decide, inl_X0, Or.inl (tj1 101 rfl rfl)⟩
set_option maxRecDepth 20000 in
theorem p_X0_19 : FP RX0 19 0 2 (tyX0 2) true := ⟨RX0, TX0, 7, tyX0, rfl, tyX0_ok, nmX0, tyX0_ok 2 (by decide), Or.inr ⟨rfl, rfl, rfl, (tj1 101 rfl rfl)⟩⟩
set_option maxRecDepth 20000 in
theorem f_X0_22 : FL RX0 22 0 3 := ⟨RX0, TX0, 7, rfl, by decide, inl_X0, Or.inl (tj1 103 rfl rfl)⟩
set_option maxRecDepth 20000 in
theorem p_X0_22 : FP RX0 22 0 3 (tyX0 3) true := ⟨RX0, TX0, 7, tyX0, rfl, tyX0_ok, nmX0, tyX0_ok 3 (by decide), Or.inr ⟨rfl, rfl, rfl, (tj1 103 rfl rfl)⟩⟩
set_option maxRecDepth 20000 in
theorem f_X0_25 : FL RX0 25 0 4 := ⟨RX0, TX0, 7, rfl, by decide, inl_X0, Or.inl (tj1 105 rfl rfl)⟩
set_option maxRecDepth 20000 in
theorem p_X0_25 {ini : Bool} : FP RX0 25 0 4 (tyX0 4) ini := ⟨RX0, TX0, 7, tyX0, rfl, tyX0_ok, nmX0, tyX0_ok 4 (by decide), Or.inl rfl⟩
set_option maxRecDepth 20000 in
theorem f_X0_28 : FL RX0 28 0 5 := ⟨RX0, TX0, 7, rfl, by decide, inl_X0, Or.inl (tj1 107 rfl rfl)⟩
set_option maxRecDepth 20000 in
theorem p_X0_28 {ini : Bool} : FP RX0 28 0 5 (tyX0 5) ini := ⟨RX0, TX0, 7, tyX0, rfl, tyX0_ok, nmX0, tyX0_ok 5 (by decide), Or.inl rfl⟩
set_option maxRecDepth 20000 in
theorem f_X0_31 : FL RX0 31 0 6 := ⟨RX0, TX0, 7, rfl, by decide, inl_X0, Or.inl (tj1 109 rfl rfl)⟩
set_option maxRecDepth 20000 in
theorem p_X0_31 {ini : Bool} : FP RX0 31 0 6 (tyX0 6) ini := ⟨RX0, TX0, 7, tyX0, rfl, tyX0_ok, nmX0, tyX0_ok 6 (by decide), Or.inl rfl⟩
set_option maxRecDepth 20000 in
theorem f_X0_34 : FL RX0 34 2 4 := ⟨RX2, TX2, 10, rfl, by decide, inl_X2, Or.inr ⟨"BeansBox", (ns1 57 rfl rfl)⟩⟩
set_option maxRecDepth 20000 in
theorem f_X0_37 : FL RX0 37 2 6 := ⟨RX2, TX2, 10, rfl, by decide, inl_X2, Or.inr ⟨"BeansBox", (ns1 64 rfl rfl)⟩⟩
set_option maxRecDepth 20000 in
theorem f_X0_38 : FL RX0 38 2 7 := ⟨RX2, TX2, 10, rfl, by decide, inl_X2, Or.inr ⟨"BeansBox", (ns1 66 rfl rfl)⟩⟩
set_option maxRecDepth 20000 in
theorem st_X6_apart : Cond.static yX6_apart ∈ wsT := (tj2 144 rfl rfl)
set_option maxRecDepth 20000 in
theorem l_X0_39 : CL RX0 39 yX6_apart cX6_apart 2 (some .int) 2 := ⟨Or.inr ⟨"BeansBox", (ns2 143 rfl rfl)⟩, (tj2 145 rfl rfl), (tj1 1 rfl rfl), by decide +kernel⟩
set_option maxRecDepth 20000 in
theorem im_X0_weight : Cond.instanceMethod yX0_weight ∈ wsT := (tj2 141 rfl rfl)
set_option maxRecDepth 20000 in
theorem se_X0_weight : Cond.selects (yX0_weight).cls yX0_weight yX0_weight ∈ wsT := tjs 28 rfl rfl
set_option maxRecDepth 20000 in
theorem l_X0_43 : CL RX0 43 yX0_weight cX0_weight 3 (some .int) 2 := ⟨Or.inl (tj2 139 rfl rfl), (tj2 142 rfl rfl), (tj1 4 rfl rfl), by decide +kernel⟩
set_option maxRecDepth 20000 in
theorem k_X0_46 : Cond.constantLong RX0 46 (1000000) ∈ wsT := (tj2 154 rfl rfl)
set_option maxRecDepth 20000 in
theorem ml_X0_48 : ML RX0 48 Lib.Math.min.name Lib.Math.min.code 2 := ⟨(tj2 167 rfl rfl), (tj2 35 rfl rfl), (tj1 7 rfl rfl), (tj2 36 rfl rfl)⟩
set_option maxRecDepth 20000 in
theorem im_X0_putOnList : Cond.instanceMethod yX0_putOnList ∈ wsT := (tj2 161 rfl rfl)
set_option maxRecDepth 20000 in
theorem se_X0_putOnList : Cond.selects (yX0_putOnList).cls yX0_putOnList yX0_putOnList ∈ wsT := tjs 31 rfl rfl
set_option maxRecDepth 20000 in
theorem l_X0_53 : CL RX0 53 yX0_putOnList cX0_putOnList 2 none 1 := ⟨Or.inl (tj2 159 rfl rfl), (tj2 162 rfl rfl), (tj1 4 rfl rfl), by decide +kernel⟩
set_option maxRecDepth 20000 in
theorem im_X0_correctTo : Cond.instanceMethod yX0_correctTo ∈ wsT := (tj2 174 rfl rfl)
set_option maxRecDepth 20000 in
theorem se_X0_correctTo : Cond.selects (yX0_correctTo).cls yX0_correctTo yX0_correctTo ∈ wsT := tjs 33 rfl rfl
set_option maxRecDepth 20000 in
theorem l_X0_57 : CL RX0 57 yX0_correctTo cX0_correctTo 2 none 1 := ⟨Or.inl (tj2 213 rfl rfl), (tj2 175 rfl rfl), (tj1 4 rfl rfl), by decide +kernel⟩
set_option maxRecDepth 20000 in
theorem im_X0_confirm : Cond.instanceMethod yX0_confirm ∈ wsT := (tj2 183 rfl rfl)
set_option maxRecDepth 20000 in
theorem se_X0_confirm : Cond.selects (yX0_confirm).cls yX0_confirm yX0_confirm ∈ wsT := tjs 34 rfl rfl
set_option maxRecDepth 20000 in
theorem l_X0_60 : CL RX0 60 yX0_confirm cX0_confirm 1 none 0 := ⟨Or.inl (tj2 214 rfl rfl), (tj2 184 rfl rfl), (tj1 4 rfl rfl), by decide +kernel⟩
set_option maxRecDepth 20000 in
theorem im_X0_isThere : Cond.instanceMethod yX0_isThere ∈ wsT := (tj2 165 rfl rfl)
set_option maxRecDepth 20000 in
theorem se_X0_isThere : Cond.selects (yX0_isThere).cls yX0_isThere yX0_isThere ∈ wsT := tjs 32 rfl rfl
set_option maxRecDepth 20000 in
theorem l_X0_63 : CL RX0 63 yX0_isThere cX0_isThere 2 (some .boolean) 1 := ⟨Or.inl (tj2 163 rfl rfl), (tj2 166 rfl rfl), (tj1 4 rfl rfl), by decide +kernel⟩
set_option maxRecDepth 20000 in
theorem ml_X0_67 : ML RX0 67 Lib.Math.max.name Lib.Math.max.code 2 := ⟨(tj2 176 rfl rfl), (tj1 155 rfl rfl), (tj1 7 rfl rfl), (tj1 156 rfl rfl)⟩
set_option maxRecDepth 20000 in
theorem oi_X1_1 : Cond.methodLink RX1 1 objectInit ∈ wsT ∧ Cond.instanceMethod objectInit ∈ wsT ∧ Cond.code objectInit ⟨#[0xb1]⟩ 1 none ∈ wsT := ⟨(tj1 174 rfl rfl), (tj1 17 rfl rfl), (tj1 18 rfl rfl)⟩
set_option maxRecDepth 20000 in
theorem f_X1_7 : FL RX1 7 1 0 := ⟨RX1, TX1, 3, rfl, by decide, inl_X1, Or.inl (tj1 177 rfl rfl)⟩
set_option maxRecDepth 20000 in
theorem p_X1_7 {ini : Bool} : FP RX1 7 1 0 (tyX1 0) ini := ⟨RX1, TX1, 3, tyX1, rfl, tyX1_ok, nmX1, tyX1_ok 0 (by decide), Or.inl rfl⟩
set_option maxRecDepth 20000 in
theorem nw_X1_13 : NW RX1 13 0 tyX0 := ⟨RX0, TX0, 7, rfl, inl_X0, tyX0_ok, (tj1 175 rfl rfl), (tj1 93 rfl rfl), (tj1 4 rfl rfl)⟩
set_option maxRecDepth 20000 in
theorem im_X0_init : Cond.instanceMethod yX0_init ∈ wsT := (tj1 95 rfl rfl)
set_option maxRecDepth 20000 in
theorem l_X1_15 : CL RX1 15 yX0_init cX0_init 1 none 0 := ⟨Or.inr ⟨"BeansBox", (ns1 176 rfl rfl)⟩, (tj1 96 rfl rfl), (tj1 4 rfl rfl), by decide +kernel⟩
set_option maxRecDepth 20000 in
theorem f_X1_16 : FL RX1 16 1 1 := ⟨RX1, TX1, 3, rfl, by decide, inl_X1, Or.inl (tj1 179 rfl rfl)⟩
set_option maxRecDepth 20000 in
theorem p_X1_16 : FP RX1 16 1 1 (tyX1 1) true := ⟨RX1, TX1, 3, tyX1, rfl, tyX1_ok, nmX1, tyX1_ok 1 (by decide), Or.inr ⟨rfl, rfl, rfl, (tj1 179 rfl rfl)⟩⟩
set_option maxRecDepth 20000 in
theorem f_X1_20 : FL RX1 20 1 2 := ⟨RX1, TX1, 3, rfl, by decide, inl_X1, Or.inl (tj1 181 rfl rfl)⟩
set_option maxRecDepth 20000 in
theorem p_X1_20 {ini : Bool} : FP RX1 20 1 2 (tyX1 2) ini := ⟨RX1, TX1, 3, tyX1, rfl, tyX1_ok, nmX1, tyX1_ok 2 (by decide), Or.inl rfl⟩
set_option maxRecDepth 20000 in
theorem oi_X2_3 : Cond.methodLink RX2 3 objectInit ∈ wsT ∧ Cond.instanceMethod objectInit ∈ wsT ∧ Cond.code objectInit ⟨#[0xb1]⟩ 1 none ∈ wsT := ⟨(tj1 46 rfl rfl), (tj1 17 rfl rfl), (tj1 18 rfl rfl)⟩
set_option maxRecDepth 20000 in
theorem f_X2_9 : FL RX2 9 2 0 := ⟨RX2, TX2, 10, rfl, by decide, inl_X2, Or.inl (tj1 47 rfl rfl)⟩
set_option maxRecDepth 20000 in
theorem p_X2_9 {ini : Bool} : FP RX2 9 2 0 (tyX2 0) ini := ⟨RX2, TX2, 10, tyX2, rfl, tyX2_ok, nmX2, tyX2_ok 0 (by decide), Or.inl rfl⟩
set_option maxRecDepth 20000 in
theorem f_X2_15 : FL RX2 15 2 1 := ⟨RX2, TX2, 10, rfl, by decide, inl_X2, Or.inl (tj1 50 rfl rfl)⟩
set_option maxRecDepth 20000 in
theorem p_X2_15 {ini : Bool} : FP RX2 15 2 1 (tyX2 1) ini := ⟨RX2, TX2, 10, tyX2, rfl, tyX2_ok, nmX2, tyX2_ok 1 (by decide), Or.inl rfl⟩
set_option maxRecDepth 20000 in
theorem f_X2_19 : FL RX2 19 2 2 := ⟨RX2, TX2, 10, rfl, by decide, inl_X2, Or.inl (tj1 52 rfl rfl)⟩
set_option maxRecDepth 20000 in
theorem p_X2_19 {ini : Bool} : FP RX2 19 2 2 (tyX2 2) ini := ⟨RX2, TX2, 10, tyX2, rfl, tyX2_ok, nmX2, tyX2_ok 2 (by decide), Or.inl rfl⟩
set_option maxRecDepth 20000 in
theorem f_X2_22 : FL RX2 22 2 3 := ⟨RX2, TX2, 10, rfl, by decide, inl_X2, Or.inl (tj1 54 rfl rfl)⟩
set_option maxRecDepth 20000 in
theorem p_X2_22 {ini : Bool} : FP RX2 22 2 3 (tyX2 3) ini := ⟨RX2, TX2, 10, tyX2, rfl, tyX2_ok, nmX2, tyX2_ok 3 (by decide), Or.inl rfl⟩
set_option maxRecDepth 20000 in
theorem f_X2_25 : FL RX2 25 2 4 := ⟨RX2, TX2, 10, rfl, by decide, inl_X2, Or.inl (tj1 56 rfl rfl)⟩
set_option maxRecDepth 20000 in
theorem p_X2_25 {ini : Bool} : FP RX2 25 2 4 (tyX2 4) ini := ⟨RX2, TX2, 10, tyX2, rfl, tyX2_ok, nmX2, tyX2_ok 4 (by decide), Or.inl rfl⟩
set_option maxRecDepth 20000 in
theorem f_X2_28 : FL RX2 28 2 5 := ⟨RX2, TX2, 10, rfl, by decide, inl_X2, Or.inl (tj1 60 rfl rfl)⟩
set_option maxRecDepth 20000 in
theorem p_X2_28 {ini : Bool} : FP RX2 28 2 5 (tyX2 5) ini := ⟨RX2, TX2, 10, tyX2, rfl, tyX2_ok, nmX2, tyX2_ok 5 (by decide), Or.inl rfl⟩
set_option maxRecDepth 20000 in
theorem f_X2_31 : FL RX2 31 2 6 := ⟨RX2, TX2, 10, rfl, by decide, inl_X2, Or.inl (tj1 63 rfl rfl)⟩
set_option maxRecDepth 20000 in
theorem p_X2_31 : FP RX2 31 2 6 (tyX2 6) true := ⟨RX2, TX2, 10, tyX2, rfl, tyX2_ok, nmX2, tyX2_ok 6 (by decide), Or.inr ⟨rfl, rfl, rfl, (tj1 63 rfl rfl)⟩⟩
set_option maxRecDepth 20000 in
theorem f_X2_35 : FL RX2 35 2 7 := ⟨RX2, TX2, 10, rfl, by decide, inl_X2, Or.inl (tj1 65 rfl rfl)⟩
set_option maxRecDepth 20000 in
theorem p_X2_35 : FP RX2 35 2 7 (tyX2 7) true := ⟨RX2, TX2, 10, tyX2, rfl, tyX2_ok, nmX2, tyX2_ok 7 (by decide), Or.inr ⟨rfl, rfl, rfl, (tj1 65 rfl rfl)⟩⟩
set_option maxRecDepth 20000 in
theorem f_X2_38 : FL RX2 38 2 8 := ⟨RX2, TX2, 10, rfl, by decide, inl_X2, Or.inl (tj1 67 rfl rfl)⟩
set_option maxRecDepth 20000 in
theorem p_X2_38 : FP RX2 38 2 8 (tyX2 8) true := ⟨RX2, TX2, 10, tyX2, rfl, tyX2_ok, nmX2, tyX2_ok 8 (by decide), Or.inr ⟨rfl, rfl, rfl, (tj1 67 rfl rfl)⟩⟩
set_option maxRecDepth 20000 in
theorem f_X2_41 : FL RX2 41 2 9 := ⟨RX2, TX2, 10, rfl, by decide, inl_X2, Or.inl (tj1 69 rfl rfl)⟩
set_option maxRecDepth 20000 in
theorem p_X2_41 : FP RX2 41 2 9 (tyX2 9) true := ⟨RX2, TX2, 10, tyX2, rfl, tyX2_ok, nmX2, tyX2_ok 9 (by decide), Or.inr ⟨rfl, rfl, rfl, (tj1 69 rfl rfl)⟩⟩
set_option maxRecDepth 20000 in
theorem oi_X3_1 : Cond.methodLink RX3 1 objectInit ∈ wsT ∧ Cond.instanceMethod objectInit ∈ wsT ∧ Cond.code objectInit ⟨#[0xb1]⟩ 1 none ∈ wsT := ⟨(tj1 153 rfl rfl), (tj1 17 rfl rfl), (tj1 18 rfl rfl)⟩
set_option maxRecDepth 20000 in
theorem f_X3_7 : FL RX3 7 3 2 := ⟨RX3, TX3, 3, rfl, by decide, inl_X3, Or.inl (tj1 161 rfl rfl)⟩
set_option maxRecDepth 20000 in
theorem p_X3_7 {ini : Bool} : FP RX3 7 3 2 (tyX3 2) ini := ⟨RX3, TX3, 3, tyX3, rfl, tyX3_ok, nmX3, tyX3_ok 2 (by decide), Or.inl rfl⟩
set_option maxRecDepth 20000 in
theorem ml_X3_13 : ML RX3 13 Lib.Math.max.name Lib.Math.max.code 2 := ⟨(tj1 154 rfl rfl), (tj1 155 rfl rfl), (tj1 7 rfl rfl), (tj1 156 rfl rfl)⟩
set_option maxRecDepth 20000 in
theorem f_X3_19 : FL RX3 19 3 0 := ⟨RX3, TX3, 3, rfl, by decide, inl_X3, Or.inl (tj1 157 rfl rfl)⟩
set_option maxRecDepth 20000 in
theorem p_X3_19 : FP RX3 19 3 0 (tyX3 0) true := ⟨RX3, TX3, 3, tyX3, rfl, tyX3_ok, nmX3, tyX3_ok 0 (by decide), Or.inr ⟨rfl, rfl, rfl, (tj1 157 rfl rfl)⟩⟩
set_option maxRecDepth 20000 in
theorem f_X3_23 : FL RX3 23 3 1 := ⟨RX3, TX3, 3, rfl, by decide, inl_X3, Or.inl (tj1 159 rfl rfl)⟩
set_option maxRecDepth 20000 in
theorem p_X3_23 : FP RX3 23 3 1 (tyX3 1) true := ⟨RX3, TX3, 3, tyX3, rfl, tyX3_ok, nmX3, tyX3_ok 1 (by decide), Or.inr ⟨rfl, rfl, rfl, (tj1 159 rfl rfl)⟩⟩
set_option maxRecDepth 20000 in
theorem oi_X4_3 : Cond.methodLink RX4 3 objectInit ∈ wsT ∧ Cond.instanceMethod objectInit ∈ wsT ∧ Cond.code objectInit ⟨#[0xb1]⟩ 1 none ∈ wsT := ⟨(tj1 131 rfl rfl), (tj1 17 rfl rfl), (tj1 18 rfl rfl)⟩
set_option maxRecDepth 20000 in
theorem cl_X4_9 : Cond.classLink RX4 9 RX0 ∈ wsT := (tj1 132 rfl rfl)
set_option maxRecDepth 20000 in
theorem f_X4_11 : FL RX4 11 4 0 := ⟨RX4, TX4, 3, rfl, by decide, inl_X4, Or.inl (tj1 135 rfl rfl)⟩
set_option maxRecDepth 20000 in
theorem p_X4_11 : FP RX4 11 4 0 (tyX4 0) true := ⟨RX4, TX4, 3, tyX4, rfl, tyX4_ok, nmX4, tyX4_ok 0 (by decide), Or.inr ⟨rfl, rfl, rfl, (tj1 135 rfl rfl)⟩⟩
set_option maxRecDepth 20000 in
theorem f_X4_17 : FL RX4 17 4 1 := ⟨RX4, TX4, 3, rfl, by decide, inl_X4, Or.inl (tj1 136 rfl rfl)⟩
set_option maxRecDepth 20000 in
theorem p_X4_17 {ini : Bool} : FP RX4 17 4 1 (tyX4 1) ini := ⟨RX4, TX4, 3, tyX4, rfl, tyX4_ok, nmX4, tyX4_ok 1 (by decide), Or.inl rfl⟩
set_option maxRecDepth 20000 in
theorem f_X4_21 : FL RX4 21 4 2 := ⟨RX4, TX4, 3, rfl, by decide, inl_X4, Or.inl (tj1 137 rfl rfl)⟩
set_option maxRecDepth 20000 in
theorem p_X4_21 {ini : Bool} : FP RX4 21 4 2 (tyX4 2) ini := ⟨RX4, TX4, 3, tyX4, rfl, tyX4_ok, nmX4, tyX4_ok 2 (by decide), Or.inl rfl⟩
set_option maxRecDepth 20000 in
theorem nw_X4_9 : NW RX4 9 0 tyX0 := ⟨RX0, TX0, 7, rfl, inl_X0, tyX0_ok, (tj1 132 rfl rfl), (tj1 93 rfl rfl), (tj1 4 rfl rfl)⟩
set_option maxRecDepth 20000 in
theorem l_X4_24 : CL RX4 24 yX0_init cX0_init 1 none 0 := ⟨Or.inr ⟨"BeansBox", (ns1 134 rfl rfl)⟩, (tj1 96 rfl rfl), (tj1 4 rfl rfl), by decide +kernel⟩
set_option maxRecDepth 20000 in
theorem im_X0_copy : Cond.instanceMethod yX0_copy ∈ wsT := (tj2 120 rfl rfl)
set_option maxRecDepth 20000 in
theorem se_X0_copy : Cond.selects (yX0_copy).cls yX0_copy yX0_copy ∈ wsT := tjs 23 rfl rfl
set_option maxRecDepth 20000 in
theorem l_X4_25 : CL RX4 25 yX0_copy cX0_copy 3 none 1 := ⟨Or.inr ⟨"BeansBox", (ns2 118 rfl rfl)⟩, (tj2 121 rfl rfl), (tj1 4 rfl rfl), by decide +kernel⟩
set_option maxRecDepth 20000 in
theorem ml_X4_29 : ML RX4 29 Lib.Math.min.name Lib.Math.min.code 2 := ⟨(tj2 122 rfl rfl), (tj2 35 rfl rfl), (tj1 7 rfl rfl), (tj2 36 rfl rfl)⟩
set_option maxRecDepth 20000 in
theorem oi_X5_3 : Cond.methodLink RX5 3 objectInit ∈ wsT ∧ Cond.instanceMethod objectInit ∈ wsT ∧ Cond.code objectInit ⟨#[0xb1]⟩ 1 none ∈ wsT := ⟨(tj1 24 rfl rfl), (tj1 17 rfl rfl), (tj1 18 rfl rfl)⟩
set_option maxRecDepth 20000 in
theorem f_X5_9 : FL RX5 9 5 0 := ⟨RX5, TX5, 4, rfl, by decide, inl_X5, Or.inl (tj1 25 rfl rfl)⟩
set_option maxRecDepth 20000 in
theorem p_X5_9 : FP RX5 9 5 0 (tyX5 0) true := ⟨RX5, TX5, 4, tyX5, rfl, tyX5_ok, nmX5, tyX5_ok 0 (by decide), Or.inr ⟨rfl, rfl, rfl, (tj1 25 rfl rfl)⟩⟩
set_option maxRecDepth 20000 in
theorem f_X5_15 : FL RX5 15 5 1 := ⟨RX5, TX5, 4, rfl, by decide, inl_X5, Or.inl (tj1 26 rfl rfl)⟩
set_option maxRecDepth 20000 in
theorem p_X5_15 {ini : Bool} : FP RX5 15 5 1 (tyX5 1) ini := ⟨RX5, TX5, 4, tyX5, rfl, tyX5_ok, nmX5, tyX5_ok 1 (by decide), Or.inl rfl⟩
set_option maxRecDepth 20000 in
theorem f_X5_19 : FL RX5 19 5 2 := ⟨RX5, TX5, 4, rfl, by decide, inl_X5, Or.inl (tj1 28 rfl rfl)⟩
set_option maxRecDepth 20000 in
theorem p_X5_19 {ini : Bool} : FP RX5 19 5 2 (tyX5 2) ini := ⟨RX5, TX5, 4, tyX5, rfl, tyX5_ok, nmX5, tyX5_ok 2 (by decide), Or.inl rfl⟩
set_option maxRecDepth 20000 in
theorem f_X5_22 : FL RX5 22 5 3 := ⟨RX5, TX5, 4, rfl, by decide, inl_X5, Or.inl (tj1 30 rfl rfl)⟩
set_option maxRecDepth 20000 in
theorem p_X5_22 {ini : Bool} : FP RX5 22 5 3 (tyX5 3) ini := ⟨RX5, TX5, 4, tyX5, rfl, tyX5_ok, nmX5, tyX5_ok 3 (by decide), Or.inl rfl⟩
set_option maxRecDepth 20000 in
theorem im_X2_empty : Cond.instanceMethod yX2_empty ∈ wsT := (tj2 4 rfl rfl)
set_option maxRecDepth 20000 in
theorem se_X2_empty : Cond.selects (yX2_empty).cls yX2_empty yX2_empty ∈ wsT := tjs 2 rfl rfl
set_option maxRecDepth 20000 in
theorem l_X5_25 : CL RX5 25 yX2_empty cX2_empty 1 none 0 := ⟨Or.inr ⟨"BeansBox", (ns2 2 rfl rfl)⟩, (tj2 5 rfl rfl), (tj1 3 rfl rfl), by decide +kernel⟩
set_option maxRecDepth 20000 in
theorem im_X5_skipBlanks : Cond.instanceMethod yX5_skipBlanks ∈ wsT := (tj2 8 rfl rfl)
set_option maxRecDepth 20000 in
theorem se_X5_skipBlanks : Cond.selects (yX5_skipBlanks).cls yX5_skipBlanks yX5_skipBlanks ∈ wsT := tjs 3 rfl rfl
set_option maxRecDepth 20000 in
theorem l_X5_30 : CL RX5 30 yX5_skipBlanks cX5_skipBlanks 1 none 0 := ⟨Or.inl (tj2 6 rfl rfl), (tj2 9 rfl rfl), (tj1 2 rfl rfl), by decide +kernel⟩
set_option maxRecDepth 20000 in
theorem im_X5_readClause : Cond.instanceMethod yX5_readClause ∈ wsT := (tj2 12 rfl rfl)
set_option maxRecDepth 20000 in
theorem se_X5_readClause : Cond.selects (yX5_readClause).cls yX5_readClause yX5_readClause ∈ wsT := tjs 4 rfl rfl
set_option maxRecDepth 20000 in
theorem l_X5_33 : CL RX5 33 yX5_readClause cX5_readClause 3 none 1 := ⟨Or.inl (tj2 10 rfl rfl), (tj2 13 rfl rfl), (tj1 2 rfl rfl), by decide +kernel⟩
set_option maxRecDepth 20000 in
theorem im_X5_letterHere : Cond.instanceMethod yX5_letterHere ∈ wsT := (tj2 16 rfl rfl)
set_option maxRecDepth 20000 in
theorem se_X5_letterHere : Cond.selects (yX5_letterHere).cls yX5_letterHere yX5_letterHere ∈ wsT := tjs 5 rfl rfl
set_option maxRecDepth 20000 in
theorem l_X5_37 : CL RX5 37 yX5_letterHere cX5_letterHere 1 (some .int) 0 := ⟨Or.inl (tj2 14 rfl rfl), (tj2 17 rfl rfl), (tj1 2 rfl rfl), by decide +kernel⟩
set_option maxRecDepth 20000 in
theorem f_X5_41 : FL RX5 41 2 0 := ⟨RX2, TX2, 10, rfl, by decide, inl_X2, Or.inr ⟨"BeansBox", (ns1 48 rfl rfl)⟩⟩
set_option maxRecDepth 20000 in
theorem f_X5_45 : FL RX5 45 2 4 := ⟨RX2, TX2, 10, rfl, by decide, inl_X2, Or.inr ⟨"BeansBox", (ns1 59 rfl rfl)⟩⟩
set_option maxRecDepth 20000 in
theorem f_X5_48 : FL RX5 48 2 5 := ⟨RX2, TX2, 10, rfl, by decide, inl_X2, Or.inr ⟨"BeansBox", (ns1 61 rfl rfl)⟩⟩
set_option maxRecDepth 20000 in
theorem im_X5_stop : Cond.instanceMethod yX5_stop ∈ wsT := (tj2 20 rfl rfl)
set_option maxRecDepth 20000 in
theorem se_X5_stop : Cond.selects (yX5_stop).cls yX5_stop yX5_stop ∈ wsT := tjs 6 rfl rfl
set_option maxRecDepth 20000 in
theorem l_X5_51 : CL RX5 51 yX5_stop cX5_stop 3 none 2 := ⟨Or.inl (tj2 18 rfl rfl), (tj2 21 rfl rfl), (tj1 2 rfl rfl), by decide +kernel⟩
set_option maxRecDepth 20000 in
theorem im_X5_readBox : Cond.instanceMethod yX5_readBox ∈ wsT := (tj2 24 rfl rfl)
set_option maxRecDepth 20000 in
theorem se_X5_readBox : Cond.selects (yX5_readBox).cls yX5_readBox yX5_readBox ∈ wsT := tjs 7 rfl rfl
set_option maxRecDepth 20000 in
theorem l_X5_55 : CL RX5 55 yX5_readBox cX5_readBox 5 none 1 := ⟨Or.inl (tj2 22 rfl rfl), (tj2 25 rfl rfl), (tj1 2 rfl rfl), by decide +kernel⟩
set_option maxRecDepth 20000 in
theorem im_X5_readWord : Cond.instanceMethod yX5_readWord ∈ wsT := (tj2 47 rfl rfl)
set_option maxRecDepth 20000 in
theorem se_X5_readWord : Cond.selects (yX5_readWord).cls yX5_readWord yX5_readWord ∈ wsT := tjs 11 rfl rfl
set_option maxRecDepth 20000 in
theorem l_X5_58 : CL RX5 58 yX5_readWord cX5_readWord 5 none 1 := ⟨Or.inl (tj2 45 rfl rfl), (tj2 48 rfl rfl), (tj1 2 rfl rfl), by decide +kernel⟩
set_option maxRecDepth 20000 in
theorem im_X5_readVoice : Cond.instanceMethod yX5_readVoice ∈ wsT := (tj2 55 rfl rfl)
set_option maxRecDepth 20000 in
theorem se_X5_readVoice : Cond.selects (yX5_readVoice).cls yX5_readVoice yX5_readVoice ∈ wsT := tjs 13 rfl rfl
set_option maxRecDepth 20000 in
theorem l_X5_61 : CL RX5 61 yX5_readVoice cX5_readVoice 3 none 1 := ⟨Or.inl (tj2 53 rfl rfl), (tj2 56 rfl rfl), (tj1 2 rfl rfl), by decide +kernel⟩
set_option maxRecDepth 20000 in
theorem im_X5_readNumber : Cond.instanceMethod yX5_readNumber ∈ wsT := (tj2 28 rfl rfl)
set_option maxRecDepth 20000 in
theorem se_X5_readNumber : Cond.selects (yX5_readNumber).cls yX5_readNumber yX5_readNumber ∈ wsT := tjs 8 rfl rfl
set_option maxRecDepth 20000 in
theorem l_X5_64 : CL RX5 64 yX5_readNumber cX5_readNumber 4 (some .int) 1 := ⟨Or.inl (tj2 26 rfl rfl), (tj2 29 rfl rfl), (tj1 2 rfl rfl), by decide +kernel⟩
set_option maxRecDepth 20000 in
theorem im_X5_readEnd : Cond.instanceMethod yX5_readEnd ∈ wsT := (tj2 39 rfl rfl)
set_option maxRecDepth 20000 in
theorem se_X5_readEnd : Cond.selects (yX5_readEnd).cls yX5_readEnd yX5_readEnd ∈ wsT := tjs 9 rfl rfl
set_option maxRecDepth 20000 in
theorem l_X5_68 : CL RX5 68 yX5_readEnd cX5_readEnd 1 none 0 := ⟨Or.inl (tj2 37 rfl rfl), (tj2 40 rfl rfl), (tj1 2 rfl rfl), by decide +kernel⟩
set_option maxRecDepth 20000 in
theorem im_X2_setBox : Cond.instanceMethod yX2_setBox ∈ wsT := (tj2 43 rfl rfl)
set_option maxRecDepth 20000 in
theorem se_X2_setBox : Cond.selects (yX2_setBox).cls yX2_setBox yX2_setBox ∈ wsT := tjs 10 rfl rfl
set_option maxRecDepth 20000 in
theorem l_X5_71 : CL RX5 71 yX2_setBox cX2_setBox 4 none 3 := ⟨Or.inr ⟨"BeansBox", (ns2 41 rfl rfl)⟩, (tj2 44 rfl rfl), (tj1 3 rfl rfl), by decide +kernel⟩
set_option maxRecDepth 20000 in
theorem im_X2_addWord : Cond.instanceMethod yX2_addWord ∈ wsT := (tj2 51 rfl rfl)
set_option maxRecDepth 20000 in
theorem se_X2_addWord : Cond.selects (yX2_addWord).cls yX2_addWord yX2_addWord ∈ wsT := tjs 12 rfl rfl
set_option maxRecDepth 20000 in
theorem l_X5_75 : CL RX5 75 yX2_addWord cX2_addWord 4 none 3 := ⟨Or.inr ⟨"BeansBox", (ns2 49 rfl rfl)⟩, (tj2 52 rfl rfl), (tj1 3 rfl rfl), by decide +kernel⟩
set_option maxRecDepth 20000 in
theorem im_X2_addVoice : Cond.instanceMethod yX2_addVoice ∈ wsT := (tj2 59 rfl rfl)
set_option maxRecDepth 20000 in
theorem se_X2_addVoice : Cond.selects (yX2_addVoice).cls yX2_addVoice yX2_addVoice ∈ wsT := tjs 14 rfl rfl
set_option maxRecDepth 20000 in
theorem l_X5_78 : CL RX5 78 yX2_addVoice cX2_addVoice 2 none 1 := ⟨Or.inr ⟨"BeansBox", (ns2 57 rfl rfl)⟩, (tj2 60 rfl rfl), (tj1 3 rfl rfl), by decide +kernel⟩
set_option maxRecDepth 20000 in
theorem st_X5_isFigure : Cond.static yX5_isFigure ∈ wsT := (tj2 31 rfl rfl)
set_option maxRecDepth 20000 in
theorem l_X5_82 : CL RX5 82 yX5_isFigure cX5_isFigure 1 (some .boolean) 1 := ⟨Or.inl (tj2 30 rfl rfl), (tj2 32 rfl rfl), (tj1 2 rfl rfl), by decide +kernel⟩
set_option maxRecDepth 20000 in
theorem k_X5_86 : Cond.constant RX5 86 (1000000) ∈ wsT := (tj2 33 rfl rfl)
set_option maxRecDepth 20000 in
theorem ml_X5_87 : ML RX5 87 Lib.Math.min.name Lib.Math.min.code 2 := ⟨(tj2 34 rfl rfl), (tj2 35 rfl rfl), (tj1 7 rfl rfl), (tj2 36 rfl rfl)⟩
set_option maxRecDepth 20000 in
theorem oi_X6_1 : Cond.methodLink RX6 1 objectInit ∈ wsT ∧ Cond.instanceMethod objectInit ∈ wsT ∧ Cond.code objectInit ⟨#[0xb1]⟩ 1 none ∈ wsT := ⟨(tj1 16 rfl rfl), (tj1 17 rfl rfl), (tj1 18 rfl rfl)⟩
set_option maxRecDepth 20000 in
theorem nw_X6_7 : NW RX6 7 5 tyX5 := ⟨RX5, TX5, 4, rfl, inl_X5, tyX5_ok, (tj1 19 rfl rfl), (tj1 20 rfl rfl), (tj1 2 rfl rfl)⟩
set_option maxRecDepth 20000 in
theorem im_X5_init : Cond.instanceMethod yX5_init ∈ wsT := (tj1 22 rfl rfl)
set_option maxRecDepth 20000 in
theorem l_X6_9 : CL RX6 9 yX5_init cX5_init 1 none 0 := ⟨Or.inr ⟨"BeansBox", (ns1 21 rfl rfl)⟩, (tj1 23 rfl rfl), (tj1 2 rfl rfl), by decide +kernel⟩
set_option maxRecDepth 20000 in
theorem f_X6_10 : FL RX6 10 6 0 := ⟨RX6, TX6, 11, rfl, by decide, inl_X6, Or.inl (tj1 190 rfl rfl)⟩
set_option maxRecDepth 20000 in
theorem p_X6_10 : FP RX6 10 6 0 (tyX6 0) true := ⟨RX6, TX6, 11, tyX6, rfl, tyX6_ok, nmX6, tyX6_ok 0 (by decide), Or.inr ⟨rfl, rfl, rfl, (tj1 190 rfl rfl)⟩⟩
set_option maxRecDepth 20000 in
theorem f_X6_16 : FL RX6 16 6 1 := ⟨RX6, TX6, 11, rfl, by decide, inl_X6, Or.inl (tj1 191 rfl rfl)⟩
set_option maxRecDepth 20000 in
theorem p_X6_16 {ini : Bool} : FP RX6 16 6 1 (tyX6 1) ini := ⟨RX6, TX6, 11, tyX6, rfl, tyX6_ok, nmX6, tyX6_ok 1 (by decide), Or.inl rfl⟩
set_option maxRecDepth 20000 in
theorem nw_X6_20 : NW RX6 20 2 tyX2 := ⟨RX2, TX2, 10, rfl, inl_X2, tyX2_ok, (tj1 41 rfl rfl), (tj1 42 rfl rfl), (tj1 3 rfl rfl)⟩
set_option maxRecDepth 20000 in
theorem im_X2_init : Cond.instanceMethod yX2_init ∈ wsT := (tj1 44 rfl rfl)
set_option maxRecDepth 20000 in
theorem l_X6_22 : CL RX6 22 yX2_init cX2_init 1 none 0 := ⟨Or.inr ⟨"BeansBox", (ns1 43 rfl rfl)⟩, (tj1 45 rfl rfl), (tj1 3 rfl rfl), by decide +kernel⟩
set_option maxRecDepth 20000 in
theorem f_X6_23 : FL RX6 23 6 2 := ⟨RX6, TX6, 11, rfl, by decide, inl_X6, Or.inl (tj1 192 rfl rfl)⟩
set_option maxRecDepth 20000 in
theorem p_X6_23 {ini : Bool} : FP RX6 23 6 2 (tyX6 2) ini := ⟨RX6, TX6, 11, tyX6, rfl, tyX6_ok, nmX6, tyX6_ok 2 (by decide), Or.inl rfl⟩
set_option maxRecDepth 20000 in
theorem f_X6_27 : FL RX6 27 6 3 := ⟨RX6, TX6, 11, rfl, by decide, inl_X6, Or.inl (tj1 193 rfl rfl)⟩
set_option maxRecDepth 20000 in
theorem p_X6_27 {ini : Bool} : FP RX6 27 6 3 (tyX6 3) ini := ⟨RX6, TX6, 11, tyX6, rfl, tyX6_ok, nmX6, tyX6_ok 3 (by decide), Or.inl rfl⟩
set_option maxRecDepth 20000 in
theorem nw_X6_30 : NW RX6 30 0 tyX0 := ⟨RX0, TX0, 7, rfl, inl_X0, tyX0_ok, (tj1 92 rfl rfl), (tj1 93 rfl rfl), (tj1 4 rfl rfl)⟩
set_option maxRecDepth 20000 in
theorem l_X6_32 : CL RX6 32 yX0_init cX0_init 1 none 0 := ⟨Or.inr ⟨"BeansBox", (ns1 94 rfl rfl)⟩, (tj1 96 rfl rfl), (tj1 4 rfl rfl), by decide +kernel⟩
set_option maxRecDepth 20000 in
theorem f_X6_33 : FL RX6 33 6 4 := ⟨RX6, TX6, 11, rfl, by decide, inl_X6, Or.inl (tj1 194 rfl rfl)⟩
set_option maxRecDepth 20000 in
theorem p_X6_33 : FP RX6 33 6 4 (tyX6 4) true := ⟨RX6, TX6, 11, tyX6, rfl, tyX6_ok, nmX6, tyX6_ok 4 (by decide), Or.inr ⟨rfl, rfl, rfl, (tj1 194 rfl rfl)⟩⟩
set_option maxRecDepth 20000 in
theorem f_X6_37 : FL RX6 37 6 5 := ⟨RX6, TX6, 11, rfl, by decide, inl_X6, Or.inl (tj1 195 rfl rfl)⟩
set_option maxRecDepth 20000 in
theorem p_X6_37 : FP RX6 37 6 5 (tyX6 5) true := ⟨RX6, TX6, 11, tyX6, rfl, tyX6_ok, nmX6, tyX6_ok 5 (by decide), Or.inr ⟨rfl, rfl, rfl, (tj1 195 rfl rfl)⟩⟩
set_option maxRecDepth 20000 in
theorem nw_X6_40 : NW RX6 40 4 tyX4 := ⟨RX4, TX4, 3, rfl, inl_X4, tyX4_ok, (tj1 126 rfl rfl), (tj1 127 rfl rfl), (tj1 5 rfl rfl)⟩
set_option maxRecDepth 20000 in
theorem im_X4_init : Cond.instanceMethod yX4_init ∈ wsT := (tj1 129 rfl rfl)
set_option maxRecDepth 20000 in
theorem l_X6_42 : CL RX6 42 yX4_init cX4_init 2 none 0 := ⟨Or.inr ⟨"BeansBox", (ns1 128 rfl rfl)⟩, (tj1 130 rfl rfl), (tj1 5 rfl rfl), by decide +kernel⟩
set_option maxRecDepth 20000 in
theorem f_X6_43 : FL RX6 43 6 6 := ⟨RX6, TX6, 11, rfl, by decide, inl_X6, Or.inl (tj1 196 rfl rfl)⟩
set_option maxRecDepth 20000 in
theorem p_X6_43 : FP RX6 43 6 6 (tyX6 6) true := ⟨RX6, TX6, 11, tyX6, rfl, tyX6_ok, nmX6, tyX6_ok 6 (by decide), Or.inr ⟨rfl, rfl, rfl, (tj1 196 rfl rfl)⟩⟩
set_option maxRecDepth 20000 in
theorem cl_X6_47 : Cond.classLink RX6 47 RX1 ∈ wsT := (tj1 146 rfl rfl)
set_option maxRecDepth 20000 in
theorem f_X6_49 : FL RX6 49 6 7 := ⟨RX6, TX6, 11, rfl, by decide, inl_X6, Or.inl (tj1 197 rfl rfl)⟩
set_option maxRecDepth 20000 in
theorem p_X6_49 : FP RX6 49 6 7 (tyX6 7) true := ⟨RX6, TX6, 11, tyX6, rfl, tyX6_ok, nmX6, tyX6_ok 7 (by decide), Or.inr ⟨rfl, rfl, rfl, (tj1 197 rfl rfl)⟩⟩
set_option maxRecDepth 20000 in
theorem f_X6_53 : FL RX6 53 6 8 := ⟨RX6, TX6, 11, rfl, by decide, inl_X6, Or.inl (tj1 198 rfl rfl)⟩
set_option maxRecDepth 20000 in
theorem p_X6_53 {ini : Bool} : FP RX6 53 6 8 (tyX6 8) ini := ⟨RX6, TX6, 11, tyX6, rfl, tyX6_ok, nmX6, tyX6_ok 8 (by decide), Or.inl rfl⟩
set_option maxRecDepth 20000 in
theorem nw_X6_56 : NW RX6 56 3 tyX3 := ⟨RX3, TX3, 3, rfl, inl_X3, tyX3_ok, (tj1 148 rfl rfl), (tj1 149 rfl rfl), (tj1 6 rfl rfl)⟩
set_option maxRecDepth 20000 in
theorem im_X3_init : Cond.instanceMethod yX3_init ∈ wsT := (tj1 151 rfl rfl)
set_option maxRecDepth 20000 in
theorem l_X6_58 : CL RX6 58 yX3_init cX3_init 3 none 1 := ⟨Or.inr ⟨"BeansBox", (ns1 150 rfl rfl)⟩, (tj1 152 rfl rfl), (tj1 6 rfl rfl), by decide +kernel⟩
set_option maxRecDepth 20000 in
theorem f_X6_61 : FL RX6 61 6 9 := ⟨RX6, TX6, 11, rfl, by decide, inl_X6, Or.inl (tj1 199 rfl rfl)⟩
set_option maxRecDepth 20000 in
theorem p_X6_61 : FP RX6 61 6 9 (tyX6 9) true := ⟨RX6, TX6, 11, tyX6, rfl, tyX6_ok, nmX6, tyX6_ok 9 (by decide), Or.inr ⟨rfl, rfl, rfl, (tj1 199 rfl rfl)⟩⟩
set_option maxRecDepth 20000 in
theorem f_X6_65 : FL RX6 65 6 10 := ⟨RX6, TX6, 11, rfl, by decide, inl_X6, Or.inl (tj1 200 rfl rfl)⟩
set_option maxRecDepth 20000 in
theorem p_X6_65 : FP RX6 65 6 10 (tyX6 10) true := ⟨RX6, TX6, 11, tyX6, rfl, tyX6_ok, nmX6, tyX6_ok 10 (by decide), Or.inr ⟨rfl, rfl, rfl, (tj1 200 rfl rfl)⟩⟩
set_option maxRecDepth 20000 in
theorem nw_X6_47 : NW RX6 47 1 tyX1 := ⟨RX1, TX1, 3, rfl, inl_X1, tyX1_ok, (tj1 146 rfl rfl), (tj1 170 rfl rfl), (tj1 8 rfl rfl)⟩
set_option maxRecDepth 20000 in
theorem im_X1_init : Cond.instanceMethod yX1_init ∈ wsT := (tj1 172 rfl rfl)
set_option maxRecDepth 20000 in
theorem l_X6_68 : CL RX6 68 yX1_init cX1_init 1 none 0 := ⟨Or.inr ⟨"BeansBox", (ns1 171 rfl rfl)⟩, (tj1 173 rfl rfl), (tj1 8 rfl rfl), by decide +kernel⟩
set_option maxRecDepth 20000 in
theorem k_X6_69 : Cond.constant RX6 69 (-1000000002) ∈ wsT := (tj1 228 rfl rfl)
set_option maxRecDepth 20000 in
theorem im_X5_append : Cond.instanceMethod yX5_append ∈ wsT := (tj1 231 rfl rfl)
set_option maxRecDepth 20000 in
theorem se_X5_append : Cond.selects (yX5_append).cls yX5_append yX5_append ∈ wsT := tjs 0 rfl rfl
set_option maxRecDepth 20000 in
theorem l_X6_70 : CL RX6 70 yX5_append cX5_append 2 (some .boolean) 1 := ⟨Or.inr ⟨"BeansBox", (ns1 229 rfl rfl)⟩, (tj1 232 rfl rfl), (tj1 2 rfl rfl), by decide +kernel⟩
set_option maxRecDepth 20000 in
theorem f_X6_74 : FL RX6 74 5 1 := ⟨RX5, TX5, 4, rfl, by decide, inl_X5, Or.inr ⟨"BeansBox", (ns1 27 rfl rfl)⟩⟩
set_option maxRecDepth 20000 in
theorem k_X6_77 : Cond.constant RX6 77 (-1000000004) ∈ wsT := (tj1 233 rfl rfl)
set_option maxRecDepth 20000 in
theorem im_X5_readInto : Cond.instanceMethod yX5_readInto ∈ wsT := (tj2 0 rfl rfl)
set_option maxRecDepth 20000 in
theorem se_X5_readInto : Cond.selects (yX5_readInto).cls yX5_readInto yX5_readInto ∈ wsT := tjs 1 rfl rfl
set_option maxRecDepth 20000 in
theorem l_X6_78 : CL RX6 78 yX5_readInto cX5_readInto 3 (some .int) 1 := ⟨Or.inr ⟨"BeansBox", (ns1 238 rfl rfl)⟩, (tj2 1 rfl rfl), (tj1 2 rfl rfl), by decide +kernel⟩
set_option maxRecDepth 20000 in
theorem f_X6_82 : FL RX6 82 5 2 := ⟨RX5, TX5, 4, rfl, by decide, inl_X5, Or.inr ⟨"BeansBox", (ns1 29 rfl rfl)⟩⟩
set_option maxRecDepth 20000 in
theorem im_X5_forget : Cond.instanceMethod yX5_forget ∈ wsT := (tj2 63 rfl rfl)
set_option maxRecDepth 20000 in
theorem se_X5_forget : Cond.selects (yX5_forget).cls yX5_forget yX5_forget ∈ wsT := tjs 15 rfl rfl
set_option maxRecDepth 20000 in
theorem l_X6_85 : CL RX6 85 yX5_forget cX5_forget 1 none 0 := ⟨Or.inr ⟨"BeansBox", (ns2 61 rfl rfl)⟩, (tj2 64 rfl rfl), (tj1 2 rfl rfl), by decide +kernel⟩
set_option maxRecDepth 20000 in
theorem im_X0_begin : Cond.instanceMethod yX0_begin ∈ wsT := (tj2 67 rfl rfl)
set_option maxRecDepth 20000 in
theorem se_X0_begin : Cond.selects (yX0_begin).cls yX0_begin yX0_begin ∈ wsT := tjs 16 rfl rfl
set_option maxRecDepth 20000 in
theorem l_X6_88 : CL RX6 88 yX0_begin cX0_begin 3 none 1 := ⟨Or.inr ⟨"BeansBox", (ns2 65 rfl rfl)⟩, (tj2 68 rfl rfl), (tj1 4 rfl rfl), by decide +kernel⟩
set_option maxRecDepth 20000 in
theorem im_X4_clear : Cond.instanceMethod yX4_clear ∈ wsT := (tj2 71 rfl rfl)
set_option maxRecDepth 20000 in
theorem se_X4_clear : Cond.selects (yX4_clear).cls yX4_clear yX4_clear ∈ wsT := tjs 17 rfl rfl
set_option maxRecDepth 20000 in
theorem l_X6_92 : CL RX6 92 yX4_clear cX4_clear 1 none 0 := ⟨Or.inr ⟨"BeansBox", (ns2 69 rfl rfl)⟩, (tj2 72 rfl rfl), (tj1 5 rfl rfl), by decide +kernel⟩
set_option maxRecDepth 20000 in
theorem f_X6_95 : FL RX6 95 1 0 := ⟨RX1, TX1, 3, rfl, by decide, inl_X1, Or.inr ⟨"BeansBox", (ns1 178 rfl rfl)⟩⟩
set_option maxRecDepth 20000 in
theorem p_X6_95 {ini : Bool} : FP RX6 95 1 0 (tyX1 0) ini := ⟨RX1, TX1, 3, tyX1, rfl, tyX1_ok, nmX1, tyX1_ok 0 (by decide), Or.inl rfl⟩
set_option maxRecDepth 20000 in
theorem im_X3_clear : Cond.instanceMethod yX3_clear ∈ wsT := (tj2 75 rfl rfl)
set_option maxRecDepth 20000 in
theorem se_X3_clear : Cond.selects (yX3_clear).cls yX3_clear yX3_clear ∈ wsT := tjs 18 rfl rfl
set_option maxRecDepth 20000 in
theorem l_X6_99 : CL RX6 99 yX3_clear cX3_clear 1 none 0 := ⟨Or.inr ⟨"BeansBox", (ns2 73 rfl rfl)⟩, (tj2 76 rfl rfl), (tj1 6 rfl rfl), by decide +kernel⟩
set_option maxRecDepth 20000 in
theorem f_X6_100 : FL RX6 100 2 4 := ⟨RX2, TX2, 10, rfl, by decide, inl_X2, Or.inr ⟨"BeansBox", (ns1 58 rfl rfl)⟩⟩
set_option maxRecDepth 20000 in
theorem f_X6_103 : FL RX6 103 2 1 := ⟨RX2, TX2, 10, rfl, by decide, inl_X2, Or.inr ⟨"BeansBox", (ns1 51 rfl rfl)⟩⟩
set_option maxRecDepth 20000 in
theorem f_X6_106 : FL RX6 106 2 2 := ⟨RX2, TX2, 10, rfl, by decide, inl_X2, Or.inr ⟨"BeansBox", (ns1 53 rfl rfl)⟩⟩
set_option maxRecDepth 20000 in
theorem f_X6_109 : FL RX6 109 2 3 := ⟨RX2, TX2, 10, rfl, by decide, inl_X2, Or.inr ⟨"BeansBox", (ns1 55 rfl rfl)⟩⟩
set_option maxRecDepth 20000 in
theorem f_X6_112 : FL RX6 112 2 5 := ⟨RX2, TX2, 10, rfl, by decide, inl_X2, Or.inr ⟨"BeansBox", (ns1 62 rfl rfl)⟩⟩
set_option maxRecDepth 20000 in
theorem f_X6_115 : FL RX6 115 0 5 := ⟨RX0, TX0, 7, rfl, by decide, inl_X0, Or.inr ⟨"BeansBox", (ns1 108 rfl rfl)⟩⟩
set_option maxRecDepth 20000 in
theorem f_X6_118 : FL RX6 118 0 4 := ⟨RX0, TX0, 7, rfl, by decide, inl_X0, Or.inr ⟨"BeansBox", (ns1 106 rfl rfl)⟩⟩
set_option maxRecDepth 20000 in
theorem f_X6_121 : FL RX6 121 0 6 := ⟨RX0, TX0, 7, rfl, by decide, inl_X0, Or.inr ⟨"BeansBox", (ns1 110 rfl rfl)⟩⟩
set_option maxRecDepth 20000 in
theorem im_X0_allOnList : Cond.instanceMethod yX0_allOnList ∈ wsT := (tj2 87 rfl rfl)
set_option maxRecDepth 20000 in
theorem se_X0_allOnList : Cond.selects (yX0_allOnList).cls yX0_allOnList yX0_allOnList ∈ wsT := tjs 19 rfl rfl
set_option maxRecDepth 20000 in
theorem l_X6_123 : CL RX6 123 yX0_allOnList cX0_allOnList 3 (some .int) 0 := ⟨Or.inr ⟨"BeansBox", (ns2 85 rfl rfl)⟩, (tj2 88 rfl rfl), (tj1 4 rfl rfl), by decide +kernel⟩
set_option maxRecDepth 20000 in
theorem f_X6_127 : FL RX6 127 3 2 := ⟨RX3, TX3, 3, rfl, by decide, inl_X3, Or.inr ⟨"BeansBox", (ns1 162 rfl rfl)⟩⟩
set_option maxRecDepth 20000 in
theorem f_X6_130 : FL RX6 130 4 2 := ⟨RX4, TX4, 3, rfl, by decide, inl_X4, Or.inr ⟨"BeansBox", (ns1 138 rfl rfl)⟩⟩
set_option maxRecDepth 20000 in
theorem im_X6_isWord : Cond.instanceMethod yX6_isWord ∈ wsT := (tj2 95 rfl rfl)
set_option maxRecDepth 20000 in
theorem se_X6_isWord : Cond.selects (yX6_isWord).cls yX6_isWord yX6_isWord ∈ wsT := tjs 20 rfl rfl
set_option maxRecDepth 20000 in
theorem l_X6_131 : CL RX6 131 yX6_isWord cX6_isWord 2 (some .boolean) 1 := ⟨Or.inl (tj2 93 rfl rfl), (tj2 96 rfl rfl), (tj1 1 rfl rfl), by decide +kernel⟩
set_option maxRecDepth 20000 in
theorem k_X6_134 : Cond.constant RX6 134 (-1000000001) ∈ wsT := (tj2 97 rfl rfl)
set_option maxRecDepth 20000 in
theorem f_X6_135 : FL RX6 135 0 1 := ⟨RX0, TX0, 7, rfl, by decide, inl_X0, Or.inr ⟨"BeansBox", (ns1 100 rfl rfl)⟩⟩
set_option maxRecDepth 20000 in
theorem f_X6_139 : FL RX6 139 0 2 := ⟨RX0, TX0, 7, rfl, by decide, inl_X0, Or.inr ⟨"BeansBox", (ns1 102 rfl rfl)⟩⟩
set_option maxRecDepth 20000 in
theorem f_X6_142 : FL RX6 142 2 8 := ⟨RX2, TX2, 10, rfl, by decide, inl_X2, Or.inr ⟨"BeansBox", (ns1 68 rfl rfl)⟩⟩
set_option maxRecDepth 20000 in
theorem f_X6_145 : FL RX6 145 0 3 := ⟨RX0, TX0, 7, rfl, by decide, inl_X0, Or.inr ⟨"BeansBox", (ns1 104 rfl rfl)⟩⟩
set_option maxRecDepth 20000 in
theorem im_X6_isVoice : Cond.instanceMethod yX6_isVoice ∈ wsT := (tj2 104 rfl rfl)
set_option maxRecDepth 20000 in
theorem se_X6_isVoice : Cond.selects (yX6_isVoice).cls yX6_isVoice yX6_isVoice ∈ wsT := tjs 21 rfl rfl
set_option maxRecDepth 20000 in
theorem l_X6_148 : CL RX6 148 yX6_isVoice cX6_isVoice 2 (some .boolean) 1 := ⟨Or.inl (tj2 102 rfl rfl), (tj2 105 rfl rfl), (tj1 1 rfl rfl), by decide +kernel⟩
set_option maxRecDepth 20000 in
theorem f_X6_151 : FL RX6 151 2 9 := ⟨RX2, TX2, 10, rfl, by decide, inl_X2, Or.inr ⟨"BeansBox", (ns1 70 rfl rfl)⟩⟩
set_option maxRecDepth 20000 in
theorem st_X6_isSound : Cond.static yX6_isSound ∈ wsT := (tj2 111 rfl rfl)
set_option maxRecDepth 20000 in
theorem l_X6_154 : CL RX6 154 yX6_isSound cX6_isSound 1 (some .boolean) 1 := ⟨Or.inl (tj2 110 rfl rfl), (tj2 112 rfl rfl), (tj1 1 rfl rfl), by decide +kernel⟩
set_option maxRecDepth 20000 in
theorem k_X6_157 : Cond.constant RX6 157 (-1000000003) ∈ wsT := (tj2 113 rfl rfl)
set_option maxRecDepth 20000 in
theorem im_X4_push : Cond.instanceMethod yX4_push ∈ wsT := (tj2 116 rfl rfl)
set_option maxRecDepth 20000 in
theorem se_X4_push : Cond.selects (yX4_push).cls yX4_push yX4_push ∈ wsT := tjs 22 rfl rfl
set_option maxRecDepth 20000 in
theorem l_X6_158 : CL RX6 158 yX4_push cX4_push 2 none 1 := ⟨Or.inr ⟨"BeansBox", (ns2 114 rfl rfl)⟩, (tj2 117 rfl rfl), (tj1 5 rfl rfl), by decide +kernel⟩
set_option maxRecDepth 20000 in
theorem im_X6_takeIn : Cond.instanceMethod yX6_takeIn ∈ wsT := (tj2 125 rfl rfl)
set_option maxRecDepth 20000 in
theorem se_X6_takeIn : Cond.selects (yX6_takeIn).cls yX6_takeIn yX6_takeIn ∈ wsT := tjs 24 rfl rfl
set_option maxRecDepth 20000 in
theorem l_X6_162 : CL RX6 162 yX6_takeIn cX6_takeIn 3 (some .int) 1 := ⟨Or.inl (tj2 123 rfl rfl), (tj2 126 rfl rfl), (tj1 1 rfl rfl), by decide +kernel⟩
set_option maxRecDepth 20000 in
theorem l_X6_166 : CL RX6 166 yX0_correctTo cX0_correctTo 2 none 1 := ⟨Or.inr ⟨"BeansBox", (ns2 172 rfl rfl)⟩, (tj2 175 rfl rfl), (tj1 4 rfl rfl), by decide +kernel⟩
set_option maxRecDepth 20000 in
theorem l_X6_169 : CL RX6 169 yX0_confirm cX0_confirm 1 none 0 := ⟨Or.inr ⟨"BeansBox", (ns2 181 rfl rfl)⟩, (tj2 184 rfl rfl), (tj1 4 rfl rfl), by decide +kernel⟩
set_option maxRecDepth 20000 in
theorem l_X6_172 : CL RX6 172 yX6_apart cX6_apart 2 (some .int) 2 := ⟨Or.inl (tj2 189 rfl rfl), (tj2 145 rfl rfl), (tj1 1 rfl rfl), by decide +kernel⟩
set_option maxRecDepth 20000 in
theorem f_X6_176 : FL RX6 176 2 0 := ⟨RX2, TX2, 10, rfl, by decide, inl_X2, Or.inr ⟨"BeansBox", (ns1 49 rfl rfl)⟩⟩
set_option maxRecDepth 20000 in
theorem im_X6_draw : Cond.instanceMethod yX6_draw ∈ wsT := (tj2 196 rfl rfl)
set_option maxRecDepth 20000 in
theorem se_X6_draw : Cond.selects (yX6_draw).cls yX6_draw yX6_draw ∈ wsT := tjs 35 rfl rfl
set_option maxRecDepth 20000 in
theorem l_X6_179 : CL RX6 179 yX6_draw cX6_draw 2 (some .int) 1 := ⟨Or.inl (tj2 194 rfl rfl), (tj2 197 rfl rfl), (tj1 1 rfl rfl), by decide +kernel⟩
set_option maxRecDepth 20000 in
theorem im_X6_spoken : Cond.instanceMethod yX6_spoken ∈ wsT := (tj2 204 rfl rfl)
set_option maxRecDepth 20000 in
theorem se_X6_spoken : Cond.selects (yX6_spoken).cls yX6_spoken yX6_spoken ∈ wsT := tjs 36 rfl rfl
set_option maxRecDepth 20000 in
theorem l_X6_182 : CL RX6 182 yX6_spoken cX6_spoken 3 (some .int) 2 := ⟨Or.inl (tj2 202 rfl rfl), (tj2 205 rfl rfl), (tj1 1 rfl rfl), by decide +kernel⟩
set_option maxRecDepth 20000 in
theorem im_X0_learn : Cond.instanceMethod yX0_learn ∈ wsT := (tj2 211 rfl rfl)
set_option maxRecDepth 20000 in
theorem se_X0_learn : Cond.selects (yX0_learn).cls yX0_learn yX0_learn ∈ wsT := tjs 37 rfl rfl
set_option maxRecDepth 20000 in
theorem l_X6_185 : CL RX6 185 yX0_learn cX0_learn 3 none 2 := ⟨Or.inr ⟨"BeansBox", (ns2 209 rfl rfl)⟩, (tj2 212 rfl rfl), (tj1 4 rfl rfl), by decide +kernel⟩
set_option maxRecDepth 20000 in
theorem im_X4_pop : Cond.instanceMethod yX4_pop ∈ wsT := (tj2 221 rfl rfl)
set_option maxRecDepth 20000 in
theorem se_X4_pop : Cond.selects (yX4_pop).cls yX4_pop yX4_pop ∈ wsT := tjs 38 rfl rfl
set_option maxRecDepth 20000 in
theorem l_X6_189 : CL RX6 189 yX4_pop cX4_pop 2 (some .boolean) 1 := ⟨Or.inr ⟨"BeansBox", (ns2 219 rfl rfl)⟩, (tj2 222 rfl rfl), (tj1 5 rfl rfl), by decide +kernel⟩
set_option maxRecDepth 20000 in
theorem im_X0_strongest : Cond.instanceMethod yX0_strongest ∈ wsT := (tj2 137 rfl rfl)
set_option maxRecDepth 20000 in
theorem se_X0_strongest : Cond.selects (yX0_strongest).cls yX0_strongest yX0_strongest ∈ wsT := tjs 27 rfl rfl
set_option maxRecDepth 20000 in
theorem l_X6_193 : CL RX6 193 yX0_strongest cX0_strongest 6 (some .int) 1 := ⟨Or.inr ⟨"BeansBox", (ns2 135 rfl rfl)⟩, (tj2 138 rfl rfl), (tj1 4 rfl rfl), by decide +kernel⟩
set_option maxRecDepth 20000 in
theorem im_X0_certainty : Cond.instanceMethod yX0_certainty ∈ wsT := (tj2 152 rfl rfl)
set_option maxRecDepth 20000 in
theorem se_X0_certainty : Cond.selects (yX0_certainty).cls yX0_certainty yX0_certainty ∈ wsT := tjs 29 rfl rfl
set_option maxRecDepth 20000 in
theorem l_X6_196 : CL RX6 196 yX0_certainty cX0_certainty 5 (some .int) 2 := ⟨Or.inr ⟨"BeansBox", (ns2 150 rfl rfl)⟩, (tj2 153 rfl rfl), (tj1 4 rfl rfl), by decide +kernel⟩
set_option maxRecDepth 20000 in
theorem im_X6_cheapest : Cond.instanceMethod yX6_cheapest ∈ wsT := (tj2 129 rfl rfl)
set_option maxRecDepth 20000 in
theorem se_X6_cheapest : Cond.selects (yX6_cheapest).cls yX6_cheapest yX6_cheapest ∈ wsT := tjs 25 rfl rfl
set_option maxRecDepth 20000 in
theorem l_X6_199 : CL RX6 199 yX6_cheapest cX6_cheapest 7 (some .int) 2 := ⟨Or.inl (tj2 127 rfl rfl), (tj2 130 rfl rfl), (tj1 1 rfl rfl), by decide +kernel⟩
set_option maxRecDepth 20000 in
theorem im_X6_cost : Cond.instanceMethod yX6_cost ∈ wsT := (tj2 133 rfl rfl)
set_option maxRecDepth 20000 in
theorem se_X6_cost : Cond.selects (yX6_cost).cls yX6_cost yX6_cost ∈ wsT := tjs 26 rfl rfl
set_option maxRecDepth 20000 in
theorem l_X6_203 : CL RX6 203 yX6_cost cX6_cost 5 (some .int) 3 := ⟨Or.inl (tj2 131 rfl rfl), (tj2 134 rfl rfl), (tj1 1 rfl rfl), by decide +kernel⟩
set_option maxRecDepth 20000 in
theorem im_X6_understood : Cond.instanceMethod yX6_understood ∈ wsT := (tj3 9 rfl rfl)
set_option maxRecDepth 20000 in
theorem se_X6_understood : Cond.selects (yX6_understood).cls yX6_understood yX6_understood ∈ wsT := tjs 39 rfl rfl
set_option maxRecDepth 20000 in
theorem l_X6_207 : CL RX6 207 yX6_understood cX6_understood 3 (some .int) 2 := ⟨Or.inl (tj3 7 rfl rfl), (tj3 10 rfl rfl), (tj1 1 rfl rfl), by decide +kernel⟩
set_option maxRecDepth 20000 in
theorem im_X6_wordsSpokenAs : Cond.instanceMethod yX6_wordsSpokenAs ∈ wsT := (tj3 17 rfl rfl)
set_option maxRecDepth 20000 in
theorem se_X6_wordsSpokenAs : Cond.selects (yX6_wordsSpokenAs).cls yX6_wordsSpokenAs yX6_wordsSpokenAs ∈ wsT := tjs 40 rfl rfl
set_option maxRecDepth 20000 in
theorem l_X6_210 : CL RX6 210 yX6_wordsSpokenAs cX6_wordsSpokenAs 5 (some .int) 2 := ⟨Or.inl (tj3 15 rfl rfl), (tj3 18 rfl rfl), (tj1 1 rfl rfl), by decide +kernel⟩
set_option maxRecDepth 20000 in
theorem st_X6_isDistance : Cond.static yX6_isDistance ∈ wsT := (tj3 28 rfl rfl)
set_option maxRecDepth 20000 in
theorem l_X6_213 : CL RX6 213 yX6_isDistance cX6_isDistance 1 (some .boolean) 1 := ⟨Or.inl (tj3 27 rfl rfl), (tj3 29 rfl rfl), (tj1 1 rfl rfl), by decide +kernel⟩
set_option maxRecDepth 20000 in
theorem im_X0_nearest : Cond.instanceMethod yX0_nearest ∈ wsT := (tj3 36 rfl rfl)
set_option maxRecDepth 20000 in
theorem se_X0_nearest : Cond.selects (yX0_nearest).cls yX0_nearest yX0_nearest ∈ wsT := tjs 41 rfl rfl
set_option maxRecDepth 20000 in
theorem l_X6_216 : CL RX6 216 yX0_nearest cX0_nearest 4 (some .int) 1 := ⟨Or.inr ⟨"BeansBox", (ns3 34 rfl rfl)⟩, (tj3 37 rfl rfl), (tj1 4 rfl rfl), by decide +kernel⟩
set_option maxRecDepth 20000 in
theorem l_X6_219 : CL RX6 219 yX0_copy cX0_copy 3 none 1 := ⟨Or.inr ⟨"BeansBox", (ns3 46 rfl rfl)⟩, (tj2 121 rfl rfl), (tj1 4 rfl rfl), by decide +kernel⟩
set_option maxRecDepth 20000 in
theorem im_X6_voicesHeardRight : Cond.instanceMethod yX6_voicesHeardRight ∈ wsT := (tj3 53 rfl rfl)
set_option maxRecDepth 20000 in
theorem se_X6_voicesHeardRight : Cond.selects (yX6_voicesHeardRight).cls yX6_voicesHeardRight yX6_voicesHeardRight ∈ wsT := tjs 42 rfl rfl
set_option maxRecDepth 20000 in
theorem l_X6_222 : CL RX6 222 yX6_voicesHeardRight cX6_voicesHeardRight 6 (some .int) 3 := ⟨Or.inl (tj3 51 rfl rfl), (tj3 54 rfl rfl), (tj1 1 rfl rfl), by decide +kernel⟩
set_option maxRecDepth 20000 in
theorem k_X6_226 : Cond.constantLong RX6 226 (1000000000) ∈ wsT := (tj3 63 rfl rfl)
set_option maxRecDepth 20000 in
theorem k_X6_228 : Cond.constantLong RX6 228 (100) ∈ wsT := (tj3 64 rfl rfl)
set_option maxRecDepth 20000 in
theorem im_X3_append : Cond.instanceMethod yX3_append ∈ wsT := (tj3 71 rfl rfl)
set_option maxRecDepth 20000 in
theorem se_X3_append : Cond.selects (yX3_append).cls yX3_append yX3_append ∈ wsT := tjs 43 rfl rfl
set_option maxRecDepth 20000 in
theorem l_X6_230 : CL RX6 230 yX3_append cX3_append 3 (some .boolean) 2 := ⟨Or.inr ⟨"BeansBox", (ns3 69 rfl rfl)⟩, (tj3 72 rfl rfl), (tj1 6 rfl rfl), by decide +kernel⟩
set_option maxRecDepth 20000 in
theorem im_X6_couldHaveSpoken : Cond.instanceMethod yX6_couldHaveSpoken ∈ wsT := (tj3 79 rfl rfl)
set_option maxRecDepth 20000 in
theorem se_X6_couldHaveSpoken : Cond.selects (yX6_couldHaveSpoken).cls yX6_couldHaveSpoken yX6_couldHaveSpoken ∈ wsT := tjs 44 rfl rfl
set_option maxRecDepth 20000 in
theorem l_X6_233 : CL RX6 233 yX6_couldHaveSpoken cX6_couldHaveSpoken 4 (some .boolean) 1 := ⟨Or.inl (tj3 77 rfl rfl), (tj3 80 rfl rfl), (tj1 1 rfl rfl), by decide +kernel⟩
set_option maxRecDepth 20000 in
theorem im_X6_speaker : Cond.instanceMethod yX6_speaker ∈ wsT := (tj3 74 rfl rfl)
set_option maxRecDepth 20000 in
theorem se_X6_speaker : Cond.selects (yX6_speaker).cls yX6_speaker yX6_speaker ∈ wsT := (tj3 75 rfl rfl)
set_option maxRecDepth 20000 in
theorem l_X6_236 : CL RX6 236 yX6_speaker cX6_speaker 3 (some .int) 0 := ⟨Or.inl (tj3 85 rfl rfl), (tj3 76 rfl rfl), (tj1 1 rfl rfl), by decide +kernel⟩
set_option maxRecDepth 20000 in
theorem st_J6_bitCount_0f7a4 : Cond.static yJ6_bitCount_0f7a4 ∈ wsT := (tj3 87 rfl rfl)
set_option maxRecDepth 20000 in
theorem l_X6_239 : CL RX6 239 yJ6_bitCount_0f7a4 cJ6_bitCount_0f7a4 1 (some .int) 1 := ⟨Or.inl (tj3 86 rfl rfl), (tj3 88 rfl rfl), (tj1 10 rfl rfl), by decide +kernel⟩
set_option maxRecDepth 20000 in
theorem im_X6_greatestPart : Cond.instanceMethod yX6_greatestPart ∈ wsT := (tj3 94 rfl rfl)
set_option maxRecDepth 20000 in
theorem se_X6_greatestPart : Cond.selects (yX6_greatestPart).cls yX6_greatestPart yX6_greatestPart ∈ wsT := tjs 45 rfl rfl
set_option maxRecDepth 20000 in
theorem l_X6_244 : CL RX6 244 yX6_greatestPart cX6_greatestPart 7 (some .int) 2 := ⟨Or.inl (tj3 92 rfl rfl), (tj3 95 rfl rfl), (tj1 1 rfl rfl), by decide +kernel⟩
set_option maxRecDepth 20000 in
theorem f_X6_247 : FL RX6 247 3 0 := ⟨RX3, TX3, 3, rfl, by decide, inl_X3, Or.inr ⟨"BeansBox", (ns1 158 rfl rfl)⟩⟩
set_option maxRecDepth 20000 in
theorem f_X6_250 : FL RX6 250 3 1 := ⟨RX3, TX3, 3, rfl, by decide, inl_X3, Or.inr ⟨"BeansBox", (ns1 160 rfl rfl)⟩⟩
set_option maxRecDepth 20000 in
theorem st_X6_isImage : Cond.static yX6_isImage ∈ wsT := (tj3 118 rfl rfl)
set_option maxRecDepth 20000 in
theorem l_X6_253 : CL RX6 253 yX6_isImage cX6_isImage 1 (some .boolean) 1 := ⟨Or.inl (tj3 117 rfl rfl), (tj3 119 rfl rfl), (tj1 1 rfl rfl), by decide +kernel⟩
set_option maxRecDepth 20000 in
theorem f_X6_256 : FL RX6 256 1 1 := ⟨RX1, TX1, 3, rfl, by decide, inl_X1, Or.inr ⟨"BeansBox", (ns1 180 rfl rfl)⟩⟩
set_option maxRecDepth 20000 in
theorem f_X6_259 : FL RX6 259 1 2 := ⟨RX1, TX1, 3, rfl, by decide, inl_X1, Or.inr ⟨"BeansBox", (ns1 182 rfl rfl)⟩⟩
set_option maxRecDepth 20000 in
theorem p_X6_259 {ini : Bool} : FP RX6 259 1 2 (tyX1 2) ini := ⟨RX1, TX1, 3, tyX1, rfl, tyX1_ok, nmX1, tyX1_ok 2 (by decide), Or.inl rfl⟩
set_option maxRecDepth 20000 in
theorem ml_X6_260 : ML RX6 260 Lib.Math.abs.name Lib.Math.abs.code 1 := ⟨(tj2 146 rfl rfl), (tj2 147 rfl rfl), (tj1 7 rfl rfl), (tj2 148 rfl rfl)⟩
set_option maxRecDepth 20000 in
theorem st_X6_shifted : Cond.static yX6_shifted ∈ wsT := (tj2 207 rfl rfl)
set_option maxRecDepth 20000 in
theorem l_X6_265 : CL RX6 265 yX6_shifted cX6_shifted 5 (some .int) 2 := ⟨Or.inl (tj2 206 rfl rfl), (tj2 208 rfl rfl), (tj1 1 rfl rfl), by decide +kernel⟩
set_option maxRecDepth 20000 in
theorem k_X6_268 : Cond.constant RX6 268 (1000000) ∈ wsT := (tj2 149 rfl rfl)
set_option maxRecDepth 20000 in
theorem im_X0_react : Cond.instanceMethod yX0_react ∈ wsT := (tj2 157 rfl rfl)
set_option maxRecDepth 20000 in
theorem se_X0_react : Cond.selects (yX0_react).cls yX0_react yX0_react ∈ wsT := tjs 30 rfl rfl
set_option maxRecDepth 20000 in
theorem l_X6_269 : CL RX6 269 yX0_react cX0_react 3 none 2 := ⟨Or.inr ⟨"BeansBox", (ns2 155 rfl rfl)⟩, (tj2 158 rfl rfl), (tj1 4 rfl rfl), by decide +kernel⟩
set_option maxRecDepth 20000 in
theorem k_X6_273 : Cond.constantLong RX6 273 (1103515245) ∈ wsT := (tj2 198 rfl rfl)
set_option maxRecDepth 20000 in
theorem k_X6_275 : Cond.constantLong RX6 275 (12345) ∈ wsT := (tj2 199 rfl rfl)
set_option maxRecDepth 20000 in
theorem k_X6_277 : Cond.constantLong RX6 277 (2147483648) ∈ wsT := (tj2 200 rfl rfl)
set_option maxRecDepth 20000 in
theorem k_X6_279 : Cond.constant RX6 279 (65536) ∈ wsT := (tj2 201 rfl rfl)
set_option maxRecDepth 20000 in
theorem ml_X6_280 : ML RX6 280 Lib.Math.max.name Lib.Math.max.code 2 := ⟨(tj3 96 rfl rfl), (tj1 155 rfl rfl), (tj1 7 rfl rfl), (tj1 156 rfl rfl)⟩
set_option maxRecDepth 20000 in
theorem oi_X7_1 : Cond.methodLink RX7 1 objectInit ∈ wsT ∧ Cond.instanceMethod objectInit ∈ wsT ∧ Cond.code objectInit ⟨#[0xb1]⟩ 1 none ∈ wsT := ⟨(tj3 129 rfl rfl), (tj1 17 rfl rfl), (tj1 18 rfl rfl)⟩
set_option maxRecDepth 20000 in
theorem f_X7_7 : FL RX7 7 7 1 := ⟨RX7, TX7, 29, rfl, by decide, inl_X7, Or.inl (tj3 131 rfl rfl)⟩
set_option maxRecDepth 20000 in
theorem p_X7_7 : FP RX7 7 7 1 (tyX7 1) true := ⟨RX7, TX7, 29, tyX7, rfl, tyX7_ok, nmX7, tyX7_ok 1 (by decide), Or.inr ⟨rfl, rfl, rfl, (tj3 131 rfl rfl)⟩⟩
set_option maxRecDepth 20000 in
theorem f_X7_13 : FL RX7 13 7 2 := ⟨RX7, TX7, 29, rfl, by decide, inl_X7, Or.inl (tj3 132 rfl rfl)⟩
set_option maxRecDepth 20000 in
theorem p_X7_13 {ini : Bool} : FP RX7 13 7 2 (tyX7 2) ini := ⟨RX7, TX7, 29, tyX7, rfl, tyX7_ok, nmX7, tyX7_ok 2 (by decide), Or.inl rfl⟩
set_option maxRecDepth 20000 in
theorem f_X7_17 : FL RX7 17 7 7 := ⟨RX7, TX7, 29, rfl, by decide, inl_X7, Or.inl (tj3 137 rfl rfl)⟩
set_option maxRecDepth 20000 in
theorem p_X7_17 : FP RX7 17 7 7 (tyX7 7) true := ⟨RX7, TX7, 29, tyX7, rfl, tyX7_ok, nmX7, tyX7_ok 7 (by decide), Or.inr ⟨rfl, rfl, rfl, (tj3 137 rfl rfl)⟩⟩
set_option maxRecDepth 20000 in
theorem f_X7_20 : FL RX7 20 7 8 := ⟨RX7, TX7, 29, rfl, by decide, inl_X7, Or.inl (tj3 138 rfl rfl)⟩
set_option maxRecDepth 20000 in
theorem p_X7_20 : FP RX7 20 7 8 (tyX7 8) true := ⟨RX7, TX7, 29, tyX7, rfl, tyX7_ok, nmX7, tyX7_ok 8 (by decide), Or.inr ⟨rfl, rfl, rfl, (tj3 138 rfl rfl)⟩⟩
set_option maxRecDepth 20000 in
theorem f_X7_23 : FL RX7 23 7 9 := ⟨RX7, TX7, 29, rfl, by decide, inl_X7, Or.inl (tj3 139 rfl rfl)⟩
set_option maxRecDepth 20000 in
theorem p_X7_23 : FP RX7 23 7 9 (tyX7 9) true := ⟨RX7, TX7, 29, tyX7, rfl, tyX7_ok, nmX7, tyX7_ok 9 (by decide), Or.inr ⟨rfl, rfl, rfl, (tj3 139 rfl rfl)⟩⟩
set_option maxRecDepth 20000 in
theorem f_X7_26 : FL RX7 26 7 14 := ⟨RX7, TX7, 29, rfl, by decide, inl_X7, Or.inl (tj3 144 rfl rfl)⟩
set_option maxRecDepth 20000 in
theorem p_X7_26 : FP RX7 26 7 14 (tyX7 14) true := ⟨RX7, TX7, 29, tyX7, rfl, tyX7_ok, nmX7, tyX7_ok 14 (by decide), Or.inr ⟨rfl, rfl, rfl, (tj3 144 rfl rfl)⟩⟩
set_option maxRecDepth 20000 in
theorem f_X7_29 : FL RX7 29 7 15 := ⟨RX7, TX7, 29, rfl, by decide, inl_X7, Or.inl (tj3 145 rfl rfl)⟩
set_option maxRecDepth 20000 in
theorem p_X7_29 : FP RX7 29 7 15 (tyX7 15) true := ⟨RX7, TX7, 29, tyX7, rfl, tyX7_ok, nmX7, tyX7_ok 15 (by decide), Or.inr ⟨rfl, rfl, rfl, (tj3 145 rfl rfl)⟩⟩
set_option maxRecDepth 20000 in
theorem f_X7_32 : FL RX7 32 7 16 := ⟨RX7, TX7, 29, rfl, by decide, inl_X7, Or.inl (tj3 146 rfl rfl)⟩
set_option maxRecDepth 20000 in
theorem p_X7_32 : FP RX7 32 7 16 (tyX7 16) true := ⟨RX7, TX7, 29, tyX7, rfl, tyX7_ok, nmX7, tyX7_ok 16 (by decide), Or.inr ⟨rfl, rfl, rfl, (tj3 146 rfl rfl)⟩⟩
set_option maxRecDepth 20000 in
theorem f_X7_35 : FL RX7 35 7 17 := ⟨RX7, TX7, 29, rfl, by decide, inl_X7, Or.inl (tj3 147 rfl rfl)⟩
set_option maxRecDepth 20000 in
theorem p_X7_35 : FP RX7 35 7 17 (tyX7 17) true := ⟨RX7, TX7, 29, tyX7, rfl, tyX7_ok, nmX7, tyX7_ok 17 (by decide), Or.inr ⟨rfl, rfl, rfl, (tj3 147 rfl rfl)⟩⟩
set_option maxRecDepth 20000 in
theorem f_X7_38 : FL RX7 38 7 20 := ⟨RX7, TX7, 29, rfl, by decide, inl_X7, Or.inl (tj3 150 rfl rfl)⟩
set_option maxRecDepth 20000 in
theorem p_X7_38 : FP RX7 38 7 20 (tyX7 20) true := ⟨RX7, TX7, 29, tyX7, rfl, tyX7_ok, nmX7, tyX7_ok 20 (by decide), Or.inr ⟨rfl, rfl, rfl, (tj3 150 rfl rfl)⟩⟩
set_option maxRecDepth 20000 in
theorem f_X7_41 : FL RX7 41 7 23 := ⟨RX7, TX7, 29, rfl, by decide, inl_X7, Or.inl (tj3 153 rfl rfl)⟩
set_option maxRecDepth 20000 in
theorem p_X7_41 : FP RX7 41 7 23 (tyX7 23) true := ⟨RX7, TX7, 29, tyX7, rfl, tyX7_ok, nmX7, tyX7_ok 23 (by decide), Or.inr ⟨rfl, rfl, rfl, (tj3 153 rfl rfl)⟩⟩
set_option maxRecDepth 20000 in
theorem f_X7_44 : FL RX7 44 7 25 := ⟨RX7, TX7, 29, rfl, by decide, inl_X7, Or.inl (tj3 155 rfl rfl)⟩
set_option maxRecDepth 20000 in
theorem p_X7_44 : FP RX7 44 7 25 (tyX7 25) true := ⟨RX7, TX7, 29, tyX7, rfl, tyX7_ok, nmX7, tyX7_ok 25 (by decide), Or.inr ⟨rfl, rfl, rfl, (tj3 155 rfl rfl)⟩⟩
set_option maxRecDepth 20000 in
theorem f_X7_47 : FL RX7 47 7 26 := ⟨RX7, TX7, 29, rfl, by decide, inl_X7, Or.inl (tj3 156 rfl rfl)⟩
set_option maxRecDepth 20000 in
theorem p_X7_47 : FP RX7 47 7 26 (tyX7 26) true := ⟨RX7, TX7, 29, tyX7, rfl, tyX7_ok, nmX7, tyX7_ok 26 (by decide), Or.inr ⟨rfl, rfl, rfl, (tj3 156 rfl rfl)⟩⟩
set_option maxRecDepth 20000 in
theorem f_X7_51 : FL RX7 51 7 27 := ⟨RX7, TX7, 29, rfl, by decide, inl_X7, Or.inl (tj3 157 rfl rfl)⟩
set_option maxRecDepth 20000 in
theorem p_X7_51 : FP RX7 51 7 27 (tyX7 27) true := ⟨RX7, TX7, 29, tyX7, rfl, tyX7_ok, nmX7, tyX7_ok 27 (by decide), Or.inr ⟨rfl, rfl, rfl, (tj3 157 rfl rfl)⟩⟩
set_option maxRecDepth 20000 in
theorem f_X7_54 : FL RX7 54 7 28 := ⟨RX7, TX7, 29, rfl, by decide, inl_X7, Or.inl (tj3 158 rfl rfl)⟩
set_option maxRecDepth 20000 in
theorem p_X7_54 : FP RX7 54 7 28 (tyX7 28) true := ⟨RX7, TX7, 29, tyX7, rfl, tyX7_ok, nmX7, tyX7_ok 28 (by decide), Or.inr ⟨rfl, rfl, rfl, (tj3 158 rfl rfl)⟩⟩
set_option maxRecDepth 20000 in
theorem st_X7_in : Cond.static yX7_in ∈ wsT := (tj3 225 rfl rfl)
set_option maxRecDepth 20000 in
theorem l_X7_58 : CL RX7 58 yX7_in cX7_in 3 (some .boolean) 3 := ⟨Or.inl (tj3 224 rfl rfl), (tj3 226 rfl rfl), (tj1 9 rfl rfl), by decide +kernel⟩
set_option maxRecDepth 20000 in
theorem k_X7_62 : Cond.constant RX7 62 (-1000000002) ∈ wsT := (tj3 227 rfl rfl)
set_option maxRecDepth 20000 in
theorem f_X7_63 : FL RX7 63 7 0 := ⟨RX7, TX7, 29, rfl, by decide, inl_X7, Or.inl (tj3 130 rfl rfl)⟩
set_option maxRecDepth 20000 in
theorem k_X7_66 : Cond.constant RX7 66 (-1000000004) ∈ wsT := (tj3 228 rfl rfl)
set_option maxRecDepth 20000 in
theorem p_X7_63 {ini : Bool} : FP RX7 63 7 0 (tyX7 0) ini := ⟨RX7, TX7, 29, tyX7, rfl, tyX7_ok, nmX7, tyX7_ok 0 (by decide), Or.inl rfl⟩
set_option maxRecDepth 20000 in
theorem f_X7_67 : FL RX7 67 7 3 := ⟨RX7, TX7, 29, rfl, by decide, inl_X7, Or.inl (tj3 133 rfl rfl)⟩
set_option maxRecDepth 20000 in
theorem im_X7_letterAt : Cond.instanceMethod yX7_letterAt ∈ wsT := (tj4 7 rfl rfl)
set_option maxRecDepth 20000 in
theorem se_X7_letterAt : Cond.selects (yX7_letterAt).cls yX7_letterAt yX7_letterAt ∈ wsT := tjs 48 rfl rfl
set_option maxRecDepth 20000 in
theorem l_X7_70 : CL RX7 70 yX7_letterAt cX7_letterAt 2 (some .int) 1 := ⟨Or.inl (tj4 5 rfl rfl), (tj4 8 rfl rfl), (tj1 9 rfl rfl), by decide +kernel⟩
set_option maxRecDepth 20000 in
theorem p_X7_67 {ini : Bool} : FP RX7 67 7 3 (tyX7 3) ini := ⟨RX7, TX7, 29, tyX7, rfl, tyX7_ok, nmX7, tyX7_ok 3 (by decide), Or.inl rfl⟩
set_option maxRecDepth 20000 in
theorem f_X7_74 : FL RX7 74 7 4 := ⟨RX7, TX7, 29, rfl, by decide, inl_X7, Or.inl (tj3 134 rfl rfl)⟩
set_option maxRecDepth 20000 in
theorem p_X7_74 {ini : Bool} : FP RX7 74 7 4 (tyX7 4) ini := ⟨RX7, TX7, 29, tyX7, rfl, tyX7_ok, nmX7, tyX7_ok 4 (by decide), Or.inl rfl⟩
set_option maxRecDepth 20000 in
theorem im_X7_blanks : Cond.instanceMethod yX7_blanks ∈ wsT := (tj4 3 rfl rfl)
set_option maxRecDepth 20000 in
theorem se_X7_blanks : Cond.selects (yX7_blanks).cls yX7_blanks yX7_blanks ∈ wsT := tjs 47 rfl rfl
set_option maxRecDepth 20000 in
theorem l_X7_77 : CL RX7 77 yX7_blanks cX7_blanks 1 none 0 := ⟨Or.inl (tj4 1 rfl rfl), (tj4 4 rfl rfl), (tj1 9 rfl rfl), by decide +kernel⟩
set_option maxRecDepth 20000 in
theorem im_X7_fails : Cond.instanceMethod yX7_fails ∈ wsT := (tj4 19 rfl rfl)
set_option maxRecDepth 20000 in
theorem se_X7_fails : Cond.selects (yX7_fails).cls yX7_fails yX7_fails ∈ wsT := tjs 51 rfl rfl
set_option maxRecDepth 20000 in
theorem l_X7_80 : CL RX7 80 yX7_fails cX7_fails 2 (some .boolean) 1 := ⟨Or.inl (tj4 17 rfl rfl), (tj4 20 rfl rfl), (tj1 9 rfl rfl), by decide +kernel⟩
set_option maxRecDepth 20000 in
theorem im_X7_number : Cond.instanceMethod yX7_number ∈ wsT := (tj4 23 rfl rfl)
set_option maxRecDepth 20000 in
theorem se_X7_number : Cond.selects (yX7_number).cls yX7_number yX7_number ∈ wsT := tjs 52 rfl rfl
set_option maxRecDepth 20000 in
theorem l_X7_84 : CL RX7 84 yX7_number cX7_number 5 (some .int) 1 := ⟨Or.inl (tj4 21 rfl rfl), (tj4 24 rfl rfl), (tj1 9 rfl rfl), by decide +kernel⟩
set_option maxRecDepth 20000 in
theorem im_X7_ends : Cond.instanceMethod yX7_ends ∈ wsT := (tj4 27 rfl rfl)
set_option maxRecDepth 20000 in
theorem se_X7_ends : Cond.selects (yX7_ends).cls yX7_ends yX7_ends ∈ wsT := tjs 53 rfl rfl
set_option maxRecDepth 20000 in
theorem l_X7_87 : CL RX7 87 yX7_ends cX7_ends 1 (some .boolean) 0 := ⟨Or.inl (tj4 25 rfl rfl), (tj4 28 rfl rfl), (tj1 9 rfl rfl), by decide +kernel⟩
set_option maxRecDepth 20000 in
theorem f_X7_91 : FL RX7 91 7 5 := ⟨RX7, TX7, 29, rfl, by decide, inl_X7, Or.inl (tj3 135 rfl rfl)⟩
set_option maxRecDepth 20000 in
theorem p_X7_91 {ini : Bool} : FP RX7 91 7 5 (tyX7 5) ini := ⟨RX7, TX7, 29, tyX7, rfl, tyX7_ok, nmX7, tyX7_ok 5 (by decide), Or.inl rfl⟩
set_option maxRecDepth 20000 in
theorem f_X7_94 : FL RX7 94 7 6 := ⟨RX7, TX7, 29, rfl, by decide, inl_X7, Or.inl (tj3 136 rfl rfl)⟩
set_option maxRecDepth 20000 in
theorem p_X7_94 {ini : Bool} : FP RX7 94 7 6 (tyX7 6) ini := ⟨RX7, TX7, 29, tyX7, rfl, tyX7_ok, nmX7, tyX7_ok 6 (by decide), Or.inl rfl⟩
set_option maxRecDepth 20000 in
theorem im_X7_readsBox : Cond.instanceMethod yX7_readsBox ∈ wsT := (tj4 15 rfl rfl)
set_option maxRecDepth 20000 in
theorem se_X7_readsBox : Cond.selects (yX7_readsBox).cls yX7_readsBox yX7_readsBox ∈ wsT := tjs 50 rfl rfl
set_option maxRecDepth 20000 in
theorem l_X7_97 : CL RX7 97 yX7_readsBox cX7_readsBox 3 (some .boolean) 1 := ⟨Or.inl (tj4 13 rfl rfl), (tj4 16 rfl rfl), (tj1 9 rfl rfl), by decide +kernel⟩
set_option maxRecDepth 20000 in
theorem im_X7_readsWord : Cond.instanceMethod yX7_readsWord ∈ wsT := (tj4 31 rfl rfl)
set_option maxRecDepth 20000 in
theorem se_X7_readsWord : Cond.selects (yX7_readsWord).cls yX7_readsWord yX7_readsWord ∈ wsT := tjs 54 rfl rfl
set_option maxRecDepth 20000 in
theorem l_X7_101 : CL RX7 101 yX7_readsWord cX7_readsWord 3 (some .boolean) 0 := ⟨Or.inl (tj4 29 rfl rfl), (tj4 32 rfl rfl), (tj1 9 rfl rfl), by decide +kernel⟩
set_option maxRecDepth 20000 in
theorem im_X7_readsVoice : Cond.instanceMethod yX7_readsVoice ∈ wsT := (tj4 35 rfl rfl)
set_option maxRecDepth 20000 in
theorem se_X7_readsVoice : Cond.selects (yX7_readsVoice).cls yX7_readsVoice yX7_readsVoice ∈ wsT := tjs 55 rfl rfl
set_option maxRecDepth 20000 in
theorem l_X7_104 : CL RX7 104 yX7_readsVoice cX7_readsVoice 2 (some .boolean) 0 := ⟨Or.inl (tj4 33 rfl rfl), (tj4 36 rfl rfl), (tj1 9 rfl rfl), by decide +kernel⟩
set_option maxRecDepth 20000 in
theorem im_X7_readsClause : Cond.instanceMethod yX7_readsClause ∈ wsT := (tj4 11 rfl rfl)
set_option maxRecDepth 20000 in
theorem se_X7_readsClause : Cond.selects (yX7_readsClause).cls yX7_readsClause yX7_readsClause ∈ wsT := tjs 49 rfl rfl
set_option maxRecDepth 20000 in
theorem l_X7_107 : CL RX7 107 yX7_readsClause cX7_readsClause 3 (some .boolean) 1 := ⟨Or.inl (tj4 9 rfl rfl), (tj4 12 rfl rfl), (tj1 9 rfl rfl), by decide +kernel⟩
set_option maxRecDepth 20000 in
theorem f_X7_110 : FL RX7 110 7 10 := ⟨RX7, TX7, 29, rfl, by decide, inl_X7, Or.inl (tj3 140 rfl rfl)⟩
set_option maxRecDepth 20000 in
theorem p_X7_110 {ini : Bool} : FP RX7 110 7 10 (tyX7 10) ini := ⟨RX7, TX7, 29, tyX7, rfl, tyX7_ok, nmX7, tyX7_ok 10 (by decide), Or.inl rfl⟩
set_option maxRecDepth 20000 in
theorem im_X7_reads : Cond.instanceMethod yX7_reads ∈ wsT := (tj3 239 rfl rfl)
set_option maxRecDepth 20000 in
theorem se_X7_reads : Cond.selects (yX7_reads).cls yX7_reads yX7_reads ∈ wsT := tjs 46 rfl rfl
set_option maxRecDepth 20000 in
theorem l_X7_114 : CL RX7 114 yX7_reads cX7_reads 2 (some .boolean) 0 := ⟨Or.inl (tj3 237 rfl rfl), (tj4 0 rfl rfl), (tj1 9 rfl rfl), by decide +kernel⟩
set_option maxRecDepth 20000 in
theorem f_X7_117 : FL RX7 117 7 11 := ⟨RX7, TX7, 29, rfl, by decide, inl_X7, Or.inl (tj3 141 rfl rfl)⟩
set_option maxRecDepth 20000 in
theorem p_X7_117 {ini : Bool} : FP RX7 117 7 11 (tyX7 11) ini := ⟨RX7, TX7, 29, tyX7, rfl, tyX7_ok, nmX7, tyX7_ok 11 (by decide), Or.inl rfl⟩
set_option maxRecDepth 20000 in
theorem f_X7_120 : FL RX7 120 7 12 := ⟨RX7, TX7, 29, rfl, by decide, inl_X7, Or.inl (tj3 142 rfl rfl)⟩
set_option maxRecDepth 20000 in
theorem p_X7_120 {ini : Bool} : FP RX7 120 7 12 (tyX7 12) ini := ⟨RX7, TX7, 29, tyX7, rfl, tyX7_ok, nmX7, tyX7_ok 12 (by decide), Or.inl rfl⟩
set_option maxRecDepth 20000 in
theorem f_X7_123 : FL RX7 123 7 13 := ⟨RX7, TX7, 29, rfl, by decide, inl_X7, Or.inl (tj3 143 rfl rfl)⟩
set_option maxRecDepth 20000 in
theorem p_X7_123 {ini : Bool} : FP RX7 123 7 13 (tyX7 13) ini := ⟨RX7, TX7, 29, tyX7, rfl, tyX7_ok, nmX7, tyX7_ok 13 (by decide), Or.inl rfl⟩
set_option maxRecDepth 20000 in
theorem f_X7_126 : FL RX7 126 7 22 := ⟨RX7, TX7, 29, rfl, by decide, inl_X7, Or.inl (tj3 152 rfl rfl)⟩
set_option maxRecDepth 20000 in
theorem p_X7_126 {ini : Bool} : FP RX7 126 7 22 (tyX7 22) ini := ⟨RX7, TX7, 29, tyX7, rfl, tyX7_ok, nmX7, tyX7_ok 22 (by decide), Or.inl rfl⟩
set_option maxRecDepth 20000 in
theorem f_X7_129 : FL RX7 129 7 24 := ⟨RX7, TX7, 29, rfl, by decide, inl_X7, Or.inl (tj3 154 rfl rfl)⟩
set_option maxRecDepth 20000 in
theorem p_X7_129 {ini : Bool} : FP RX7 129 7 24 (tyX7 24) ini := ⟨RX7, TX7, 29, tyX7, rfl, tyX7_ok, nmX7, tyX7_ok 24 (by decide), Or.inl rfl⟩
set_option maxRecDepth 20000 in
theorem f_X7_132 : FL RX7 132 7 18 := ⟨RX7, TX7, 29, rfl, by decide, inl_X7, Or.inl (tj3 148 rfl rfl)⟩
set_option maxRecDepth 20000 in
theorem p_X7_132 {ini : Bool} : FP RX7 132 7 18 (tyX7 18) ini := ⟨RX7, TX7, 29, tyX7, rfl, tyX7_ok, nmX7, tyX7_ok 18 (by decide), Or.inl rfl⟩
set_option maxRecDepth 20000 in
theorem im_X7_allListed : Cond.instanceMethod yX7_allListed ∈ wsT := (tj4 43 rfl rfl)
set_option maxRecDepth 20000 in
theorem se_X7_allListed : Cond.selects (yX7_allListed).cls yX7_allListed yX7_allListed ∈ wsT := tjs 56 rfl rfl
set_option maxRecDepth 20000 in
theorem l_X7_135 : CL RX7 135 yX7_allListed cX7_allListed 3 (some .int) 0 := ⟨Or.inl (tj4 41 rfl rfl), (tj4 44 rfl rfl), (tj1 9 rfl rfl), by decide +kernel⟩
set_option maxRecDepth 20000 in
theorem im_X7_isWord : Cond.instanceMethod yX7_isWord ∈ wsT := (tj4 51 rfl rfl)
set_option maxRecDepth 20000 in
theorem se_X7_isWord : Cond.selects (yX7_isWord).cls yX7_isWord yX7_isWord ∈ wsT := tjs 57 rfl rfl
set_option maxRecDepth 20000 in
theorem l_X7_139 : CL RX7 139 yX7_isWord cX7_isWord 2 (some .boolean) 1 := ⟨Or.inl (tj4 49 rfl rfl), (tj4 52 rfl rfl), (tj1 9 rfl rfl), by decide +kernel⟩
set_option maxRecDepth 20000 in
theorem k_X7_142 : Cond.constant RX7 142 (-1000000001) ∈ wsT := (tj4 53 rfl rfl)
set_option maxRecDepth 20000 in
theorem im_X7_isVoice : Cond.instanceMethod yX7_isVoice ∈ wsT := (tj4 60 rfl rfl)
set_option maxRecDepth 20000 in
theorem se_X7_isVoice : Cond.selects (yX7_isVoice).cls yX7_isVoice yX7_isVoice ∈ wsT := tjs 58 rfl rfl
set_option maxRecDepth 20000 in
theorem l_X7_143 : CL RX7 143 yX7_isVoice cX7_isVoice 2 (some .boolean) 1 := ⟨Or.inl (tj4 58 rfl rfl), (tj4 61 rfl rfl), (tj1 9 rfl rfl), by decide +kernel⟩
set_option maxRecDepth 20000 in
theorem st_X7_far : Cond.static yX7_far ∈ wsT := (tj4 98 rfl rfl)
set_option maxRecDepth 20000 in
theorem l_X7_146 : CL RX7 146 yX7_far cX7_far 3 (some .int) 2 := ⟨Or.inl (tj4 97 rfl rfl), (tj4 99 rfl rfl), (tj1 9 rfl rfl), by decide +kernel⟩
set_option maxRecDepth 20000 in
theorem st_X7_shifted : Cond.static yX7_shifted ∈ wsT := (tj4 149 rfl rfl)
set_option maxRecDepth 20000 in
theorem l_X7_150 : CL RX7 150 yX7_shifted cX7_shifted 2 (some .int) 2 := ⟨Or.inl (tj4 148 rfl rfl), (tj4 150 rfl rfl), (tj1 9 rfl rfl), by decide +kernel⟩
set_option maxRecDepth 20000 in
theorem st_X7_apart : Cond.static yX7_apart ∈ wsT := (tj4 95 rfl rfl)
set_option maxRecDepth 20000 in
theorem l_X7_153 : CL RX7 153 yX7_apart cX7_apart 2 (some .int) 2 := ⟨Or.inl (tj4 94 rfl rfl), (tj4 96 rfl rfl), (tj1 9 rfl rfl), by decide +kernel⟩
set_option maxRecDepth 20000 in
theorem im_X7_weight : Cond.instanceMethod yX7_weight ∈ wsT := (tj4 92 rfl rfl)
set_option maxRecDepth 20000 in
theorem se_X7_weight : Cond.selects (yX7_weight).cls yX7_weight yX7_weight ∈ wsT := tjs 64 rfl rfl
set_option maxRecDepth 20000 in
theorem l_X7_156 : CL RX7 156 yX7_weight cX7_weight 3 (some .int) 2 := ⟨Or.inl (tj4 90 rfl rfl), (tj4 93 rfl rfl), (tj1 9 rfl rfl), by decide +kernel⟩
set_option maxRecDepth 20000 in
theorem k_X7_159 : Cond.constantLong RX7 159 (1000000) ∈ wsT := (tj4 105 rfl rfl)
set_option maxRecDepth 20000 in
theorem im_X7_guessOf : Cond.instanceMethod yX7_guessOf ∈ wsT := (tj4 88 rfl rfl)
set_option maxRecDepth 20000 in
theorem se_X7_guessOf : Cond.selects (yX7_guessOf).cls yX7_guessOf yX7_guessOf ∈ wsT := tjs 63 rfl rfl
set_option maxRecDepth 20000 in
theorem l_X7_161 : CL RX7 161 yX7_guessOf cX7_guessOf 6 (some .int) 1 := ⟨Or.inl (tj4 86 rfl rfl), (tj4 89 rfl rfl), (tj1 9 rfl rfl), by decide +kernel⟩
set_option maxRecDepth 20000 in
theorem k_X7_164 : Cond.constant RX7 164 (1000000) ∈ wsT := (tj4 100 rfl rfl)
set_option maxRecDepth 20000 in
theorem im_X7_sureOf : Cond.instanceMethod yX7_sureOf ∈ wsT := (tj4 103 rfl rfl)
set_option maxRecDepth 20000 in
theorem se_X7_sureOf : Cond.selects (yX7_sureOf).cls yX7_sureOf yX7_sureOf ∈ wsT := tjs 65 rfl rfl
set_option maxRecDepth 20000 in
theorem l_X7_165 : CL RX7 165 yX7_sureOf cX7_sureOf 6 (some .int) 2 := ⟨Or.inl (tj4 101 rfl rfl), (tj4 104 rfl rfl), (tj1 9 rfl rfl), by decide +kernel⟩
set_option maxRecDepth 20000 in
theorem im_X7_costOf : Cond.instanceMethod yX7_costOf ∈ wsT := (tj4 84 rfl rfl)
set_option maxRecDepth 20000 in
theorem se_X7_costOf : Cond.selects (yX7_costOf).cls yX7_costOf yX7_costOf ∈ wsT := tjs 62 rfl rfl
set_option maxRecDepth 20000 in
theorem l_X7_168 : CL RX7 168 yX7_costOf cX7_costOf 4 (some .int) 2 := ⟨Or.inl (tj4 82 rfl rfl), (tj4 85 rfl rfl), (tj1 9 rfl rfl), by decide +kernel⟩
set_option maxRecDepth 20000 in
theorem f_X7_171 : FL RX7 171 7 19 := ⟨RX7, TX7, 29, rfl, by decide, inl_X7, Or.inl (tj3 149 rfl rfl)⟩
set_option maxRecDepth 20000 in
theorem p_X7_171 {ini : Bool} : FP RX7 171 7 19 (tyX7 19) ini := ⟨RX7, TX7, 29, tyX7, rfl, tyX7_ok, nmX7, tyX7_ok 19 (by decide), Or.inl rfl⟩
set_option maxRecDepth 20000 in
theorem im_X7_ruleOf : Cond.instanceMethod yX7_ruleOf ∈ wsT := (tj4 80 rfl rfl)
set_option maxRecDepth 20000 in
theorem se_X7_ruleOf : Cond.selects (yX7_ruleOf).cls yX7_ruleOf yX7_ruleOf ∈ wsT := tjs 61 rfl rfl
set_option maxRecDepth 20000 in
theorem l_X7_174 : CL RX7 174 yX7_ruleOf cX7_ruleOf 4 (some .int) 1 := ⟨Or.inl (tj4 78 rfl rfl), (tj4 81 rfl rfl), (tj1 9 rfl rfl), by decide +kernel⟩
set_option maxRecDepth 20000 in
theorem st_X7_atMost : Cond.static yX7_atMost ∈ wsT := (tj4 107 rfl rfl)
set_option maxRecDepth 20000 in
theorem l_X7_177 : CL RX7 177 yX7_atMost cX7_atMost 1 (some .int) 1 := ⟨Or.inl (tj4 106 rfl rfl), (tj4 108 rfl rfl), (tj1 9 rfl rfl), by decide +kernel⟩
set_option maxRecDepth 20000 in
theorem st_X7_less : Cond.static yX7_less ∈ wsT := (tj4 118 rfl rfl)
set_option maxRecDepth 20000 in
theorem l_X7_180 : CL RX7 180 yX7_less cX7_less 1 (some .int) 1 := ⟨Or.inl (tj4 117 rfl rfl), (tj4 119 rfl rfl), (tj1 9 rfl rfl), by decide +kernel⟩
set_option maxRecDepth 20000 in
theorem st_X7_isSound : Cond.static yX7_isSound ∈ wsT := (tj4 67 rfl rfl)
set_option maxRecDepth 20000 in
theorem l_X7_183 : CL RX7 183 yX7_isSound cX7_isSound 1 (some .boolean) 1 := ⟨Or.inl (tj4 66 rfl rfl), (tj4 68 rfl rfl), (tj1 9 rfl rfl), by decide +kernel⟩
set_option maxRecDepth 20000 in
theorem k_X7_186 : Cond.constant RX7 186 (-1000000003) ∈ wsT := (tj4 69 rfl rfl)
set_option maxRecDepth 20000 in
theorem im_X7_remember : Cond.instanceMethod yX7_remember ∈ wsT := (tj4 72 rfl rfl)
set_option maxRecDepth 20000 in
theorem se_X7_remember : Cond.selects (yX7_remember).cls yX7_remember yX7_remember ∈ wsT := tjs 59 rfl rfl
set_option maxRecDepth 20000 in
theorem l_X7_187 : CL RX7 187 yX7_remember cX7_remember 2 none 0 := ⟨Or.inl (tj4 70 rfl rfl), (tj4 73 rfl rfl), (tj1 9 rfl rfl), by decide +kernel⟩
set_option maxRecDepth 20000 in
theorem im_X7_hears : Cond.instanceMethod yX7_hears ∈ wsT := (tj4 76 rfl rfl)
set_option maxRecDepth 20000 in
theorem se_X7_hears : Cond.selects (yX7_hears).cls yX7_hears yX7_hears ∈ wsT := tjs 60 rfl rfl
set_option maxRecDepth 20000 in
theorem l_X7_190 : CL RX7 190 yX7_hears cX7_hears 4 (some .int) 1 := ⟨Or.inl (tj4 74 rfl rfl), (tj4 77 rfl rfl), (tj1 9 rfl rfl), by decide +kernel⟩
set_option maxRecDepth 20000 in
theorem im_X7_takesBack : Cond.instanceMethod yX7_takesBack ∈ wsT := (tj4 115 rfl rfl)
set_option maxRecDepth 20000 in
theorem se_X7_takesBack : Cond.selects (yX7_takesBack).cls yX7_takesBack yX7_takesBack ∈ wsT := tjs 66 rfl rfl
set_option maxRecDepth 20000 in
theorem l_X7_193 : CL RX7 193 yX7_takesBack cX7_takesBack 3 none 1 := ⟨Or.inl (tj4 113 rfl rfl), (tj4 116 rfl rfl), (tj1 9 rfl rfl), by decide +kernel⟩
set_option maxRecDepth 20000 in
theorem im_X7_letsBe : Cond.instanceMethod yX7_letsBe ∈ wsT := (tj4 126 rfl rfl)
set_option maxRecDepth 20000 in
theorem se_X7_letsBe : Cond.selects (yX7_letsBe).cls yX7_letsBe yX7_letsBe ∈ wsT := tjs 67 rfl rfl
set_option maxRecDepth 20000 in
theorem l_X7_197 : CL RX7 197 yX7_letsBe cX7_letsBe 2 (some .int) 0 := ⟨Or.inl (tj4 124 rfl rfl), (tj4 127 rfl rfl), (tj1 9 rfl rfl), by decide +kernel⟩
set_option maxRecDepth 20000 in
theorem f_X7_200 : FL RX7 200 7 21 := ⟨RX7, TX7, 29, rfl, by decide, inl_X7, Or.inl (tj3 151 rfl rfl)⟩
set_option maxRecDepth 20000 in
theorem k_X7_204 : Cond.constantLong RX7 204 (1103515245) ∈ wsT := (tj4 140 rfl rfl)
set_option maxRecDepth 20000 in
theorem k_X7_206 : Cond.constantLong RX7 206 (12345) ∈ wsT := (tj4 141 rfl rfl)
set_option maxRecDepth 20000 in
theorem k_X7_208 : Cond.constantLong RX7 208 (2147483648) ∈ wsT := (tj4 142 rfl rfl)
set_option maxRecDepth 20000 in
theorem p_X7_200 {ini : Bool} : FP RX7 200 7 21 (tyX7 21) ini := ⟨RX7, TX7, 29, tyX7, rfl, tyX7_ok, nmX7, tyX7_ok 21 (by decide), Or.inl rfl⟩
set_option maxRecDepth 20000 in
theorem k_X7_210 : Cond.constantLong RX7 210 (65536) ∈ wsT := (tj4 143 rfl rfl)
set_option maxRecDepth 20000 in
theorem im_X7_draw : Cond.instanceMethod yX7_draw ∈ wsT := (tj4 138 rfl rfl)
set_option maxRecDepth 20000 in
theorem se_X7_draw : Cond.selects (yX7_draw).cls yX7_draw yX7_draw ∈ wsT := tjs 68 rfl rfl
set_option maxRecDepth 20000 in
theorem l_X7_212 : CL RX7 212 yX7_draw cX7_draw 2 (some .int) 1 := ⟨Or.inl (tj4 136 rfl rfl), (tj4 139 rfl rfl), (tj1 9 rfl rfl), by decide +kernel⟩
set_option maxRecDepth 20000 in
theorem im_X7_saidBy : Cond.instanceMethod yX7_saidBy ∈ wsT := (tj4 146 rfl rfl)
set_option maxRecDepth 20000 in
theorem se_X7_saidBy : Cond.selects (yX7_saidBy).cls yX7_saidBy yX7_saidBy ∈ wsT := tjs 69 rfl rfl
set_option maxRecDepth 20000 in
theorem l_X7_215 : CL RX7 215 yX7_saidBy cX7_saidBy 3 (some .int) 2 := ⟨Or.inl (tj4 144 rfl rfl), (tj4 147 rfl rfl), (tj1 9 rfl rfl), by decide +kernel⟩
set_option maxRecDepth 20000 in
theorem im_X7_meantBy : Cond.instanceMethod yX7_meantBy ∈ wsT := (tj4 185 rfl rfl)
set_option maxRecDepth 20000 in
theorem se_X7_meantBy : Cond.selects (yX7_meantBy).cls yX7_meantBy yX7_meantBy ∈ wsT := tjs 70 rfl rfl
set_option maxRecDepth 20000 in
theorem l_X7_218 : CL RX7 218 yX7_meantBy cX7_meantBy 5 (some .int) 2 := ⟨Or.inl (tj4 183 rfl rfl), (tj4 186 rfl rfl), (tj1 9 rfl rfl), by decide +kernel⟩
set_option maxRecDepth 20000 in
theorem im_X7_heardBy : Cond.instanceMethod yX7_heardBy ∈ wsT := (tj4 213 rfl rfl)
set_option maxRecDepth 20000 in
theorem se_X7_heardBy : Cond.selects (yX7_heardBy).cls yX7_heardBy yX7_heardBy ∈ wsT := tjs 71 rfl rfl
set_option maxRecDepth 20000 in
theorem l_X7_221 : CL RX7 221 yX7_heardBy cX7_heardBy 4 (some .int) 1 := ⟨Or.inl (tj4 211 rfl rfl), (tj4 214 rfl rfl), (tj1 9 rfl rfl), by decide +kernel⟩
set_option maxRecDepth 20000 in
theorem k_X7_224 : Cond.constantLong RX7 224 (1000000000) ∈ wsT := (tj4 223 rfl rfl)
set_option maxRecDepth 20000 in
theorem k_X7_226 : Cond.constantLong RX7 226 (100) ∈ wsT := (tj4 224 rfl rfl)
set_option maxRecDepth 20000 in
theorem im_X7_speaker : Cond.instanceMethod yX7_speaker ∈ wsT := (tj4 230 rfl rfl)
set_option maxRecDepth 20000 in
theorem se_X7_speaker : Cond.selects (yX7_speaker).cls yX7_speaker yX7_speaker ∈ wsT := (tj4 231 rfl rfl)
set_option maxRecDepth 20000 in
theorem l_X7_228 : CL RX7 228 yX7_speaker cX7_speaker 5 (some .int) 0 := ⟨Or.inl (tj4 237 rfl rfl), (tj4 232 rfl rfl), (tj1 9 rfl rfl), by decide +kernel⟩
set_option maxRecDepth 20000 in
theorem st_X7_bits : Cond.static yX7_bits ∈ wsT := (tj4 239 rfl rfl)
set_option maxRecDepth 20000 in
theorem l_X7_231 : CL RX7 231 yX7_bits cX7_bits 3 (some .int) 1 := ⟨Or.inl (tj4 238 rfl rfl), (tj5 0 rfl rfl), (tj1 9 rfl rfl), by decide +kernel⟩
set_option maxRecDepth 20000 in
theorem im_X7_greatestPart : Cond.instanceMethod yX7_greatestPart ∈ wsT := (tj5 3 rfl rfl)
set_option maxRecDepth 20000 in
theorem se_X7_greatestPart : Cond.selects (yX7_greatestPart).cls yX7_greatestPart yX7_greatestPart ∈ wsT := tjs 72 rfl rfl
set_option maxRecDepth 20000 in
theorem l_X7_234 : CL RX7 234 yX7_greatestPart cX7_greatestPart 7 (some .int) 2 := ⟨Or.inl (tj5 1 rfl rfl), (tj5 4 rfl rfl), (tj1 9 rfl rfl), by decide +kernel⟩
set_option maxRecDepth 20000 in
theorem k_J6_265 : Cond.constant RJ6 265 (1431655765) ∈ wsT := (tj3 89 rfl rfl)
set_option maxRecDepth 20000 in
theorem k_J6_266 : Cond.constant RJ6 266 (858993459) ∈ wsT := (tj3 90 rfl rfl)
set_option maxRecDepth 20000 in
theorem k_J6_267 : Cond.constant RJ6 267 (252645135) ∈ wsT := (tj3 91 rfl rfl)
set_option maxRecDepth 20000 in
theorem nw_L_7 : NW RL 7 6 tyX6 := ⟨RX6, TX6, 11, rfl, inl_X6, tyX6_ok, (tj1 11 rfl rfl), (tj1 12 rfl rfl), (tj1 1 rfl rfl)⟩
set_option maxRecDepth 20000 in
theorem im_X6_init : Cond.instanceMethod yX6_init ∈ wsT := (tj1 14 rfl rfl)
set_option maxRecDepth 20000 in
theorem l_L_9 : CL RL 9 yX6_init cX6_init 2 none 0 := ⟨Or.inl (tj1 13 rfl rfl), (tj1 15 rfl rfl), (tj1 1 rfl rfl), by decide +kernel⟩
set_option maxRecDepth 20000 in
theorem nw_L_10 : NW RL 10 7 tyX7 := ⟨RX7, TX7, 29, rfl, inl_X7, tyX7_ok, (tj3 124 rfl rfl), (tj3 125 rfl rfl), (tj1 9 rfl rfl)⟩
set_option maxRecDepth 20000 in
theorem im_X7_init : Cond.instanceMethod yX7_init ∈ wsT := (tj3 127 rfl rfl)
set_option maxRecDepth 20000 in
theorem l_L_12 : CL RL 12 yX7_init cX7_init 1 none 0 := ⟨Or.inl (tj3 126 rfl rfl), (tj3 128 rfl rfl), (tj1 9 rfl rfl), by decide +kernel⟩
set_option maxRecDepth 20000 in
theorem im_X6_feed : Cond.instanceMethod yX6_feed ∈ wsT := (tj1 225 rfl rfl)
set_option maxRecDepth 20000 in
theorem se_X6_feed : Cond.selects (yX6_feed).cls yX6_feed yX6_feed ∈ wsT := (tj1 226 rfl rfl)
set_option maxRecDepth 20000 in
theorem l_L_13 : CL RL 13 yX6_feed cX6_feed 2 (some .int) 1 := ⟨Or.inl (tj1 224 rfl rfl), (tj1 227 rfl rfl), (tj1 1 rfl rfl), by decide +kernel⟩
set_option maxRecDepth 20000 in
theorem im_X7_feed : Cond.instanceMethod yX7_feed ∈ wsT := (tj3 221 rfl rfl)
set_option maxRecDepth 20000 in
theorem se_X7_feed : Cond.selects (yX7_feed).cls yX7_feed yX7_feed ∈ wsT := (tj3 222 rfl rfl)
set_option maxRecDepth 20000 in
theorem l_L_17 : CL RL 17 yX7_feed cX7_feed 2 (some .int) 1 := ⟨Or.inl (tj3 220 rfl rfl), (tj3 223 rfl rfl), (tj1 9 rfl rfl), by decide +kernel⟩
set_option maxRecDepth 20000 in
theorem im_X6_kitchen : Cond.instanceMethod yX6_kitchen ∈ wsT := (tj1 235 rfl rfl)
set_option maxRecDepth 20000 in
theorem se_X6_kitchen : Cond.selects (yX6_kitchen).cls yX6_kitchen yX6_kitchen ∈ wsT := (tj1 236 rfl rfl)
set_option maxRecDepth 20000 in
theorem l_L_18 : CL RL 18 yX6_kitchen cX6_kitchen 4 (some .int) 0 := ⟨Or.inl (tj1 234 rfl rfl), (tj1 237 rfl rfl), (tj1 1 rfl rfl), by decide +kernel⟩
set_option maxRecDepth 20000 in
theorem im_X7_kitchen : Cond.instanceMethod yX7_kitchen ∈ wsT := (tj3 234 rfl rfl)
set_option maxRecDepth 20000 in
theorem se_X7_kitchen : Cond.selects (yX7_kitchen).cls yX7_kitchen yX7_kitchen ∈ wsT := (tj3 235 rfl rfl)
set_option maxRecDepth 20000 in
theorem l_L_22 : CL RL 22 yX7_kitchen cX7_kitchen 3 (some .int) 0 := ⟨Or.inl (tj3 233 rfl rfl), (tj3 236 rfl rfl), (tj1 9 rfl rfl), by decide +kernel⟩
set_option maxRecDepth 20000 in
theorem im_X6_fault : Cond.instanceMethod yX6_fault ∈ wsT := (tj2 78 rfl rfl)
set_option maxRecDepth 20000 in
theorem se_X6_fault : Cond.selects (yX6_fault).cls yX6_fault yX6_fault ∈ wsT := (tj2 79 rfl rfl)
set_option maxRecDepth 20000 in
theorem l_L_23 : CL RL 23 yX6_fault cX6_fault 1 (some .int) 0 := ⟨Or.inl (tj2 77 rfl rfl), (tj2 80 rfl rfl), (tj1 1 rfl rfl), by decide +kernel⟩
set_option maxRecDepth 20000 in
theorem im_X7_fault : Cond.instanceMethod yX7_fault ∈ wsT := (tj3 230 rfl rfl)
set_option maxRecDepth 20000 in
theorem se_X7_fault : Cond.selects (yX7_fault).cls yX7_fault yX7_fault ∈ wsT := (tj3 231 rfl rfl)
set_option maxRecDepth 20000 in
theorem l_L_26 : CL RL 26 yX7_fault cX7_fault 1 (some .int) 0 := ⟨Or.inl (tj3 229 rfl rfl), (tj3 232 rfl rfl), (tj1 9 rfl rfl), by decide +kernel⟩
set_option maxRecDepth 20000 in
theorem im_X6_told : Cond.instanceMethod yX6_told ∈ wsT := (tj2 82 rfl rfl)
set_option maxRecDepth 20000 in
theorem se_X6_told : Cond.selects (yX6_told).cls yX6_told yX6_told ∈ wsT := (tj2 83 rfl rfl)
set_option maxRecDepth 20000 in
theorem l_L_27 : CL RL 27 yX6_told cX6_told 2 (some .int) 1 := ⟨Or.inl (tj2 81 rfl rfl), (tj2 84 rfl rfl), (tj1 1 rfl rfl), by decide +kernel⟩
set_option maxRecDepth 20000 in
theorem im_X7_told : Cond.instanceMethod yX7_told ∈ wsT := (tj4 38 rfl rfl)
set_option maxRecDepth 20000 in
theorem se_X7_told : Cond.selects (yX7_told).cls yX7_told yX7_told ∈ wsT := (tj4 39 rfl rfl)
set_option maxRecDepth 20000 in
theorem l_L_30 : CL RL 30 yX7_told cX7_told 2 (some .int) 1 := ⟨Or.inl (tj4 37 rfl rfl), (tj4 40 rfl rfl), (tj1 9 rfl rfl), by decide +kernel⟩
set_option maxRecDepth 20000 in
theorem im_X6_word : Cond.instanceMethod yX6_word ∈ wsT := (tj2 90 rfl rfl)
set_option maxRecDepth 20000 in
theorem se_X6_word : Cond.selects (yX6_word).cls yX6_word yX6_word ∈ wsT := (tj2 91 rfl rfl)
set_option maxRecDepth 20000 in
theorem l_L_31 : CL RL 31 yX6_word cX6_word 3 (some .int) 2 := ⟨Or.inl (tj2 89 rfl rfl), (tj2 92 rfl rfl), (tj1 1 rfl rfl), by decide +kernel⟩
set_option maxRecDepth 20000 in
theorem im_X7_word : Cond.instanceMethod yX7_word ∈ wsT := (tj4 46 rfl rfl)
set_option maxRecDepth 20000 in
theorem se_X7_word : Cond.selects (yX7_word).cls yX7_word yX7_word ∈ wsT := (tj4 47 rfl rfl)
set_option maxRecDepth 20000 in
theorem l_L_35 : CL RL 35 yX7_word cX7_word 3 (some .int) 2 := ⟨Or.inl (tj4 45 rfl rfl), (tj4 48 rfl rfl), (tj1 9 rfl rfl), by decide +kernel⟩
set_option maxRecDepth 20000 in
theorem im_X6_voice : Cond.instanceMethod yX6_voice ∈ wsT := (tj2 99 rfl rfl)
set_option maxRecDepth 20000 in
theorem se_X6_voice : Cond.selects (yX6_voice).cls yX6_voice yX6_voice ∈ wsT := (tj2 100 rfl rfl)
set_option maxRecDepth 20000 in
theorem l_L_36 : CL RL 36 yX6_voice cX6_voice 2 (some .int) 1 := ⟨Or.inl (tj2 98 rfl rfl), (tj2 101 rfl rfl), (tj1 1 rfl rfl), by decide +kernel⟩
set_option maxRecDepth 20000 in
theorem im_X7_voice : Cond.instanceMethod yX7_voice ∈ wsT := (tj4 55 rfl rfl)
set_option maxRecDepth 20000 in
theorem se_X7_voice : Cond.selects (yX7_voice).cls yX7_voice yX7_voice ∈ wsT := (tj4 56 rfl rfl)
set_option maxRecDepth 20000 in
theorem l_L_39 : CL RL 39 yX7_voice cX7_voice 2 (some .int) 1 := ⟨Or.inl (tj4 54 rfl rfl), (tj4 57 rfl rfl), (tj1 9 rfl rfl), by decide +kernel⟩
set_option maxRecDepth 20000 in
theorem im_X6_hear : Cond.instanceMethod yX6_hear ∈ wsT := (tj2 107 rfl rfl)
set_option maxRecDepth 20000 in
theorem se_X6_hear : Cond.selects (yX6_hear).cls yX6_hear yX6_hear ∈ wsT := (tj2 108 rfl rfl)
set_option maxRecDepth 20000 in
theorem l_L_40 : CL RL 40 yX6_hear cX6_hear 2 (some .int) 1 := ⟨Or.inl (tj2 106 rfl rfl), (tj2 109 rfl rfl), (tj1 1 rfl rfl), by decide +kernel⟩
set_option maxRecDepth 20000 in
theorem im_X7_hear : Cond.instanceMethod yX7_hear ∈ wsT := (tj4 63 rfl rfl)
set_option maxRecDepth 20000 in
theorem se_X7_hear : Cond.selects (yX7_hear).cls yX7_hear yX7_hear ∈ wsT := (tj4 64 rfl rfl)
set_option maxRecDepth 20000 in
theorem l_L_43 : CL RL 43 yX7_hear cX7_hear 2 (some .int) 1 := ⟨Or.inl (tj4 62 rfl rfl), (tj4 65 rfl rfl), (tj1 9 rfl rfl), by decide +kernel⟩
set_option maxRecDepth 20000 in
theorem im_X6_takeBack : Cond.instanceMethod yX6_takeBack ∈ wsT := (tj2 169 rfl rfl)
set_option maxRecDepth 20000 in
theorem se_X6_takeBack : Cond.selects (yX6_takeBack).cls yX6_takeBack yX6_takeBack ∈ wsT := (tj2 170 rfl rfl)
set_option maxRecDepth 20000 in
theorem l_L_44 : CL RL 44 yX6_takeBack cX6_takeBack 2 (some .int) 1 := ⟨Or.inl (tj2 168 rfl rfl), (tj2 171 rfl rfl), (tj1 1 rfl rfl), by decide +kernel⟩
set_option maxRecDepth 20000 in
theorem im_X7_takeBack : Cond.instanceMethod yX7_takeBack ∈ wsT := (tj4 110 rfl rfl)
set_option maxRecDepth 20000 in
theorem se_X7_takeBack : Cond.selects (yX7_takeBack).cls yX7_takeBack yX7_takeBack ∈ wsT := (tj4 111 rfl rfl)
set_option maxRecDepth 20000 in
theorem l_L_47 : CL RL 47 yX7_takeBack cX7_takeBack 2 (some .int) 1 := ⟨Or.inl (tj4 109 rfl rfl), (tj4 112 rfl rfl), (tj1 9 rfl rfl), by decide +kernel⟩
set_option maxRecDepth 20000 in
theorem im_X6_letBe : Cond.instanceMethod yX6_letBe ∈ wsT := (tj2 178 rfl rfl)
set_option maxRecDepth 20000 in
theorem se_X6_letBe : Cond.selects (yX6_letBe).cls yX6_letBe yX6_letBe ∈ wsT := (tj2 179 rfl rfl)
set_option maxRecDepth 20000 in
theorem l_L_48 : CL RL 48 yX6_letBe cX6_letBe 2 (some .int) 0 := ⟨Or.inl (tj2 177 rfl rfl), (tj2 180 rfl rfl), (tj1 1 rfl rfl), by decide +kernel⟩
set_option maxRecDepth 20000 in
theorem im_X7_letBe : Cond.instanceMethod yX7_letBe ∈ wsT := (tj4 121 rfl rfl)
set_option maxRecDepth 20000 in
theorem se_X7_letBe : Cond.selects (yX7_letBe).cls yX7_letBe yX7_letBe ∈ wsT := (tj4 122 rfl rfl)
set_option maxRecDepth 20000 in
theorem l_L_51 : CL RL 51 yX7_letBe cX7_letBe 1 (some .int) 0 := ⟨Or.inl (tj4 120 rfl rfl), (tj4 123 rfl rfl), (tj1 9 rfl rfl), by decide +kernel⟩
set_option maxRecDepth 20000 in
theorem im_X6_call : Cond.instanceMethod yX6_call ∈ wsT := (tj2 186 rfl rfl)
set_option maxRecDepth 20000 in
theorem se_X6_call : Cond.selects (yX6_call).cls yX6_call yX6_call ∈ wsT := (tj2 187 rfl rfl)
set_option maxRecDepth 20000 in
theorem l_L_52 : CL RL 52 yX6_call cX6_call 4 (some .int) 2 := ⟨Or.inl (tj2 185 rfl rfl), (tj2 188 rfl rfl), (tj1 1 rfl rfl), by decide +kernel⟩
set_option maxRecDepth 20000 in
theorem im_X7_call : Cond.instanceMethod yX7_call ∈ wsT := (tj4 129 rfl rfl)
set_option maxRecDepth 20000 in
theorem se_X7_call : Cond.selects (yX7_call).cls yX7_call yX7_call ∈ wsT := (tj4 130 rfl rfl)
set_option maxRecDepth 20000 in
theorem l_L_55 : CL RL 55 yX7_call cX7_call 4 (some .int) 2 := ⟨Or.inl (tj4 128 rfl rfl), (tj4 131 rfl rfl), (tj1 9 rfl rfl), by decide +kernel⟩
set_option maxRecDepth 20000 in
theorem im_X6_drift : Cond.instanceMethod yX6_drift ∈ wsT := (tj2 191 rfl rfl)
set_option maxRecDepth 20000 in
theorem se_X6_drift : Cond.selects (yX6_drift).cls yX6_drift yX6_drift ∈ wsT := (tj2 192 rfl rfl)
set_option maxRecDepth 20000 in
theorem l_L_56 : CL RL 56 yX6_drift cX6_drift 5 (some .int) 1 := ⟨Or.inl (tj2 190 rfl rfl), (tj2 193 rfl rfl), (tj1 1 rfl rfl), by decide +kernel⟩
set_option maxRecDepth 20000 in
theorem im_X7_drift : Cond.instanceMethod yX7_drift ∈ wsT := (tj4 133 rfl rfl)
set_option maxRecDepth 20000 in
theorem se_X7_drift : Cond.selects (yX7_drift).cls yX7_drift yX7_drift ∈ wsT := (tj4 134 rfl rfl)
set_option maxRecDepth 20000 in
theorem l_L_59 : CL RL 59 yX7_drift cX7_drift 5 (some .int) 1 := ⟨Or.inl (tj4 132 rfl rfl), (tj4 135 rfl rfl), (tj1 9 rfl rfl), by decide +kernel⟩
set_option maxRecDepth 20000 in
theorem im_X6_undo : Cond.instanceMethod yX6_undo ∈ wsT := (tj2 216 rfl rfl)
set_option maxRecDepth 20000 in
theorem se_X6_undo : Cond.selects (yX6_undo).cls yX6_undo yX6_undo ∈ wsT := (tj2 217 rfl rfl)
set_option maxRecDepth 20000 in
theorem l_L_60 : CL RL 60 yX6_undo cX6_undo 1 (some .int) 0 := ⟨Or.inl (tj2 215 rfl rfl), (tj2 218 rfl rfl), (tj1 1 rfl rfl), by decide +kernel⟩
set_option maxRecDepth 20000 in
theorem im_X7_undo : Cond.instanceMethod yX7_undo ∈ wsT := (tj4 152 rfl rfl)
set_option maxRecDepth 20000 in
theorem se_X7_undo : Cond.selects (yX7_undo).cls yX7_undo yX7_undo ∈ wsT := (tj4 153 rfl rfl)
set_option maxRecDepth 20000 in
theorem l_L_63 : CL RL 63 yX7_undo cX7_undo 2 (some .int) 0 := ⟨Or.inl (tj4 151 rfl rfl), (tj4 154 rfl rfl), (tj1 9 rfl rfl), by decide +kernel⟩
set_option maxRecDepth 20000 in
theorem im_X6_guess : Cond.instanceMethod yX6_guess ∈ wsT := (tj2 224 rfl rfl)
set_option maxRecDepth 20000 in
theorem se_X6_guess : Cond.selects (yX6_guess).cls yX6_guess yX6_guess ∈ wsT := (tj2 225 rfl rfl)
set_option maxRecDepth 20000 in
theorem l_L_64 : CL RL 64 yX6_guess cX6_guess 2 (some .int) 1 := ⟨Or.inl (tj2 223 rfl rfl), (tj2 226 rfl rfl), (tj1 1 rfl rfl), by decide +kernel⟩
set_option maxRecDepth 20000 in
theorem im_X7_guess : Cond.instanceMethod yX7_guess ∈ wsT := (tj4 156 rfl rfl)
set_option maxRecDepth 20000 in
theorem se_X7_guess : Cond.selects (yX7_guess).cls yX7_guess yX7_guess ∈ wsT := (tj4 157 rfl rfl)
set_option maxRecDepth 20000 in
theorem l_L_67 : CL RL 67 yX7_guess cX7_guess 2 (some .int) 1 := ⟨Or.inl (tj4 155 rfl rfl), (tj4 158 rfl rfl), (tj1 9 rfl rfl), by decide +kernel⟩
set_option maxRecDepth 20000 in
theorem im_X6_sure : Cond.instanceMethod yX6_sure ∈ wsT := (tj2 228 rfl rfl)
set_option maxRecDepth 20000 in
theorem se_X6_sure : Cond.selects (yX6_sure).cls yX6_sure yX6_sure ∈ wsT := (tj2 229 rfl rfl)
set_option maxRecDepth 20000 in
theorem l_L_68 : CL RL 68 yX6_sure cX6_sure 3 (some .int) 2 := ⟨Or.inl (tj2 227 rfl rfl), (tj2 230 rfl rfl), (tj1 1 rfl rfl), by decide +kernel⟩
set_option maxRecDepth 20000 in
theorem im_X7_sure : Cond.instanceMethod yX7_sure ∈ wsT := (tj4 160 rfl rfl)
set_option maxRecDepth 20000 in
theorem se_X7_sure : Cond.selects (yX7_sure).cls yX7_sure yX7_sure ∈ wsT := (tj4 161 rfl rfl)
set_option maxRecDepth 20000 in
theorem l_L_71 : CL RL 71 yX7_sure cX7_sure 3 (some .int) 2 := ⟨Or.inl (tj4 159 rfl rfl), (tj4 162 rfl rfl), (tj1 9 rfl rfl), by decide +kernel⟩
set_option maxRecDepth 20000 in
theorem im_X6_rule : Cond.instanceMethod yX6_rule ∈ wsT := (tj2 232 rfl rfl)
set_option maxRecDepth 20000 in
theorem se_X6_rule : Cond.selects (yX6_rule).cls yX6_rule yX6_rule ∈ wsT := (tj2 233 rfl rfl)
set_option maxRecDepth 20000 in
theorem l_L_72 : CL RL 72 yX6_rule cX6_rule 2 (some .int) 1 := ⟨Or.inl (tj2 231 rfl rfl), (tj2 234 rfl rfl), (tj1 1 rfl rfl), by decide +kernel⟩
set_option maxRecDepth 20000 in
theorem im_X7_rule : Cond.instanceMethod yX7_rule ∈ wsT := (tj4 164 rfl rfl)
set_option maxRecDepth 20000 in
theorem se_X7_rule : Cond.selects (yX7_rule).cls yX7_rule yX7_rule ∈ wsT := (tj4 165 rfl rfl)
set_option maxRecDepth 20000 in
theorem l_L_75 : CL RL 75 yX7_rule cX7_rule 2 (some .int) 1 := ⟨Or.inl (tj4 163 rfl rfl), (tj4 166 rfl rfl), (tj1 9 rfl rfl), by decide +kernel⟩
set_option maxRecDepth 20000 in
theorem im_X6_worth : Cond.instanceMethod yX6_worth ∈ wsT := (tj2 236 rfl rfl)
set_option maxRecDepth 20000 in
theorem se_X6_worth : Cond.selects (yX6_worth).cls yX6_worth yX6_worth ∈ wsT := (tj2 237 rfl rfl)
set_option maxRecDepth 20000 in
theorem l_L_76 : CL RL 76 yX6_worth cX6_worth 3 (some .int) 2 := ⟨Or.inl (tj2 235 rfl rfl), (tj2 238 rfl rfl), (tj1 1 rfl rfl), by decide +kernel⟩
set_option maxRecDepth 20000 in
theorem im_X7_worth : Cond.instanceMethod yX7_worth ∈ wsT := (tj4 168 rfl rfl)
set_option maxRecDepth 20000 in
theorem se_X7_worth : Cond.selects (yX7_worth).cls yX7_worth yX7_worth ∈ wsT := (tj4 169 rfl rfl)
set_option maxRecDepth 20000 in
theorem l_L_79 : CL RL 79 yX7_worth cX7_worth 3 (some .int) 2 := ⟨Or.inl (tj4 167 rfl rfl), (tj4 170 rfl rfl), (tj1 9 rfl rfl), by decide +kernel⟩
set_option maxRecDepth 20000 in
theorem im_X6_said : Cond.instanceMethod yX6_said ∈ wsT := (tj3 0 rfl rfl)
set_option maxRecDepth 20000 in
theorem se_X6_said : Cond.selects (yX6_said).cls yX6_said yX6_said ∈ wsT := (tj3 1 rfl rfl)
set_option maxRecDepth 20000 in
theorem l_L_80 : CL RL 80 yX6_said cX6_said 3 (some .int) 2 := ⟨Or.inl (tj2 239 rfl rfl), (tj3 2 rfl rfl), (tj1 1 rfl rfl), by decide +kernel⟩
set_option maxRecDepth 20000 in
theorem im_X7_said : Cond.instanceMethod yX7_said ∈ wsT := (tj4 172 rfl rfl)
set_option maxRecDepth 20000 in
theorem se_X7_said : Cond.selects (yX7_said).cls yX7_said yX7_said ∈ wsT := (tj4 173 rfl rfl)
set_option maxRecDepth 20000 in
theorem l_L_83 : CL RL 83 yX7_said cX7_said 3 (some .int) 2 := ⟨Or.inl (tj4 171 rfl rfl), (tj4 174 rfl rfl), (tj1 9 rfl rfl), by decide +kernel⟩
set_option maxRecDepth 20000 in
theorem im_X6_misheard : Cond.instanceMethod yX6_misheard ∈ wsT := (tj3 4 rfl rfl)
set_option maxRecDepth 20000 in
theorem se_X6_misheard : Cond.selects (yX6_misheard).cls yX6_misheard yX6_misheard ∈ wsT := (tj3 5 rfl rfl)
set_option maxRecDepth 20000 in
theorem l_L_84 : CL RL 84 yX6_misheard cX6_misheard 5 (some .int) 1 := ⟨Or.inl (tj3 3 rfl rfl), (tj3 6 rfl rfl), (tj1 1 rfl rfl), by decide +kernel⟩
set_option maxRecDepth 20000 in
theorem im_X7_misheard : Cond.instanceMethod yX7_misheard ∈ wsT := (tj4 176 rfl rfl)
set_option maxRecDepth 20000 in
theorem se_X7_misheard : Cond.selects (yX7_misheard).cls yX7_misheard yX7_misheard ∈ wsT := (tj4 177 rfl rfl)
set_option maxRecDepth 20000 in
theorem l_L_87 : CL RL 87 yX7_misheard cX7_misheard 6 (some .int) 1 := ⟨Or.inl (tj4 175 rfl rfl), (tj4 178 rfl rfl), (tj1 9 rfl rfl), by decide +kernel⟩
set_option maxRecDepth 20000 in
theorem im_X6_who : Cond.instanceMethod yX6_who ∈ wsT := (tj3 12 rfl rfl)
set_option maxRecDepth 20000 in
theorem se_X6_who : Cond.selects (yX6_who).cls yX6_who yX6_who ∈ wsT := (tj3 13 rfl rfl)
set_option maxRecDepth 20000 in
theorem l_L_88 : CL RL 88 yX6_who cX6_who 4 (some .int) 1 := ⟨Or.inl (tj3 11 rfl rfl), (tj3 14 rfl rfl), (tj1 1 rfl rfl), by decide +kernel⟩
set_option maxRecDepth 20000 in
theorem im_X7_who : Cond.instanceMethod yX7_who ∈ wsT := (tj4 180 rfl rfl)
set_option maxRecDepth 20000 in
theorem se_X7_who : Cond.selects (yX7_who).cls yX7_who yX7_who ∈ wsT := (tj4 181 rfl rfl)
set_option maxRecDepth 20000 in
theorem l_L_91 : CL RL 91 yX7_who cX7_who 4 (some .int) 1 := ⟨Or.inl (tj4 179 rfl rfl), (tj4 182 rfl rfl), (tj1 9 rfl rfl), by decide +kernel⟩
set_option maxRecDepth 20000 in
theorem im_X6_meant : Cond.instanceMethod yX6_meant ∈ wsT := (tj3 20 rfl rfl)
set_option maxRecDepth 20000 in
theorem se_X6_meant : Cond.selects (yX6_meant).cls yX6_meant yX6_meant ∈ wsT := (tj3 21 rfl rfl)
set_option maxRecDepth 20000 in
theorem l_L_92 : CL RL 92 yX6_meant cX6_meant 3 (some .int) 2 := ⟨Or.inl (tj3 19 rfl rfl), (tj3 22 rfl rfl), (tj1 1 rfl rfl), by decide +kernel⟩
set_option maxRecDepth 20000 in
theorem im_X7_meant : Cond.instanceMethod yX7_meant ∈ wsT := (tj4 188 rfl rfl)
set_option maxRecDepth 20000 in
theorem se_X7_meant : Cond.selects (yX7_meant).cls yX7_meant yX7_meant ∈ wsT := (tj4 189 rfl rfl)
set_option maxRecDepth 20000 in
theorem l_L_95 : CL RL 95 yX7_meant cX7_meant 3 (some .int) 2 := ⟨Or.inl (tj4 187 rfl rfl), (tj4 190 rfl rfl), (tj1 9 rfl rfl), by decide +kernel⟩
set_option maxRecDepth 20000 in
theorem im_X6_alike : Cond.instanceMethod yX6_alike ∈ wsT := (tj3 24 rfl rfl)
set_option maxRecDepth 20000 in
theorem se_X6_alike : Cond.selects (yX6_alike).cls yX6_alike yX6_alike ∈ wsT := (tj3 25 rfl rfl)
set_option maxRecDepth 20000 in
theorem l_L_96 : CL RL 96 yX6_alike cX6_alike 6 (some .int) 2 := ⟨Or.inl (tj3 23 rfl rfl), (tj3 26 rfl rfl), (tj1 1 rfl rfl), by decide +kernel⟩
set_option maxRecDepth 20000 in
theorem im_X7_alike : Cond.instanceMethod yX7_alike ∈ wsT := (tj4 192 rfl rfl)
set_option maxRecDepth 20000 in
theorem se_X7_alike : Cond.selects (yX7_alike).cls yX7_alike yX7_alike ∈ wsT := (tj4 193 rfl rfl)
set_option maxRecDepth 20000 in
theorem l_L_99 : CL RL 99 yX7_alike cX7_alike 7 (some .int) 2 := ⟨Or.inl (tj4 191 rfl rfl), (tj4 194 rfl rfl), (tj1 9 rfl rfl), by decide +kernel⟩
set_option maxRecDepth 20000 in
theorem im_X6_wake : Cond.instanceMethod yX6_wake ∈ wsT := (tj3 31 rfl rfl)
set_option maxRecDepth 20000 in
theorem se_X6_wake : Cond.selects (yX6_wake).cls yX6_wake yX6_wake ∈ wsT := (tj3 32 rfl rfl)
set_option maxRecDepth 20000 in
theorem l_L_100 : CL RL 100 yX6_wake cX6_wake 6 (some .int) 1 := ⟨Or.inl (tj3 30 rfl rfl), (tj3 33 rfl rfl), (tj1 1 rfl rfl), by decide +kernel⟩
set_option maxRecDepth 20000 in
theorem im_X7_wake : Cond.instanceMethod yX7_wake ∈ wsT := (tj4 196 rfl rfl)
set_option maxRecDepth 20000 in
theorem se_X7_wake : Cond.selects (yX7_wake).cls yX7_wake yX7_wake ∈ wsT := (tj4 197 rfl rfl)
set_option maxRecDepth 20000 in
theorem l_L_103 : CL RL 103 yX7_wake cX7_wake 8 (some .int) 1 := ⟨Or.inl (tj4 195 rfl rfl), (tj4 198 rfl rfl), (tj1 9 rfl rfl), by decide +kernel⟩
set_option maxRecDepth 20000 in
theorem im_X6_falsely : Cond.instanceMethod yX6_falsely ∈ wsT := (tj3 39 rfl rfl)
set_option maxRecDepth 20000 in
theorem se_X6_falsely : Cond.selects (yX6_falsely).cls yX6_falsely yX6_falsely ∈ wsT := (tj3 40 rfl rfl)
set_option maxRecDepth 20000 in
theorem l_L_104 : CL RL 104 yX6_falsely cX6_falsely 5 (some .int) 2 := ⟨Or.inl (tj3 38 rfl rfl), (tj3 41 rfl rfl), (tj1 1 rfl rfl), by decide +kernel⟩
set_option maxRecDepth 20000 in
theorem im_X7_falsely : Cond.instanceMethod yX7_falsely ∈ wsT := (tj4 200 rfl rfl)
set_option maxRecDepth 20000 in
theorem se_X7_falsely : Cond.selects (yX7_falsely).cls yX7_falsely yX7_falsely ∈ wsT := (tj4 201 rfl rfl)
set_option maxRecDepth 20000 in
theorem l_L_107 : CL RL 107 yX7_falsely cX7_falsely 5 (some .int) 2 := ⟨Or.inl (tj4 199 rfl rfl), (tj4 202 rfl rfl), (tj1 9 rfl rfl), by decide +kernel⟩
set_option maxRecDepth 20000 in
theorem im_X6_needs : Cond.instanceMethod yX6_needs ∈ wsT := (tj3 43 rfl rfl)
set_option maxRecDepth 20000 in
theorem se_X6_needs : Cond.selects (yX6_needs).cls yX6_needs yX6_needs ∈ wsT := (tj3 44 rfl rfl)
set_option maxRecDepth 20000 in
theorem l_L_108 : CL RL 108 yX6_needs cX6_needs 6 (some .int) 3 := ⟨Or.inl (tj3 42 rfl rfl), (tj3 45 rfl rfl), (tj1 1 rfl rfl), by decide +kernel⟩
set_option maxRecDepth 20000 in
theorem im_X7_needs : Cond.instanceMethod yX7_needs ∈ wsT := (tj4 204 rfl rfl)
set_option maxRecDepth 20000 in
theorem se_X7_needs : Cond.selects (yX7_needs).cls yX7_needs yX7_needs ∈ wsT := (tj4 205 rfl rfl)
set_option maxRecDepth 20000 in
theorem l_L_112 : CL RL 112 yX7_needs cX7_needs 8 (some .int) 3 := ⟨Or.inl (tj4 203 rfl rfl), (tj4 206 rfl rfl), (tj1 9 rfl rfl), by decide +kernel⟩
set_option maxRecDepth 20000 in
theorem im_X6_bestCalled : Cond.instanceMethod yX6_bestCalled ∈ wsT := (tj3 48 rfl rfl)
set_option maxRecDepth 20000 in
theorem se_X6_bestCalled : Cond.selects (yX6_bestCalled).cls yX6_bestCalled yX6_bestCalled ∈ wsT := (tj3 49 rfl rfl)
set_option maxRecDepth 20000 in
theorem l_L_113 : CL RL 113 yX6_bestCalled cX6_bestCalled 11 (some .int) 2 := ⟨Or.inl (tj3 47 rfl rfl), (tj3 50 rfl rfl), (tj1 1 rfl rfl), by decide +kernel⟩
set_option maxRecDepth 20000 in
theorem im_X7_bestCalled : Cond.instanceMethod yX7_bestCalled ∈ wsT := (tj4 208 rfl rfl)
set_option maxRecDepth 20000 in
theorem se_X7_bestCalled : Cond.selects (yX7_bestCalled).cls yX7_bestCalled yX7_bestCalled ∈ wsT := (tj4 209 rfl rfl)
set_option maxRecDepth 20000 in
theorem l_L_116 : CL RL 116 yX7_bestCalled cX7_bestCalled 8 (some .int) 2 := ⟨Or.inl (tj4 207 rfl rfl), (tj4 210 rfl rfl), (tj1 9 rfl rfl), by decide +kernel⟩
set_option maxRecDepth 20000 in
theorem im_X6_asks : Cond.instanceMethod yX6_asks ∈ wsT := (tj3 56 rfl rfl)
set_option maxRecDepth 20000 in
theorem se_X6_asks : Cond.selects (yX6_asks).cls yX6_asks yX6_asks ∈ wsT := (tj3 57 rfl rfl)
set_option maxRecDepth 20000 in
theorem l_L_117 : CL RL 117 yX6_asks cX6_asks 4 (some .int) 1 := ⟨Or.inl (tj3 55 rfl rfl), (tj3 58 rfl rfl), (tj1 1 rfl rfl), by decide +kernel⟩
set_option maxRecDepth 20000 in
theorem im_X7_asks : Cond.instanceMethod yX7_asks ∈ wsT := (tj4 216 rfl rfl)
set_option maxRecDepth 20000 in
theorem se_X7_asks : Cond.selects (yX7_asks).cls yX7_asks yX7_asks ∈ wsT := (tj4 217 rfl rfl)
set_option maxRecDepth 20000 in
theorem l_L_120 : CL RL 120 yX7_asks cX7_asks 4 (some .int) 1 := ⟨Or.inl (tj4 215 rfl rfl), (tj4 218 rfl rfl), (tj1 9 rfl rfl), by decide +kernel⟩
set_option maxRecDepth 20000 in
theorem im_X6_waked : Cond.instanceMethod yX6_waked ∈ wsT := (tj3 60 rfl rfl)
set_option maxRecDepth 20000 in
theorem se_X6_waked : Cond.selects (yX6_waked).cls yX6_waked yX6_waked ∈ wsT := (tj3 61 rfl rfl)
set_option maxRecDepth 20000 in
theorem l_L_121 : CL RL 121 yX6_waked cX6_waked 6 (some .int) 2 := ⟨Or.inl (tj3 59 rfl rfl), (tj3 62 rfl rfl), (tj1 1 rfl rfl), by decide +kernel⟩
set_option maxRecDepth 20000 in
theorem im_X7_waked : Cond.instanceMethod yX7_waked ∈ wsT := (tj4 220 rfl rfl)
set_option maxRecDepth 20000 in
theorem se_X7_waked : Cond.selects (yX7_waked).cls yX7_waked yX7_waked ∈ wsT := (tj4 221 rfl rfl)
set_option maxRecDepth 20000 in
theorem l_L_124 : CL RL 124 yX7_waked cX7_waked 6 (some .int) 2 := ⟨Or.inl (tj4 219 rfl rfl), (tj4 222 rfl rfl), (tj1 9 rfl rfl), by decide +kernel⟩
set_option maxRecDepth 20000 in
theorem im_X6_see : Cond.instanceMethod yX6_see ∈ wsT := (tj3 66 rfl rfl)
set_option maxRecDepth 20000 in
theorem se_X6_see : Cond.selects (yX6_see).cls yX6_see yX6_see ∈ wsT := (tj3 67 rfl rfl)
set_option maxRecDepth 20000 in
theorem l_L_125 : CL RL 125 yX6_see cX6_see 3 (some .int) 2 := ⟨Or.inl (tj3 65 rfl rfl), (tj3 68 rfl rfl), (tj1 1 rfl rfl), by decide +kernel⟩
set_option maxRecDepth 20000 in
theorem im_X7_see : Cond.instanceMethod yX7_see ∈ wsT := (tj4 226 rfl rfl)
set_option maxRecDepth 20000 in
theorem se_X7_see : Cond.selects (yX7_see).cls yX7_see yX7_see ∈ wsT := (tj4 227 rfl rfl)
set_option maxRecDepth 20000 in
theorem l_L_128 : CL RL 128 yX7_see cX7_see 3 (some .int) 2 := ⟨Or.inl (tj4 225 rfl rfl), (tj4 228 rfl rfl), (tj1 9 rfl rfl), by decide +kernel⟩
set_option maxRecDepth 20000 in
theorem l_L_129 : CL RL 129 yX6_speaker cX6_speaker 3 (some .int) 0 := ⟨Or.inl (tj3 73 rfl rfl), (tj3 76 rfl rfl), (tj1 1 rfl rfl), by decide +kernel⟩
set_option maxRecDepth 20000 in
theorem l_L_132 : CL RL 132 yX7_speaker cX7_speaker 5 (some .int) 0 := ⟨Or.inl (tj4 229 rfl rfl), (tj4 232 rfl rfl), (tj1 9 rfl rfl), by decide +kernel⟩
set_option maxRecDepth 20000 in
theorem im_X6_sayNext : Cond.instanceMethod yX6_sayNext ∈ wsT := (tj3 82 rfl rfl)
set_option maxRecDepth 20000 in
theorem se_X6_sayNext : Cond.selects (yX6_sayNext).cls yX6_sayNext yX6_sayNext ∈ wsT := (tj3 83 rfl rfl)
set_option maxRecDepth 20000 in
theorem l_L_133 : CL RL 133 yX6_sayNext cX6_sayNext 6 (some .int) 0 := ⟨Or.inl (tj3 81 rfl rfl), (tj3 84 rfl rfl), (tj1 1 rfl rfl), by decide +kernel⟩
set_option maxRecDepth 20000 in
theorem im_X7_sayNext : Cond.instanceMethod yX7_sayNext ∈ wsT := (tj4 234 rfl rfl)
set_option maxRecDepth 20000 in
theorem se_X7_sayNext : Cond.selects (yX7_sayNext).cls yX7_sayNext yX7_sayNext ∈ wsT := (tj4 235 rfl rfl)
set_option maxRecDepth 20000 in
theorem l_L_136 : CL RL 136 yX7_sayNext cX7_sayNext 6 (some .int) 0 := ⟨Or.inl (tj4 233 rfl rfl), (tj4 236 rfl rfl), (tj1 9 rfl rfl), by decide +kernel⟩
set_option maxRecDepth 20000 in
theorem im_X6_write : Cond.instanceMethod yX6_write ∈ wsT := (tj3 98 rfl rfl)
set_option maxRecDepth 20000 in
theorem se_X6_write : Cond.selects (yX6_write).cls yX6_write yX6_write ∈ wsT := (tj3 99 rfl rfl)
set_option maxRecDepth 20000 in
theorem l_L_137 : CL RL 137 yX6_write cX6_write 3 (some .int) 2 := ⟨Or.inl (tj3 97 rfl rfl), (tj3 100 rfl rfl), (tj1 1 rfl rfl), by decide +kernel⟩
set_option maxRecDepth 20000 in
theorem im_X7_write : Cond.instanceMethod yX7_write ∈ wsT := (tj5 6 rfl rfl)
set_option maxRecDepth 20000 in
theorem se_X7_write : Cond.selects (yX7_write).cls yX7_write yX7_write ∈ wsT := (tj5 7 rfl rfl)
set_option maxRecDepth 20000 in
theorem l_L_140 : CL RL 140 yX7_write cX7_write 3 (some .int) 2 := ⟨Or.inl (tj5 5 rfl rfl), (tj5 8 rfl rfl), (tj1 9 rfl rfl), by decide +kernel⟩
set_option maxRecDepth 20000 in
theorem im_X6_tear : Cond.instanceMethod yX6_tear ∈ wsT := (tj3 102 rfl rfl)
set_option maxRecDepth 20000 in
theorem se_X6_tear : Cond.selects (yX6_tear).cls yX6_tear yX6_tear ∈ wsT := (tj3 103 rfl rfl)
set_option maxRecDepth 20000 in
theorem l_L_141 : CL RL 141 yX6_tear cX6_tear 2 (some .int) 0 := ⟨Or.inl (tj3 101 rfl rfl), (tj3 104 rfl rfl), (tj1 1 rfl rfl), by decide +kernel⟩
set_option maxRecDepth 20000 in
theorem im_X7_tear : Cond.instanceMethod yX7_tear ∈ wsT := (tj5 10 rfl rfl)
set_option maxRecDepth 20000 in
theorem se_X7_tear : Cond.selects (yX7_tear).cls yX7_tear yX7_tear ∈ wsT := (tj5 11 rfl rfl)
set_option maxRecDepth 20000 in
theorem l_L_144 : CL RL 144 yX7_tear cX7_tear 2 (some .int) 0 := ⟨Or.inl (tj5 9 rfl rfl), (tj5 12 rfl rfl), (tj1 9 rfl rfl), by decide +kernel⟩
set_option maxRecDepth 20000 in
theorem im_X6_judge : Cond.instanceMethod yX6_judge ∈ wsT := (tj3 106 rfl rfl)
set_option maxRecDepth 20000 in
theorem se_X6_judge : Cond.selects (yX6_judge).cls yX6_judge yX6_judge ∈ wsT := (tj3 107 rfl rfl)
set_option maxRecDepth 20000 in
theorem l_L_145 : CL RL 145 yX6_judge cX6_judge 3 (some .int) 0 := ⟨Or.inl (tj3 105 rfl rfl), (tj3 108 rfl rfl), (tj1 1 rfl rfl), by decide +kernel⟩
set_option maxRecDepth 20000 in
theorem im_X7_judge : Cond.instanceMethod yX7_judge ∈ wsT := (tj5 14 rfl rfl)
set_option maxRecDepth 20000 in
theorem se_X7_judge : Cond.selects (yX7_judge).cls yX7_judge yX7_judge ∈ wsT := (tj5 15 rfl rfl)
set_option maxRecDepth 20000 in
theorem l_L_148 : CL RL 148 yX7_judge cX7_judge 3 (some .int) 0 := ⟨Or.inl (tj5 13 rfl rfl), (tj5 16 rfl rfl), (tj1 9 rfl rfl), by decide +kernel⟩
set_option maxRecDepth 20000 in
theorem im_X6_seed : Cond.instanceMethod yX6_seed ∈ wsT := (tj3 110 rfl rfl)
set_option maxRecDepth 20000 in
theorem se_X6_seed : Cond.selects (yX6_seed).cls yX6_seed yX6_seed ∈ wsT := (tj3 111 rfl rfl)
set_option maxRecDepth 20000 in
theorem l_L_149 : CL RL 149 yX6_seed cX6_seed 3 (some .int) 1 := ⟨Or.inl (tj3 109 rfl rfl), (tj3 112 rfl rfl), (tj1 1 rfl rfl), by decide +kernel⟩
set_option maxRecDepth 20000 in
theorem im_X7_seed : Cond.instanceMethod yX7_seed ∈ wsT := (tj5 18 rfl rfl)
set_option maxRecDepth 20000 in
theorem se_X7_seed : Cond.selects (yX7_seed).cls yX7_seed yX7_seed ∈ wsT := (tj5 19 rfl rfl)
set_option maxRecDepth 20000 in
theorem l_L_152 : CL RL 152 yX7_seed cX7_seed 3 (some .int) 1 := ⟨Or.inl (tj5 17 rfl rfl), (tj5 20 rfl rfl), (tj1 9 rfl rfl), by decide +kernel⟩
set_option maxRecDepth 20000 in
theorem im_X6_keep : Cond.instanceMethod yX6_keep ∈ wsT := (tj3 114 rfl rfl)
set_option maxRecDepth 20000 in
theorem se_X6_keep : Cond.selects (yX6_keep).cls yX6_keep yX6_keep ∈ wsT := (tj3 115 rfl rfl)
set_option maxRecDepth 20000 in
theorem l_L_153 : CL RL 153 yX6_keep cX6_keep 2 (some .int) 1 := ⟨Or.inl (tj3 113 rfl rfl), (tj3 116 rfl rfl), (tj1 1 rfl rfl), by decide +kernel⟩
set_option maxRecDepth 20000 in
theorem im_X7_keep : Cond.instanceMethod yX7_keep ∈ wsT := (tj5 22 rfl rfl)
set_option maxRecDepth 20000 in
theorem se_X7_keep : Cond.selects (yX7_keep).cls yX7_keep yX7_keep ∈ wsT := (tj5 23 rfl rfl)
set_option maxRecDepth 20000 in
theorem l_L_156 : CL RL 156 yX7_keep cX7_keep 3 (some .int) 1 := ⟨Or.inl (tj5 21 rfl rfl), (tj5 24 rfl rfl), (tj1 9 rfl rfl), by decide +kernel⟩
set_option maxRecDepth 20000 in
theorem im_X6_goBack : Cond.instanceMethod yX6_goBack ∈ wsT := (tj3 121 rfl rfl)
set_option maxRecDepth 20000 in
theorem se_X6_goBack : Cond.selects (yX6_goBack).cls yX6_goBack yX6_goBack ∈ wsT := (tj3 122 rfl rfl)
set_option maxRecDepth 20000 in
theorem l_L_157 : CL RL 157 yX6_goBack cX6_goBack 2 (some .int) 1 := ⟨Or.inl (tj3 120 rfl rfl), (tj3 123 rfl rfl), (tj1 1 rfl rfl), by decide +kernel⟩
set_option maxRecDepth 20000 in
theorem im_X7_goBack : Cond.instanceMethod yX7_goBack ∈ wsT := (tj5 26 rfl rfl)
set_option maxRecDepth 20000 in
theorem se_X7_goBack : Cond.selects (yX7_goBack).cls yX7_goBack yX7_goBack ∈ wsT := (tj5 27 rfl rfl)
set_option maxRecDepth 20000 in
theorem l_L_160 : CL RL 160 yX7_goBack cX7_goBack 3 (some .int) 1 := ⟨Or.inl (tj5 25 rfl rfl), (tj5 28 rfl rfl), (tj1 9 rfl rfl), by decide +kernel⟩
set_option maxRecDepth 20000 in
theorem ac_I : Cond.arrayClass .int ∈ wsT := (tj1 40 rfl rfl)
set_option maxRecDepth 20000 in
theorem ac_J : Cond.arrayClass .long ∈ wsT := (tj3 219 rfl rfl)
set_option maxRecDepth 20000 in
theorem ac_Z : Cond.arrayClass .boolean ∈ wsT := (tj3 218 rfl rfl)
/-! ===== END words ===== -/
