set_option maxRecDepth 100000 in
theorem cl_0 : ∀ w ∈ u_ws RX0 TX0 (zn 0), w ∈ lw_tbl := by decide +kernel
theorem dv_0 : ∀ j, j < zn 0 → defaultValue (tyX0 j) = if zr 0 j = true then .null else .int 0 := by decide +kernel
set_option maxRecDepth 100000 in
theorem cl_1 : ∀ w ∈ u_ws RX1 TX1 (zn 1), w ∈ lw_tbl := by decide +kernel
theorem dv_1 : ∀ j, j < zn 1 → defaultValue (tyX1 j) = if zr 1 j = true then .null else .int 0 := by decide +kernel
set_option maxRecDepth 100000 in
theorem cl_2 : ∀ w ∈ u_ws RX2 TX2 (zn 2), w ∈ lw_tbl := by decide +kernel
theorem dv_2 : ∀ j, j < zn 2 → defaultValue (tyX2 j) = if zr 2 j = true then .null else .int 0 := by decide +kernel
set_option maxRecDepth 100000 in
theorem cl_3 : ∀ w ∈ u_ws RX3 TX3 (zn 3), w ∈ lw_tbl := by decide +kernel
theorem dv_3 : ∀ j, j < zn 3 → defaultValue (tyX3 j) = if zr 3 j = true then .null else .int 0 := by decide +kernel
set_option maxRecDepth 100000 in
theorem cl_4 : ∀ w ∈ u_ws RX4 TX4 (zn 4), w ∈ lw_tbl := by decide +kernel
theorem dv_4 : ∀ j, j < zn 4 → defaultValue (tyX4 j) = if zr 4 j = true then .null else .int 0 := by decide +kernel
set_option maxRecDepth 100000 in
theorem cl_5 : ∀ w ∈ u_ws RX5 TX5 (zn 5), w ∈ lw_tbl := by decide +kernel
theorem dv_5 : ∀ j, j < zn 5 → defaultValue (tyX5 j) = if zr 5 j = true then .null else .int 0 := by decide +kernel
set_option maxRecDepth 100000 in
theorem cl_6 : ∀ w ∈ u_ws RX6 TX6 (zn 6), w ∈ lw_tbl := by decide +kernel
theorem dv_6 : ∀ j, j < zn 6 → defaultValue (tyX6 j) = if zr 6 j = true then .null else .int 0 := by decide +kernel
set_option maxRecDepth 100000 in
theorem cl_7 : ∀ w ∈ u_ws RX7 TX7 (zn 7), w ∈ lw_tbl := by decide +kernel
theorem dv_7 : ∀ j, j < zn 7 → defaultValue (tyX7 j) = if zr 7 j = true then .null else .int 0 := by decide +kernel
set_option maxRecDepth 100000 in
theorem cl_8 : ∀ w ∈ u_ws RX8 TX8 (zn 8), w ∈ lw_tbl := by decide +kernel
theorem dv_8 : ∀ j, j < zn 8 → defaultValue (tyX8 j) = if zr 8 j = true then .null else .int 0 := by decide +kernel
set_option maxRecDepth 100000 in
theorem cl_9 : ∀ w ∈ u_ws RX9 TX9 (zn 9), w ∈ lw_tbl := by decide +kernel
theorem dv_9 : ∀ j, j < zn 9 → defaultValue (tyX9 j) = if zr 9 j = true then .null else .int 0 := by decide +kernel
set_option maxRecDepth 100000 in
theorem cl_10 : ∀ w ∈ u_ws RX10 TX10 (zn 10), w ∈ lw_tbl := by decide +kernel
theorem dv_10 : ∀ j, j < zn 10 → defaultValue (tyX10 j) = if zr 10 j = true then .null else .int 0 := by decide +kernel
set_option maxRecDepth 100000 in
theorem cl_11 : ∀ w ∈ u_ws RX11 TX11 (zn 11), w ∈ lw_tbl := by decide +kernel
theorem dv_11 : ∀ j, j < zn 11 → defaultValue (tyX11 j) = if zr 11 j = true then .null else .int 0 := by decide +kernel
theorem lk_10_1 : Cond.methodLink RX10 1 objectInit ∈ lw_tbl := in_t1 26 rfl
theorem kl_10_7 : Cond.classLink RX10 7 RX7 ∈ lw_tbl := in_t1 29 rfl
theorem lk_10_9 : zLk RX10 9 yX7_init := Or.inr ⟨"WalkTeller", in_t1 31 rfl⟩
theorem fw_10_10 : zFl RX10 10 10 0 true (.object "WalkTeller$Town") := ⟨RX10, TX10, tyX10, rfl, cl_10, tyX10_ok, nmX10, by decide, Or.inl (in_t1 144 rfl), rfl, by decide +kernel, fun _ => ⟨rfl, in_t1 144 rfl⟩⟩
theorem fl_10_10 : zFg RX10 10 10 0 := ⟨RX10, TX10, rfl, cl_10, by decide, Or.inl (in_t1 144 rfl)⟩
theorem kl_10_16 : Cond.classLink RX10 16 RX6 ∈ lw_tbl := in_t1 58 rfl
theorem lk_10_18 : zLk RX10 18 yX6_init := Or.inr ⟨"WalkTeller", in_t1 60 rfl⟩
theorem fw_10_19 : zFl RX10 19 10 1 true (.object "WalkTeller$Tape") := ⟨RX10, TX10, tyX10, rfl, cl_10, tyX10_ok, nmX10, by decide, Or.inl (in_t1 145 rfl), rfl, by decide +kernel, fun _ => ⟨rfl, in_t1 145 rfl⟩⟩
theorem fl_10_19 : zFg RX10 19 10 1 := ⟨RX10, TX10, rfl, cl_10, by decide, Or.inl (in_t1 145 rfl)⟩
theorem kl_10_23 : Cond.classLink RX10 23 RX0 ∈ lw_tbl := in_t1 74 rfl
theorem fw_10_25 : zFl RX10 25 10 2 true (.array (.object "WalkTeller$Edition")) := ⟨RX10, TX10, tyX10, rfl, cl_10, tyX10_ok, nmX10, by decide, Or.inl (in_t1 146 rfl), rfl, by decide +kernel, fun _ => ⟨rfl, in_t1 146 rfl⟩⟩
theorem fl_10_25 : zFg RX10 25 10 2 := ⟨RX10, TX10, rfl, cl_10, by decide, Or.inl (in_t1 146 rfl)⟩
theorem kl_10_29 : Cond.classLink RX10 29 RX8 ∈ lw_tbl := in_t1 76 rfl
theorem fw_10_31 : zFl RX10 31 10 3 true (.array (.object "WalkTeller$Walker")) := ⟨RX10, TX10, tyX10, rfl, cl_10, tyX10_ok, nmX10, by decide, Or.inl (in_t1 147 rfl), rfl, by decide +kernel, fun _ => ⟨rfl, in_t1 147 rfl⟩⟩
theorem fl_10_31 : zFg RX10 31 10 3 := ⟨RX10, TX10, rfl, cl_10, by decide, Or.inl (in_t1 147 rfl)⟩
theorem kl_10_35 : Cond.classLink RX10 35 RX5 ∈ lw_tbl := in_t1 78 rfl
theorem fw_10_37 : zFl RX10 37 10 4 true (.array (.object "WalkTeller$Sheet")) := ⟨RX10, TX10, tyX10, rfl, cl_10, tyX10_ok, nmX10, by decide, Or.inl (in_t1 148 rfl), rfl, by decide +kernel, fun _ => ⟨rfl, in_t1 148 rfl⟩⟩
theorem fl_10_37 : zFg RX10 37 10 4 := ⟨RX10, TX10, rfl, cl_10, by decide, Or.inl (in_t1 148 rfl)⟩
theorem kl_10_41 : Cond.classLink RX10 41 RX4 ∈ lw_tbl := in_t1 80 rfl
theorem lk_10_43 : zLk RX10 43 yX4_init := Or.inr ⟨"WalkTeller", in_t1 82 rfl⟩
theorem fw_10_44 : zFl RX10 44 10 5 true (.object "WalkTeller$Search") := ⟨RX10, TX10, tyX10, rfl, cl_10, tyX10_ok, nmX10, by decide, Or.inl (in_t1 149 rfl), rfl, by decide +kernel, fun _ => ⟨rfl, in_t1 149 rfl⟩⟩
theorem fl_10_44 : zFg RX10 44 10 5 := ⟨RX10, TX10, rfl, cl_10, by decide, Or.inl (in_t1 149 rfl)⟩
theorem fw_10_48 : zFl RX10 48 10 6 false .int := ⟨RX10, TX10, tyX10, rfl, cl_10, tyX10_ok, nmX10, by decide, Or.inl (in_t1 150 rfl), rfl, by decide +kernel, fun h => by cases h⟩
theorem fl_10_48 : zFg RX10 48 10 6 := ⟨RX10, TX10, rfl, cl_10, by decide, Or.inl (in_t1 150 rfl)⟩
theorem fw_10_52 : zFl RX10 52 10 7 false .int := ⟨RX10, TX10, tyX10, rfl, cl_10, tyX10_ok, nmX10, by decide, Or.inl (in_t1 151 rfl), rfl, by decide +kernel, fun h => by cases h⟩
theorem fl_10_52 : zFg RX10 52 10 7 := ⟨RX10, TX10, rfl, cl_10, by decide, Or.inl (in_t1 151 rfl)⟩
theorem fw_10_55 : zFl RX10 55 10 8 false .int := ⟨RX10, TX10, tyX10, rfl, cl_10, tyX10_ok, nmX10, by decide, Or.inl (in_t1 152 rfl), rfl, by decide +kernel, fun h => by cases h⟩
theorem fl_10_55 : zFg RX10 55 10 8 := ⟨RX10, TX10, rfl, cl_10, by decide, Or.inl (in_t1 152 rfl)⟩
theorem fw_10_58 : zFl RX10 58 10 9 false .int := ⟨RX10, TX10, tyX10, rfl, cl_10, tyX10_ok, nmX10, by decide, Or.inl (in_t1 153 rfl), rfl, by decide +kernel, fun h => by cases h⟩
theorem fl_10_58 : zFg RX10 58 10 9 := ⟨RX10, TX10, rfl, cl_10, by decide, Or.inl (in_t1 153 rfl)⟩
theorem lk_10_61 : zLk RX10 61 yX10_isWithin := Or.inl (in_t1 179 rfl)
theorem kc_10_65 : Cond.constant RX10 65 (-1000001) ∈ lw_tbl := in_t1 182 rfl
theorem lk_10_66 : zLk RX10 66 yX10_finding := Or.inl (in_t1 183 rfl)
theorem fw_10_70 : zFl RX10 70 7 3 false .int := ⟨RX7, TX7, tyX7, rfl, cl_7, tyX7_ok, nmX7, by decide, Or.inr ⟨"WalkTeller", in_t1 42 rfl⟩, rfl, by decide +kernel, fun h => by cases h⟩
theorem fl_10_70 : zFg RX10 70 7 3 := ⟨RX7, TX7, rfl, cl_7, by decide, Or.inr ⟨"WalkTeller", in_t1 42 rfl⟩⟩
theorem kc_10_73 : Cond.constant RX10 73 (-1000002) ∈ lw_tbl := in_t1 187 rfl
theorem lk_10_74 : zLk RX10 74 yX7_addCorner := Or.inl (in_t1 188 rfl)
theorem lk_10_78 : zLk RX10 78 yX7_hasCorner := Or.inl (in_t1 196 rfl)
theorem fw_10_82 : zFl RX10 82 7 4 false .int := ⟨RX7, TX7, tyX7, rfl, cl_7, tyX7_ok, nmX7, by decide, Or.inr ⟨"WalkTeller", in_t1 45 rfl⟩, rfl, by decide +kernel, fun h => by cases h⟩
theorem fl_10_82 : zFg RX10 82 7 4 := ⟨RX7, TX7, rfl, cl_7, by decide, Or.inr ⟨"WalkTeller", in_t1 45 rfl⟩⟩
theorem kl_10_85 : Cond.classLink RX10 85 RX9 ∈ lw_tbl := in_t1 201 rfl
theorem lk_10_87 : zLk RX10 87 yX9_init := Or.inl (in_t1 203 rfl)
theorem lk_10_90 : zLk RX10 90 yX7_addWay := Or.inl (in_t1 228 rfl)
theorem lk_10_94 : zLk RX10 94 yX7_findWay := Or.inl (in_t1 236 rfl)
theorem fw_10_98 : zFl RX10 98 9 4 false .int := ⟨RX9, TX9, tyX9, rfl, cl_9, tyX9_ok, nmX9, by decide, Or.inr ⟨"WalkTeller", in_t1 216 rfl⟩, rfl, by decide +kernel, fun h => by cases h⟩
theorem fl_10_98 : zFg RX10 98 9 4 := ⟨RX9, TX9, rfl, cl_9, by decide, Or.inr ⟨"WalkTeller", in_t1 216 rfl⟩⟩
theorem lk_10_101 : zLk RX10 101 yX10_isDay := Or.inl (in_t2 4 rfl)
theorem lk_10_104 : zLk RX10 104 yX4_distance := Or.inl (in_t2 7 rfl)
theorem lk_10_108 : zLk RX10 108 yX10_timeOrNone := Or.inl (in_t2 56 rfl)
theorem fw_10_111 : zFl RX10 111 6 1 false .int := ⟨RX6, TX6, tyX6, rfl, cl_6, tyX6_ok, nmX6, by decide, Or.inr ⟨"WalkTeller", in_t1 67 rfl⟩, rfl, by decide +kernel, fun h => by cases h⟩
theorem fl_10_111 : zFg RX10 111 6 1 := ⟨RX6, TX6, rfl, cl_6, by decide, Or.inr ⟨"WalkTeller", in_t1 67 rfl⟩⟩
theorem lk_10_114 : zLk RX10 114 yX6_append := Or.inl (in_t2 66 rfl)
theorem kl_10_118 : Cond.classLink RX10 118 RX3 ∈ lw_tbl := in_t2 74 rfl
theorem lk_10_120 : zLk RX10 120 yX3_init := Or.inl (in_t2 76 rfl)
theorem lk_10_123 : zLk RX10 123 yX3_readEdition := Or.inl (in_t2 91 rfl)
theorem kc_10_127 : Cond.constant RX10 127 (-1000100) ∈ lw_tbl := in_t2 206 rfl
theorem fw_10_128 : zFl RX10 128 3 2 false .int := ⟨RX3, TX3, tyX3, rfl, cl_3, tyX3_ok, nmX3, by decide, Or.inr ⟨"WalkTeller", in_t2 83 rfl⟩, rfl, by decide +kernel, fun h => by cases h⟩
theorem fl_10_128 : zFg RX10 128 3 2 := ⟨RX3, TX3, rfl, cl_3, by decide, Or.inr ⟨"WalkTeller", in_t2 83 rfl⟩⟩
theorem lk_10_131 : zLk RX10 131 yX10_findPiece := Or.inl (in_t2 211 rfl)
theorem lk_10_135 : zLk RX10 135 yX2_isOfKind := Or.inl (in_t2 224 rfl)
theorem kc_10_140 : Cond.constant RX10 140 (-1000003) ∈ lw_tbl := in_t2 228 rfl
theorem fl_10_141 : zFg RX10 141 2 0 := ⟨RX2, TX2, rfl, cl_2, by decide, Or.inr ⟨"WalkTeller", in_t2 180 rfl⟩⟩
theorem fl_10_144 : zFg RX10 144 2 1 := ⟨RX2, TX2, rfl, cl_2, by decide, Or.inr ⟨"WalkTeller", in_t2 182 rfl⟩⟩
theorem fl_10_147 : zFg RX10 147 2 2 := ⟨RX2, TX2, rfl, cl_2, by decide, Or.inr ⟨"WalkTeller", in_t2 186 rfl⟩⟩
theorem fl_10_148 : zFg RX10 148 2 3 := ⟨RX2, TX2, rfl, cl_2, by decide, Or.inr ⟨"WalkTeller", in_t2 188 rfl⟩⟩
theorem fl_10_151 : zFg RX10 151 2 4 := ⟨RX2, TX2, rfl, cl_2, by decide, Or.inr ⟨"WalkTeller", in_t2 190 rfl⟩⟩
theorem lk_10_154 : zLk RX10 154 yX10_searchAnew := Or.inl (in_t2 237 rfl)
theorem lk_10_158 : zLk RX10 158 yX4_countMoments := Or.inl (in_t3 45 rfl)
theorem lk_10_162 : zLk RX10 162 yX4_countDeadEnds := Or.inl (in_t3 55 rfl)
theorem lk_10_165 : zLk RX10 165 yX4_countTwoVoices := Or.inl (in_t3 59 rfl)
theorem lk_10_168 : zLk RX10 168 yX4_heardInSome := Or.inl (in_t3 68 rfl)
theorem lk_10_171 : zLk RX10 171 yX4_timeFrom := Or.inl (in_t3 76 rfl)
theorem kc_10_174 : Cond.constant RX10 174 (1000000000) ∈ lw_tbl := in_t2 60 rfl
theorem kc_10_175 : Cond.constant RX10 175 (-1000004) ∈ lw_tbl := in_t2 61 rfl
theorem lk_10_176 : zLk RX10 176 yX4_cornerOnQuickest := Or.inl (in_t3 81 rfl)
theorem lk_10_179 : zLk RX10 179 yX10_findEdition := Or.inl (in_t2 215 rfl)
theorem kc_10_183 : Cond.constant RX10 183 (-1000005) ∈ lw_tbl := in_t3 98 rfl
theorem lk_10_184 : zLk RX10 184 yX8_init := Or.inl (in_t3 100 rfl)
theorem lk_10_187 : zLk RX10 187 yX8_arrive := Or.inl (in_t3 139 rfl)
theorem lk_10_190 : zLk RX10 190 yX8_listen := Or.inl (in_t3 162 rfl)
theorem lk_10_193 : zLk RX10 193 yX10_findWalker := Or.inl (in_t3 167 rfl)
theorem lk_10_197 : zLk RX10 197 yX8_isOver := Or.inl (in_t3 171 rfl)
theorem fw_10_201 : zFl RX10 201 8 3 false .int := ⟨RX8, TX8, tyX8, rfl, cl_8, tyX8_ok, nmX8, by decide, Or.inr ⟨"WalkTeller", in_t3 111 rfl⟩, rfl, by decide +kernel, fun h => by cases h⟩
theorem fl_10_201 : zFg RX10 201 8 3 := ⟨RX8, TX8, rfl, cl_8, by decide, Or.inr ⟨"WalkTeller", in_t3 111 rfl⟩⟩
theorem lk_10_202 : zLk RX10 202 yX9_leadsFrom := Or.inl (in_t3 172 rfl)
theorem lk_10_205 : zLk RX10 205 yX9_isShut := Or.inl (in_t3 176 rfl)
theorem fl_10_208 : zFg RX10 208 8 2 := ⟨RX8, TX8, rfl, cl_8, by decide, Or.inr ⟨"WalkTeller", in_t3 109 rfl⟩⟩
theorem lk_10_212 : zLk RX10 212 yX9_isFor := Or.inl (in_t3 177 rfl)
theorem fw_10_216 : zFl RX10 216 8 5 false .int := ⟨RX8, TX8, tyX8, rfl, cl_8, tyX8_ok, nmX8, by decide, Or.inr ⟨"WalkTeller", in_t3 115 rfl⟩, rfl, by decide +kernel, fun h => by cases h⟩
theorem fl_10_216 : zFg RX10 216 8 5 := ⟨RX8, TX8, rfl, cl_8, by decide, Or.inr ⟨"WalkTeller", in_t3 115 rfl⟩⟩
theorem fl_10_219 : zFg RX10 219 9 2 := ⟨RX9, TX9, rfl, cl_9, by decide, Or.inr ⟨"WalkTeller", in_t1 213 rfl⟩⟩
theorem lk_10_220 : zLk RX10 220 yX9_otherEnd := Or.inl (in_t3 178 rfl)
theorem fw_10_223 : zFl RX10 223 8 4 false .int := ⟨RX8, TX8, tyX8, rfl, cl_8, tyX8_ok, nmX8, by decide, Or.inr ⟨"WalkTeller", in_t3 113 rfl⟩, rfl, by decide +kernel, fun h => by cases h⟩
theorem fl_10_223 : zFg RX10 223 8 4 := ⟨RX8, TX8, rfl, cl_8, by decide, Or.inr ⟨"WalkTeller", in_t3 113 rfl⟩⟩
theorem fl_10_226 : zFg RX10 226 8 1 := ⟨RX8, TX8, rfl, cl_8, by decide, Or.inr ⟨"WalkTeller", in_t3 107 rfl⟩⟩
theorem fw_10_229 : zFl RX10 229 8 6 false .int := ⟨RX8, TX8, tyX8, rfl, cl_8, tyX8_ok, nmX8, by decide, Or.inr ⟨"WalkTeller", in_t3 117 rfl⟩, rfl, by decide +kernel, fun h => by cases h⟩
theorem fl_10_229 : zFg RX10 229 8 6 := ⟨RX8, TX8, rfl, cl_8, by decide, Or.inr ⟨"WalkTeller", in_t3 117 rfl⟩⟩
theorem lk_10_232 : zLk RX10 232 yX10_searchFrom := Or.inl (in_t3 190 rfl)
theorem lk_10_236 : zLk RX10 236 yX10_bestNextCorner := Or.inl (in_t3 194 rfl)
theorem fl_10_240 : zFg RX10 240 8 0 := ⟨RX8, TX8, rfl, cl_8, by decide, Or.inr ⟨"WalkTeller", in_t3 105 rfl⟩⟩
theorem lk_10_244 : zLk RX10 244 yX0_allPieces := Or.inl (in_t3 211 rfl)
theorem lk_10_247 : zLk RX10 247 yX10_isDoubt := Or.inl (in_t3 219 rfl)
theorem lk_10_250 : zLk RX10 250 yX8_takeReading := Or.inl (in_t3 222 rfl)
theorem lk_10_254 : zLk RX10 254 yX10_isSheet := Or.inl (in_t4 12 rfl)
theorem lk_10_257 : zLk RX10 257 yX10_isSheetBits := Or.inl (in_t4 15 rfl)
theorem kc_10_260 : Cond.constant RX10 260 (-1000007) ∈ lw_tbl := in_t4 18 rfl
theorem lk_10_261 : zLk RX10 261 yX5_init := Or.inl (in_t4 20 rfl)
theorem kc_10_264 : Cond.constant RX10 264 (-1000006) ∈ lw_tbl := in_t4 40 rfl
theorem fl_10_265 : zFg RX10 265 5 1 := ⟨RX5, TX5, rfl, cl_5, by decide, Or.inr ⟨"WalkTeller", in_t4 30 rfl⟩⟩
theorem lk_10_269 : zLk RX10 269 yX5_lowestBits := Or.inl (in_t4 41 rfl)
theorem fl_10_272 : zFg RX10 272 5 0 := ⟨RX5, TX5, rfl, cl_5, by decide, Or.inr ⟨"WalkTeller", in_t4 28 rfl⟩⟩
theorem lk_10_275 : zLk RX10 275 yX5_hasRange := Or.inl (in_t4 49 rfl)
theorem lk_10_279 : Cond.methodLink RX10 279 arraycopyName ∈ lw_tbl := in_t4 53 rfl
theorem lk_10_285 : zLk RX10 285 yX0_findPiece := Or.inl (in_t2 219 rfl)
theorem lk_10_288 : zLk RX10 288 yX4_explore := Or.inl (in_t3 1 rfl)
theorem lk_10_292 : zLk RX10 292 yX4_timeBy := Or.inl (in_t3 198 rfl)
theorem lk_10_296 : zLk RX10 296 yX10_countWalking := Or.inl (in_t3 199 rfl)
theorem lk_11_1 : Cond.methodLink RX11 1 objectInit ∈ lw_tbl := in_t4 69 rfl
theorem fw_11_9 : zFl RX11 9 11 1 true (.array .int) := ⟨RX11, TX11, tyX11, rfl, cl_11, tyX11_ok, nmX11, by decide, Or.inl (in_t4 72 rfl), rfl, by decide +kernel, fun _ => ⟨rfl, in_t4 72 rfl⟩⟩
theorem fl_11_9 : zFg RX11 9 11 1 := ⟨RX11, TX11, rfl, cl_11, by decide, Or.inl (in_t4 72 rfl)⟩
theorem fw_11_13 : zFl RX11 13 11 2 true (.array .int) := ⟨RX11, TX11, tyX11, rfl, cl_11, tyX11_ok, nmX11, by decide, Or.inl (in_t4 73 rfl), rfl, by decide +kernel, fun _ => ⟨rfl, in_t4 73 rfl⟩⟩
theorem fl_11_13 : zFg RX11 13 11 2 := ⟨RX11, TX11, rfl, cl_11, by decide, Or.inl (in_t4 73 rfl)⟩
theorem fw_11_16 : zFl RX11 16 11 4 true (.array .int) := ⟨RX11, TX11, tyX11, rfl, cl_11, tyX11_ok, nmX11, by decide, Or.inl (in_t4 75 rfl), rfl, by decide +kernel, fun _ => ⟨rfl, in_t4 75 rfl⟩⟩
theorem fl_11_16 : zFg RX11 16 11 4 := ⟨RX11, TX11, rfl, cl_11, by decide, Or.inl (in_t4 75 rfl)⟩
theorem fw_11_19 : zFl RX11 19 11 5 true (.array .int) := ⟨RX11, TX11, tyX11, rfl, cl_11, tyX11_ok, nmX11, by decide, Or.inl (in_t4 76 rfl), rfl, by decide +kernel, fun _ => ⟨rfl, in_t4 76 rfl⟩⟩
theorem fl_11_19 : zFg RX11 19 11 5 := ⟨RX11, TX11, rfl, cl_11, by decide, Or.inl (in_t4 76 rfl)⟩
theorem fw_11_22 : zFl RX11 22 11 6 true (.array .int) := ⟨RX11, TX11, tyX11, rfl, cl_11, tyX11_ok, nmX11, by decide, Or.inl (in_t4 77 rfl), rfl, by decide +kernel, fun _ => ⟨rfl, in_t4 77 rfl⟩⟩
theorem fl_11_22 : zFg RX11 22 11 6 := ⟨RX11, TX11, rfl, cl_11, by decide, Or.inl (in_t4 77 rfl)⟩
theorem fw_11_25 : zFl RX11 25 11 7 true (.array .boolean) := ⟨RX11, TX11, tyX11, rfl, cl_11, tyX11_ok, nmX11, by decide, Or.inl (in_t4 78 rfl), rfl, by decide +kernel, fun _ => ⟨rfl, in_t4 78 rfl⟩⟩
theorem fl_11_25 : zFg RX11 25 11 7 := ⟨RX11, TX11, rfl, cl_11, by decide, Or.inl (in_t4 78 rfl)⟩
theorem fw_11_29 : zFl RX11 29 11 8 true (.array .int) := ⟨RX11, TX11, tyX11, rfl, cl_11, tyX11_ok, nmX11, by decide, Or.inl (in_t4 79 rfl), rfl, by decide +kernel, fun _ => ⟨rfl, in_t4 79 rfl⟩⟩
theorem fl_11_29 : zFg RX11 29 11 8 := ⟨RX11, TX11, rfl, cl_11, by decide, Or.inl (in_t4 79 rfl)⟩
theorem fw_11_32 : zFl RX11 32 11 10 true (.array .int) := ⟨RX11, TX11, tyX11, rfl, cl_11, tyX11_ok, nmX11, by decide, Or.inl (in_t4 81 rfl), rfl, by decide +kernel, fun _ => ⟨rfl, in_t4 81 rfl⟩⟩
theorem fl_11_32 : zFg RX11 32 11 10 := ⟨RX11, TX11, rfl, cl_11, by decide, Or.inl (in_t4 81 rfl)⟩
theorem fw_11_35 : zFl RX11 35 11 11 true (.array .int) := ⟨RX11, TX11, tyX11, rfl, cl_11, tyX11_ok, nmX11, by decide, Or.inl (in_t4 82 rfl), rfl, by decide +kernel, fun _ => ⟨rfl, in_t4 82 rfl⟩⟩
theorem fl_11_35 : zFg RX11 35 11 11 := ⟨RX11, TX11, rfl, cl_11, by decide, Or.inl (in_t4 82 rfl)⟩
theorem fw_11_38 : zFl RX11 38 11 12 true (.array .int) := ⟨RX11, TX11, tyX11, rfl, cl_11, tyX11_ok, nmX11, by decide, Or.inl (in_t4 83 rfl), rfl, by decide +kernel, fun _ => ⟨rfl, in_t4 83 rfl⟩⟩
theorem fl_11_38 : zFg RX11 38 11 12 := ⟨RX11, TX11, rfl, cl_11, by decide, Or.inl (in_t4 83 rfl)⟩
theorem fw_11_41 : zFl RX11 41 11 13 true (.array .int) := ⟨RX11, TX11, tyX11, rfl, cl_11, tyX11_ok, nmX11, by decide, Or.inl (in_t4 84 rfl), rfl, by decide +kernel, fun _ => ⟨rfl, in_t4 84 rfl⟩⟩
theorem fl_11_41 : zFg RX11 41 11 13 := ⟨RX11, TX11, rfl, cl_11, by decide, Or.inl (in_t4 84 rfl)⟩
theorem fw_11_44 : zFl RX11 44 11 14 true (.array .int) := ⟨RX11, TX11, tyX11, rfl, cl_11, tyX11_ok, nmX11, by decide, Or.inl (in_t4 85 rfl), rfl, by decide +kernel, fun _ => ⟨rfl, in_t4 85 rfl⟩⟩
theorem fl_11_44 : zFg RX11 44 11 14 := ⟨RX11, TX11, rfl, cl_11, by decide, Or.inl (in_t4 85 rfl)⟩
theorem fw_11_47 : zFl RX11 47 11 15 true (.array .int) := ⟨RX11, TX11, tyX11, rfl, cl_11, tyX11_ok, nmX11, by decide, Or.inl (in_t4 86 rfl), rfl, by decide +kernel, fun _ => ⟨rfl, in_t4 86 rfl⟩⟩
theorem fl_11_47 : zFg RX11 47 11 15 := ⟨RX11, TX11, rfl, cl_11, by decide, Or.inl (in_t4 86 rfl)⟩
theorem fw_11_50 : zFl RX11 50 11 16 true (.array .int) := ⟨RX11, TX11, tyX11, rfl, cl_11, tyX11_ok, nmX11, by decide, Or.inl (in_t4 87 rfl), rfl, by decide +kernel, fun _ => ⟨rfl, in_t4 87 rfl⟩⟩
theorem fl_11_50 : zFg RX11 50 11 16 := ⟨RX11, TX11, rfl, cl_11, by decide, Or.inl (in_t4 87 rfl)⟩
theorem fw_11_53 : zFl RX11 53 11 19 true (.array .int) := ⟨RX11, TX11, tyX11, rfl, cl_11, tyX11_ok, nmX11, by decide, Or.inl (in_t4 90 rfl), rfl, by decide +kernel, fun _ => ⟨rfl, in_t4 90 rfl⟩⟩
theorem fl_11_53 : zFg RX11 53 11 19 := ⟨RX11, TX11, rfl, cl_11, by decide, Or.inl (in_t4 90 rfl)⟩
theorem fw_11_56 : zFl RX11 56 11 20 true (.array .int) := ⟨RX11, TX11, tyX11, rfl, cl_11, tyX11_ok, nmX11, by decide, Or.inl (in_t4 91 rfl), rfl, by decide +kernel, fun _ => ⟨rfl, in_t4 91 rfl⟩⟩
theorem fl_11_56 : zFg RX11 56 11 20 := ⟨RX11, TX11, rfl, cl_11, by decide, Or.inl (in_t4 91 rfl)⟩
theorem fw_11_59 : zFl RX11 59 11 21 true (.array .int) := ⟨RX11, TX11, tyX11, rfl, cl_11, tyX11_ok, nmX11, by decide, Or.inl (in_t4 92 rfl), rfl, by decide +kernel, fun _ => ⟨rfl, in_t4 92 rfl⟩⟩
theorem fl_11_59 : zFg RX11 59 11 21 := ⟨RX11, TX11, rfl, cl_11, by decide, Or.inl (in_t4 92 rfl)⟩
theorem fw_11_62 : zFl RX11 62 11 22 true (.array .int) := ⟨RX11, TX11, tyX11, rfl, cl_11, tyX11_ok, nmX11, by decide, Or.inl (in_t4 93 rfl), rfl, by decide +kernel, fun _ => ⟨rfl, in_t4 93 rfl⟩⟩
theorem fl_11_62 : zFg RX11 62 11 22 := ⟨RX11, TX11, rfl, cl_11, by decide, Or.inl (in_t4 93 rfl)⟩
theorem fw_11_65 : zFl RX11 65 11 23 true (.array .boolean) := ⟨RX11, TX11, tyX11, rfl, cl_11, tyX11_ok, nmX11, by decide, Or.inl (in_t4 94 rfl), rfl, by decide +kernel, fun _ => ⟨rfl, in_t4 94 rfl⟩⟩
theorem fl_11_65 : zFg RX11 65 11 23 := ⟨RX11, TX11, rfl, cl_11, by decide, Or.inl (in_t4 94 rfl)⟩
theorem fw_11_68 : zFl RX11 68 11 24 true (.array .int) := ⟨RX11, TX11, tyX11, rfl, cl_11, tyX11_ok, nmX11, by decide, Or.inl (in_t4 95 rfl), rfl, by decide +kernel, fun _ => ⟨rfl, in_t4 95 rfl⟩⟩
theorem fl_11_68 : zFg RX11 68 11 24 := ⟨RX11, TX11, rfl, cl_11, by decide, Or.inl (in_t4 95 rfl)⟩
theorem fw_11_71 : zFl RX11 71 11 25 true (.array .int) := ⟨RX11, TX11, tyX11, rfl, cl_11, tyX11_ok, nmX11, by decide, Or.inl (in_t4 96 rfl), rfl, by decide +kernel, fun _ => ⟨rfl, in_t4 96 rfl⟩⟩
theorem fl_11_71 : zFg RX11 71 11 25 := ⟨RX11, TX11, rfl, cl_11, by decide, Or.inl (in_t4 96 rfl)⟩
theorem fw_11_74 : zFl RX11 74 11 26 true (.array .int) := ⟨RX11, TX11, tyX11, rfl, cl_11, tyX11_ok, nmX11, by decide, Or.inl (in_t4 97 rfl), rfl, by decide +kernel, fun _ => ⟨rfl, in_t4 97 rfl⟩⟩
theorem fl_11_74 : zFg RX11 74 11 26 := ⟨RX11, TX11, rfl, cl_11, by decide, Or.inl (in_t4 97 rfl)⟩
theorem fw_11_77 : zFl RX11 77 11 28 true (.array .int) := ⟨RX11, TX11, tyX11, rfl, cl_11, tyX11_ok, nmX11, by decide, Or.inl (in_t4 99 rfl), rfl, by decide +kernel, fun _ => ⟨rfl, in_t4 99 rfl⟩⟩
theorem fl_11_77 : zFg RX11 77 11 28 := ⟨RX11, TX11, rfl, cl_11, by decide, Or.inl (in_t4 99 rfl)⟩
theorem fw_11_80 : zFl RX11 80 11 29 true (.array .int) := ⟨RX11, TX11, tyX11, rfl, cl_11, tyX11_ok, nmX11, by decide, Or.inl (in_t4 100 rfl), rfl, by decide +kernel, fun _ => ⟨rfl, in_t4 100 rfl⟩⟩
theorem fl_11_80 : zFg RX11 80 11 29 := ⟨RX11, TX11, rfl, cl_11, by decide, Or.inl (in_t4 100 rfl)⟩
theorem fw_11_83 : zFl RX11 83 11 30 true (.array .int) := ⟨RX11, TX11, tyX11, rfl, cl_11, tyX11_ok, nmX11, by decide, Or.inl (in_t4 101 rfl), rfl, by decide +kernel, fun _ => ⟨rfl, in_t4 101 rfl⟩⟩
theorem fl_11_83 : zFg RX11 83 11 30 := ⟨RX11, TX11, rfl, cl_11, by decide, Or.inl (in_t4 101 rfl)⟩
theorem fw_11_86 : zFl RX11 86 11 34 true (.array .int) := ⟨RX11, TX11, tyX11, rfl, cl_11, tyX11_ok, nmX11, by decide, Or.inl (in_t4 105 rfl), rfl, by decide +kernel, fun _ => ⟨rfl, in_t4 105 rfl⟩⟩
theorem fl_11_86 : zFg RX11 86 11 34 := ⟨RX11, TX11, rfl, cl_11, by decide, Or.inl (in_t4 105 rfl)⟩
theorem fw_11_89 : zFl RX11 89 11 35 true (.array .int) := ⟨RX11, TX11, tyX11, rfl, cl_11, tyX11_ok, nmX11, by decide, Or.inl (in_t4 106 rfl), rfl, by decide +kernel, fun _ => ⟨rfl, in_t4 106 rfl⟩⟩
theorem fl_11_89 : zFg RX11 89 11 35 := ⟨RX11, TX11, rfl, cl_11, by decide, Or.inl (in_t4 106 rfl)⟩
theorem fw_11_92 : zFl RX11 92 11 36 true (.array .int) := ⟨RX11, TX11, tyX11, rfl, cl_11, tyX11_ok, nmX11, by decide, Or.inl (in_t4 107 rfl), rfl, by decide +kernel, fun _ => ⟨rfl, in_t4 107 rfl⟩⟩
theorem fl_11_92 : zFg RX11 92 11 36 := ⟨RX11, TX11, rfl, cl_11, by decide, Or.inl (in_t4 107 rfl)⟩
theorem fw_11_95 : zFl RX11 95 11 37 true (.array .int) := ⟨RX11, TX11, tyX11, rfl, cl_11, tyX11_ok, nmX11, by decide, Or.inl (in_t4 108 rfl), rfl, by decide +kernel, fun _ => ⟨rfl, in_t4 108 rfl⟩⟩
theorem fl_11_95 : zFg RX11 95 11 37 := ⟨RX11, TX11, rfl, cl_11, by decide, Or.inl (in_t4 108 rfl)⟩
theorem fw_11_98 : zFl RX11 98 11 38 true (.array .int) := ⟨RX11, TX11, tyX11, rfl, cl_11, tyX11_ok, nmX11, by decide, Or.inl (in_t4 109 rfl), rfl, by decide +kernel, fun _ => ⟨rfl, in_t4 109 rfl⟩⟩
theorem fl_11_98 : zFg RX11 98 11 38 := ⟨RX11, TX11, rfl, cl_11, by decide, Or.inl (in_t4 109 rfl)⟩
theorem kc_11_101 : Cond.constant RX11 101 (32768) ∈ lw_tbl := in_t4 70 rfl
theorem fw_11_102 : zFl RX11 102 11 39 true (.array .int) := ⟨RX11, TX11, tyX11, rfl, cl_11, tyX11_ok, nmX11, by decide, Or.inl (in_t4 110 rfl), rfl, by decide +kernel, fun _ => ⟨rfl, in_t4 110 rfl⟩⟩
theorem fl_11_102 : zFg RX11 102 11 39 := ⟨RX11, TX11, rfl, cl_11, by decide, Or.inl (in_t4 110 rfl)⟩
theorem fw_11_105 : zFl RX11 105 11 40 true (.array .boolean) := ⟨RX11, TX11, tyX11, rfl, cl_11, tyX11_ok, nmX11, by decide, Or.inl (in_t4 111 rfl), rfl, by decide +kernel, fun _ => ⟨rfl, in_t4 111 rfl⟩⟩
theorem fl_11_105 : zFg RX11 105 11 40 := ⟨RX11, TX11, rfl, cl_11, by decide, Or.inl (in_t4 111 rfl)⟩
theorem fw_11_108 : zFl RX11 108 11 41 true (.array .int) := ⟨RX11, TX11, tyX11, rfl, cl_11, tyX11_ok, nmX11, by decide, Or.inl (in_t4 112 rfl), rfl, by decide +kernel, fun _ => ⟨rfl, in_t4 112 rfl⟩⟩
theorem fl_11_108 : zFg RX11 108 11 41 := ⟨RX11, TX11, rfl, cl_11, by decide, Or.inl (in_t4 112 rfl)⟩
theorem fw_11_111 : zFl RX11 111 11 43 true (.array .int) := ⟨RX11, TX11, tyX11, rfl, cl_11, tyX11_ok, nmX11, by decide, Or.inl (in_t4 114 rfl), rfl, by decide +kernel, fun _ => ⟨rfl, in_t4 114 rfl⟩⟩
theorem fl_11_111 : zFg RX11 111 11 43 := ⟨RX11, TX11, rfl, cl_11, by decide, Or.inl (in_t4 114 rfl)⟩
theorem fw_11_114 : zFl RX11 114 11 31 false .int := ⟨RX11, TX11, tyX11, rfl, cl_11, tyX11_ok, nmX11, by decide, Or.inl (in_t4 102 rfl), rfl, by decide +kernel, fun h => by cases h⟩
theorem fl_11_114 : zFg RX11 114 11 31 := ⟨RX11, TX11, rfl, cl_11, by decide, Or.inl (in_t4 102 rfl)⟩
theorem fw_11_118 : zFl RX11 118 11 0 false .int := ⟨RX11, TX11, tyX11, rfl, cl_11, tyX11_ok, nmX11, by decide, Or.inl (in_t4 71 rfl), rfl, by decide +kernel, fun h => by cases h⟩
theorem fl_11_118 : zFg RX11 118 11 0 := ⟨RX11, TX11, rfl, cl_11, by decide, Or.inl (in_t4 71 rfl)⟩
theorem lk_11_121 : zLk RX11 121 yX11_within := Or.inl (in_t4 209 rfl)
theorem fw_11_125 : zFl RX11 125 11 3 false .int := ⟨RX11, TX11, tyX11, rfl, cl_11, tyX11_ok, nmX11, by decide, Or.inl (in_t4 74 rfl), rfl, by decide +kernel, fun h => by cases h⟩
theorem fl_11_125 : zFg RX11 125 11 3 := ⟨RX11, TX11, rfl, cl_11, by decide, Or.inl (in_t4 74 rfl)⟩
theorem fw_11_128 : zFl RX11 128 11 18 false .int := ⟨RX11, TX11, tyX11, rfl, cl_11, tyX11_ok, nmX11, by decide, Or.inl (in_t4 89 rfl), rfl, by decide +kernel, fun h => by cases h⟩
theorem fl_11_128 : zFg RX11 128 11 18 := ⟨RX11, TX11, rfl, cl_11, by decide, Or.inl (in_t4 89 rfl)⟩
theorem kc_11_131 : Cond.constant RX11 131 (-1000001) ∈ lw_tbl := in_t4 212 rfl
theorem lk_11_132 : zLk RX11 132 yX11_finding := Or.inl (in_t4 213 rfl)
theorem kc_11_136 : Cond.constant RX11 136 (-1000002) ∈ lw_tbl := in_t4 217 rfl
theorem lk_11_137 : zLk RX11 137 yX11_isCorner := Or.inl (in_t4 222 rfl)
theorem lk_11_141 : zLk RX11 141 yX11_isWay := Or.inl (in_t4 230 rfl)
theorem lk_11_144 : zLk RX11 144 yX11_isDay := Or.inl (in_t4 238 rfl)
theorem kc_11_147 : Cond.constant RX11 147 (100000000) ∈ lw_tbl := in_t5 1 rfl
theorem lk_11_148 : zLk RX11 148 yX11_isOpen := Or.inl (in_t5 2 rfl)
theorem lk_11_152 : Cond.methodLink RX11 152 Lib.Math.min.name ∈ lw_tbl := in_t5 6 rfl
theorem kc_11_158 : Cond.constant RX11 158 (-1000004) ∈ lw_tbl := in_t5 7 rfl
theorem fw_11_159 : zFl RX11 159 11 17 false .int := ⟨RX11, TX11, tyX11, rfl, cl_11, tyX11_ok, nmX11, by decide, Or.inl (in_t4 88 rfl), rfl, by decide +kernel, fun h => by cases h⟩
theorem fl_11_159 : zFg RX11 159 11 17 := ⟨RX11, TX11, rfl, cl_11, by decide, Or.inl (in_t4 88 rfl)⟩
theorem kc_11_162 : Cond.constantLong RX11 162 (255) ∈ lw_tbl := in_t5 12 rfl
theorem fw_11_164 : zFl RX11 164 11 32 false .int := ⟨RX11, TX11, tyX11, rfl, cl_11, tyX11_ok, nmX11, by decide, Or.inl (in_t4 103 rfl), rfl, by decide +kernel, fun h => by cases h⟩
theorem fl_11_164 : zFg RX11 164 11 32 := ⟨RX11, TX11, rfl, cl_11, by decide, Or.inl (in_t4 103 rfl)⟩
theorem fw_11_167 : zFl RX11 167 11 33 false .int := ⟨RX11, TX11, tyX11, rfl, cl_11, tyX11_ok, nmX11, by decide, Or.inl (in_t4 104 rfl), rfl, by decide +kernel, fun h => by cases h⟩
theorem fl_11_167 : zFg RX11 167 11 33 := ⟨RX11, TX11, rfl, cl_11, by decide, Or.inl (in_t4 104 rfl)⟩
theorem lk_11_170 : zLk RX11 170 yX11_byteAt := Or.inl (in_t5 25 rfl)
theorem lk_11_173 : zLk RX11 173 yX11_kindBy := Or.inl (in_t5 29 rfl)
theorem lk_11_176 : zLk RX11 176 yX11_readsDays := Or.inl (in_t5 32 rfl)
theorem lk_11_180 : zLk RX11 180 yX11_readsPiece := Or.inl (in_t5 21 rfl)
theorem kc_11_183 : Cond.constant RX11 183 (-1000100) ∈ lw_tbl := in_t5 36 rfl
theorem fw_11_184 : zFl RX11 184 11 9 false .int := ⟨RX11, TX11, tyX11, rfl, cl_11, tyX11_ok, nmX11, by decide, Or.inl (in_t4 80 rfl), rfl, by decide +kernel, fun h => by cases h⟩
theorem fl_11_184 : zFg RX11 184 11 9 := ⟨RX11, TX11, rfl, cl_11, by decide, Or.inl (in_t4 80 rfl)⟩
theorem lk_11_187 : zLk RX11 187 yX11_newEdition := Or.inl (in_t5 17 rfl)
theorem lk_11_191 : zLk RX11 191 yX11_isEdition := Or.inl (in_t5 45 rfl)
theorem lk_11_194 : zLk RX11 194 yX11_isPiece := Or.inl (in_t5 41 rfl)
theorem kc_11_198 : Cond.constant RX11 198 (-1000003) ∈ lw_tbl := in_t5 49 rfl
theorem lk_11_199 : zLk RX11 199 yX11_canTell := Or.inl (in_t5 77 rfl)
theorem lk_11_203 : zLk RX11 203 yX11_isOver := Or.inl (in_t5 69 rfl)
theorem lk_11_206 : zLk RX11 206 yX11_nextPiece := Or.inl (in_t5 73 rfl)
theorem lk_11_210 : zLk RX11 210 yX11_momentOf := Or.inl (in_t5 62 rfl)
theorem lk_11_213 : zLk RX11 213 yX11_comesNearer := Or.inl (in_t5 89 rfl)
theorem fw_11_217 : zFl RX11 217 11 42 false .int := ⟨RX11, TX11, tyX11, rfl, cl_11, tyX11_ok, nmX11, by decide, Or.inl (in_t4 113 rfl), rfl, by decide +kernel, fun h => by cases h⟩
theorem fl_11_217 : zFg RX11 217 11 42 := ⟨RX11, TX11, rfl, cl_11, by decide, Or.inl (in_t4 113 rfl)⟩
theorem lk_11_220 : zLk RX11 220 yX11_meets := Or.inl (in_t5 65 rfl)
theorem lk_11_224 : zLk RX11 224 yX11_findMoments := Or.inl (in_t5 58 rfl)
theorem lk_11_228 : zLk RX11 228 yX11_allHeard := Or.inl (in_t5 81 rfl)
theorem lk_11_231 : zLk RX11 231 yX11_findTimes := Or.inl (in_t5 85 rfl)
theorem lk_11_235 : zLk RX11 235 yX11_manyCan := Or.inl (in_t5 93 rfl)
theorem lk_11_238 : zLk RX11 238 yX11_canAsk := Or.inl (in_t5 101 rfl)
theorem lk_11_241 : zLk RX11 241 yX11_goesTo := Or.inl (in_t5 109 rfl)
theorem fw_11_245 : zFl RX11 245 11 27 false .int := ⟨RX11, TX11, tyX11, rfl, cl_11, tyX11_ok, nmX11, by decide, Or.inl (in_t4 98 rfl), rfl, by decide +kernel, fun h => by cases h⟩
theorem fl_11_245 : zFg RX11 245 11 27 := ⟨RX11, TX11, rfl, cl_11, by decide, Or.inl (in_t4 98 rfl)⟩
theorem kc_11_248 : Cond.constant RX11 248 (-1000005) ∈ lw_tbl := in_t5 117 rfl
theorem lk_11_249 : zLk RX11 249 yX11_listens := Or.inl (in_t5 118 rfl)
theorem lk_11_252 : zLk RX11 252 yX11_isWalker := Or.inl (in_t5 130 rfl)
theorem lk_11_255 : zLk RX11 255 yX11_isDone := Or.inl (in_t5 134 rfl)
theorem lk_11_258 : zLk RX11 258 yX11_comes := Or.inl (in_t5 138 rfl)
theorem lk_11_261 : zLk RX11 261 yX11_wayTo := Or.inl (in_t5 150 rfl)
theorem lk_11_264 : zLk RX11 264 yX11_othersAt := Or.inl (in_t5 154 rfl)
theorem lk_11_267 : zLk RX11 267 yJ9_abs_067f4 := Or.inl (in_t5 178 rfl)
theorem lk_11_271 : zLk RX11 271 yX11_isPossible := Or.inl (in_t5 174 rfl)
theorem lk_11_275 : zLk RX11 275 yX11_reads := Or.inl (in_t5 170 rfl)
theorem lk_11_279 : zLk RX11 279 yX11_isSheet := Or.inl (in_t5 185 rfl)
theorem kc_11_282 : Cond.constant RX11 282 (-1000007) ∈ lw_tbl := in_t5 188 rfl
theorem kc_11_283 : Cond.constant RX11 283 (-1000006) ∈ lw_tbl := in_t5 193 rfl
theorem lk_0_3 : Cond.methodLink RX0 3 objectInit ∈ lw_tbl := in_t1 105 rfl
theorem kl_0_9 : Cond.classLink RX0 9 RX2 ∈ lw_tbl := in_t1 106 rfl
theorem fw_0_11 : zFl RX0 11 0 0 true (.array (.object "WalkTeller$Piece")) := ⟨RX0, TX0, tyX0, rfl, cl_0, tyX0_ok, nmX0, by decide, Or.inl (in_t1 108 rfl), rfl, by decide +kernel, fun _ => ⟨rfl, in_t1 108 rfl⟩⟩
theorem fl_0_11 : zFg RX0 11 0 0 := ⟨RX0, TX0, rfl, cl_0, by decide, Or.inl (in_t1 108 rfl)⟩
theorem fw_0_17 : zFl RX0 17 0 1 false .int := ⟨RX0, TX0, tyX0, rfl, cl_0, tyX0_ok, nmX0, by decide, Or.inl (in_t1 109 rfl), rfl, by decide +kernel, fun h => by cases h⟩
theorem fl_0_17 : zFg RX0 17 0 1 := ⟨RX0, TX0, rfl, cl_0, by decide, Or.inl (in_t1 109 rfl)⟩
theorem fw_0_21 : zFl RX0 21 0 2 false .int := ⟨RX0, TX0, tyX0, rfl, cl_0, tyX0_ok, nmX0, by decide, Or.inl (in_t1 111 rfl), rfl, by decide +kernel, fun h => by cases h⟩
theorem fl_0_21 : zFg RX0 21 0 2 := ⟨RX0, TX0, rfl, cl_0, by decide, Or.inl (in_t1 111 rfl)⟩
theorem fl_0_24 : zFg RX0 24 2 0 := ⟨RX2, TX2, rfl, cl_2, by decide, Or.inr ⟨"WalkTeller", in_t2 179 rfl⟩⟩
theorem lk_0_27 : zLk RX0 27 yX10_isWithin := Or.inr ⟨"WalkTeller", in_t2 223 rfl⟩
theorem lk_0_31 : zLk RX0 31 yX10_has := Or.inr ⟨"WalkTeller", in_t3 26 rfl⟩
theorem lk_0_35 : zLk RX0 35 yX2_fits := Or.inl (in_t3 27 rfl)
theorem lk_0_38 : zLk RX0 38 yX0_nextPiece := Or.inl (in_t3 67 rfl)
theorem lk_1_3 : Cond.methodLink RX1 3 objectInit ∈ lw_tbl := in_t1 91 rfl
theorem fw_1_9 : zFl RX1 9 1 0 true (.array .int) := ⟨RX1, TX1, tyX1, rfl, cl_1, tyX1_ok, nmX1, by decide, Or.inl (in_t1 92 rfl), rfl, by decide +kernel, fun _ => ⟨rfl, in_t1 92 rfl⟩⟩
theorem fl_1_9 : zFg RX1 9 1 0 := ⟨RX1, TX1, rfl, cl_1, by decide, Or.inl (in_t1 92 rfl)⟩
theorem fw_1_15 : zFl RX1 15 1 1 true (.array .int) := ⟨RX1, TX1, tyX1, rfl, cl_1, tyX1_ok, nmX1, by decide, Or.inl (in_t1 93 rfl), rfl, by decide +kernel, fun _ => ⟨rfl, in_t1 93 rfl⟩⟩
theorem fl_1_15 : zFg RX1 15 1 1 := ⟨RX1, TX1, rfl, cl_1, by decide, Or.inl (in_t1 93 rfl)⟩
theorem kc_1_18 : Cond.constant RX1 18 (1000000000) ∈ lw_tbl := in_t2 15 rfl
theorem lk_1_19 : zLk RX1 19 yJ7_fill_53178 := Or.inl (in_t2 16 rfl)
theorem fw_1_25 : zFl RX1 25 7 4 false .int := ⟨RX7, TX7, tyX7, rfl, cl_7, tyX7_ok, nmX7, by decide, Or.inr ⟨"WalkTeller", in_t1 44 rfl⟩, rfl, by decide +kernel, fun h => by cases h⟩
theorem fl_1_25 : zFg RX1 25 7 4 := ⟨RX7, TX7, rfl, cl_7, by decide, Or.inr ⟨"WalkTeller", in_t1 44 rfl⟩⟩
theorem fl_1_31 : zFg RX1 31 7 2 := ⟨RX7, TX7, rfl, cl_7, by decide, Or.inr ⟨"WalkTeller", in_t1 40 rfl⟩⟩
theorem lk_1_35 : zLk RX1 35 yX9_isOpen := Or.inl (in_t2 19 rfl)
theorem fl_1_41 : zFg RX1 41 9 0 := ⟨RX9, TX9, rfl, cl_9, by decide, Or.inr ⟨"WalkTeller", in_t1 208 rfl⟩⟩
theorem fl_1_44 : zFg RX1 44 9 1 := ⟨RX9, TX9, rfl, cl_9, by decide, Or.inr ⟨"WalkTeller", in_t1 210 rfl⟩⟩
theorem fl_1_47 : zFg RX1 47 9 2 := ⟨RX9, TX9, rfl, cl_9, by decide, Or.inr ⟨"WalkTeller", in_t1 212 rfl⟩⟩
theorem lk_1_50 : zLk RX1 50 yX1_join := Or.inl (in_t2 34 rfl)
theorem lk_1_54 : Cond.methodLink RX1 54 Lib.Math.min.name ∈ lw_tbl := in_t2 38 rfl
theorem lk_1_60 : zLk RX1 60 yX10_has := Or.inr ⟨"WalkTeller", in_t2 47 rfl⟩
theorem lk_1_64 : zLk RX1 64 yX1_lessenOne := Or.inl (in_t2 48 rfl)
theorem lk_1_68 : zLk RX1 68 yX1_step := Or.inl (in_t2 52 rfl)
theorem lk_2_3 : Cond.methodLink RX2 3 objectInit ∈ lw_tbl := in_t2 177 rfl
theorem fw_2_9 : zFl RX2 9 2 0 true .int := ⟨RX2, TX2, tyX2, rfl, cl_2, tyX2_ok, nmX2, by decide, Or.inl (in_t2 178 rfl), rfl, by decide +kernel, fun _ => ⟨rfl, in_t2 178 rfl⟩⟩
theorem fl_2_9 : zFg RX2 9 2 0 := ⟨RX2, TX2, rfl, cl_2, by decide, Or.inl (in_t2 178 rfl)⟩
theorem fw_2_15 : zFl RX2 15 2 1 true .int := ⟨RX2, TX2, tyX2, rfl, cl_2, tyX2_ok, nmX2, by decide, Or.inl (in_t2 181 rfl), rfl, by decide +kernel, fun _ => ⟨rfl, in_t2 181 rfl⟩⟩
theorem fl_2_15 : zFg RX2 15 2 1 := ⟨RX2, TX2, rfl, cl_2, by decide, Or.inl (in_t2 181 rfl)⟩
theorem fw_2_18 : zFl RX2 18 2 2 true .int := ⟨RX2, TX2, tyX2, rfl, cl_2, tyX2_ok, nmX2, by decide, Or.inl (in_t2 183 rfl), rfl, by decide +kernel, fun _ => ⟨rfl, in_t2 183 rfl⟩⟩
theorem fl_2_18 : zFg RX2 18 2 2 := ⟨RX2, TX2, rfl, cl_2, by decide, Or.inl (in_t2 183 rfl)⟩
theorem fw_2_21 : zFl RX2 21 2 3 true .int := ⟨RX2, TX2, tyX2, rfl, cl_2, tyX2_ok, nmX2, by decide, Or.inl (in_t2 187 rfl), rfl, by decide +kernel, fun _ => ⟨rfl, in_t2 187 rfl⟩⟩
theorem fl_2_21 : zFg RX2 21 2 3 := ⟨RX2, TX2, rfl, cl_2, by decide, Or.inl (in_t2 187 rfl)⟩
theorem fw_2_24 : zFl RX2 24 2 4 true .int := ⟨RX2, TX2, tyX2, rfl, cl_2, tyX2_ok, nmX2, by decide, Or.inl (in_t2 189 rfl), rfl, by decide +kernel, fun _ => ⟨rfl, in_t2 189 rfl⟩⟩
theorem fl_2_24 : zFg RX2 24 2 4 := ⟨RX2, TX2, rfl, cl_2, by decide, Or.inl (in_t2 189 rfl)⟩
theorem lk_3_3 : Cond.methodLink RX3 3 objectInit ∈ lw_tbl := in_t2 79 rfl
theorem fw_3_9 : zFl RX3 9 3 2 false .int := ⟨RX3, TX3, tyX3, rfl, cl_3, tyX3_ok, nmX3, by decide, Or.inl (in_t2 82 rfl), rfl, by decide +kernel, fun h => by cases h⟩
theorem fl_3_9 : zFg RX3 9 3 2 := ⟨RX3, TX3, rfl, cl_3, by decide, Or.inl (in_t2 82 rfl)⟩
theorem fw_3_15 : zFl RX3 15 3 0 true (.object "WalkTeller$Tape") := ⟨RX3, TX3, tyX3, rfl, cl_3, tyX3_ok, nmX3, by decide, Or.inl (in_t2 80 rfl), rfl, by decide +kernel, fun _ => ⟨rfl, in_t2 80 rfl⟩⟩
theorem fl_3_15 : zFg RX3 15 3 0 := ⟨RX3, TX3, rfl, cl_3, by decide, Or.inl (in_t2 80 rfl)⟩
theorem fw_3_19 : zFl RX3 19 3 1 true .int := ⟨RX3, TX3, tyX3, rfl, cl_3, tyX3_ok, nmX3, by decide, Or.inl (in_t2 81 rfl), rfl, by decide +kernel, fun _ => ⟨rfl, in_t2 81 rfl⟩⟩
theorem fl_3_19 : zFg RX3 19 3 1 := ⟨RX3, TX3, rfl, cl_3, by decide, Or.inl (in_t2 81 rfl)⟩
theorem kl_3_22 : Cond.classLink RX3 22 RX0 ∈ lw_tbl := in_t2 95 rfl
theorem lk_3_24 : zLk RX3 24 yX0_init := Or.inr ⟨"WalkTeller", in_t2 96 rfl⟩
theorem lk_3_25 : zLk RX3 25 yX3_readPiece := Or.inl (in_t2 97 rfl)
theorem lk_3_29 : zLk RX3 29 yX0_addPiece := Or.inl (in_t2 202 rfl)
theorem fw_3_33 : zFl RX3 33 6 1 false .int := ⟨RX6, TX6, tyX6, rfl, cl_6, tyX6_ok, nmX6, by decide, Or.inr ⟨"WalkTeller", in_t1 66 rfl⟩, rfl, by decide +kernel, fun h => by cases h⟩
theorem fl_3_33 : zFg RX3 33 6 1 := ⟨RX6, TX6, rfl, cl_6, by decide, Or.inr ⟨"WalkTeller", in_t1 66 rfl⟩⟩
theorem lk_3_38 : zLk RX3 38 yX3_takeOneOf := Or.inl (in_t2 101 rfl)
theorem lk_3_42 : zLk RX3 42 yX3_takeKind := Or.inl (in_t2 111 rfl)
theorem lk_3_46 : zLk RX3 46 yX3_takeRising := Or.inl (in_t2 164 rfl)
theorem lk_3_49 : zLk RX3 49 yX3_takeSign := Or.inl (in_t2 168 rfl)
theorem kl_3_53 : Cond.classLink RX3 53 RX2 ∈ lw_tbl := in_t2 172 rfl
theorem lk_3_55 : zLk RX3 55 yX2_init := Or.inl (in_t2 174 rfl)
theorem lk_3_58 : zLk RX3 58 yX6_byteAt := Or.inl (in_t2 105 rfl)
theorem lk_3_64 : zLk RX3 64 yJ0_length_8abf5 := Or.inl (in_t2 116 rfl)
theorem lk_3_68 : zLk RX3 68 yJ0_charAt_5068e := Or.inl (in_t2 126 rfl)
theorem lk_3_72 : zLk RX3 72 yX10_isWithin := Or.inr ⟨"WalkTeller", in_t2 110 rfl⟩
theorem lk_4_3 : Cond.methodLink RX4 3 objectInit ∈ lw_tbl := in_t1 85 rfl
theorem kl_4_9 : Cond.classLink RX4 9 RX1 ∈ lw_tbl := in_t1 86 rfl
theorem lk_4_11 : zLk RX4 11 yX1_init := Or.inr ⟨"WalkTeller", in_t1 88 rfl⟩
theorem fw_4_12 : zFl RX4 12 4 0 true (.object "WalkTeller$Net") := ⟨RX4, TX4, tyX4, rfl, cl_4, tyX4_ok, nmX4, by decide, Or.inl (in_t1 119 rfl), rfl, by decide +kernel, fun _ => ⟨rfl, in_t1 119 rfl⟩⟩
theorem fl_4_12 : zFg RX4 12 4 0 := ⟨RX4, TX4, rfl, cl_4, by decide, Or.inl (in_t1 119 rfl)⟩
theorem fw_4_18 : zFl RX4 18 4 1 true (.array .int) := ⟨RX4, TX4, tyX4, rfl, cl_4, tyX4_ok, nmX4, by decide, Or.inl (in_t1 120 rfl), rfl, by decide +kernel, fun _ => ⟨rfl, in_t1 120 rfl⟩⟩
theorem fl_4_18 : zFg RX4 18 4 1 := ⟨RX4, TX4, rfl, cl_4, by decide, Or.inl (in_t1 120 rfl)⟩
theorem fw_4_22 : zFl RX4 22 4 2 false (.array .int) := ⟨RX4, TX4, tyX4, rfl, cl_4, tyX4_ok, nmX4, by decide, Or.inl (in_t1 121 rfl), rfl, by decide +kernel, fun h => by cases h⟩
theorem fl_4_22 : zFg RX4 22 4 2 := ⟨RX4, TX4, rfl, cl_4, by decide, Or.inl (in_t1 121 rfl)⟩
theorem fw_4_25 : zFl RX4 25 4 3 false (.array .int) := ⟨RX4, TX4, tyX4, rfl, cl_4, tyX4_ok, nmX4, by decide, Or.inl (in_t1 122 rfl), rfl, by decide +kernel, fun h => by cases h⟩
theorem fl_4_25 : zFg RX4 25 4 3 := ⟨RX4, TX4, rfl, cl_4, by decide, Or.inl (in_t1 122 rfl)⟩
theorem kl_4_28 : Cond.classLink RX4 28 RX0 ∈ lw_tbl := in_t1 100 rfl
theorem lk_4_30 : zLk RX4 30 yX0_init := Or.inr ⟨"WalkTeller", in_t1 102 rfl⟩
theorem fw_4_31 : zFl RX4 31 4 4 false (.object "WalkTeller$Edition") := ⟨RX4, TX4, tyX4, rfl, cl_4, tyX4_ok, nmX4, by decide, Or.inl (in_t1 123 rfl), rfl, by decide +kernel, fun h => by cases h⟩
theorem fl_4_31 : zFg RX4 31 4 4 := ⟨RX4, TX4, rfl, cl_4, by decide, Or.inl (in_t1 123 rfl)⟩
theorem fw_4_35 : zFl RX4 35 4 5 false .int := ⟨RX4, TX4, tyX4, rfl, cl_4, tyX4_ok, nmX4, by decide, Or.inl (in_t1 124 rfl), rfl, by decide +kernel, fun h => by cases h⟩
theorem fl_4_35 : zFg RX4 35 4 5 := ⟨RX4, TX4, rfl, cl_4, by decide, Or.inl (in_t1 124 rfl)⟩
theorem fw_4_39 : zFl RX4 39 4 6 false .int := ⟨RX4, TX4, tyX4, rfl, cl_4, tyX4_ok, nmX4, by decide, Or.inl (in_t1 125 rfl), rfl, by decide +kernel, fun h => by cases h⟩
theorem fl_4_39 : zFg RX4 39 4 6 := ⟨RX4, TX4, rfl, cl_4, by decide, Or.inl (in_t1 125 rfl)⟩
theorem fw_4_42 : zFl RX4 42 4 7 false .int := ⟨RX4, TX4, tyX4, rfl, cl_4, tyX4_ok, nmX4, by decide, Or.inl (in_t1 126 rfl), rfl, by decide +kernel, fun h => by cases h⟩
theorem fl_4_42 : zFg RX4 42 4 7 := ⟨RX4, TX4, rfl, cl_4, by decide, Or.inl (in_t1 126 rfl)⟩
theorem lk_4_45 : zLk RX4 45 yX1_lay := Or.inl (in_t2 11 rfl)
theorem kc_4_49 : Cond.constant RX4 49 (1000000000) ∈ lw_tbl := in_t2 41 rfl
theorem lk_4_50 : zLk RX4 50 yJ7_fill_53178 := Or.inl (in_t2 42 rfl)
theorem lk_4_56 : zLk RX4 56 yX1_lessen := Or.inl (in_t2 43 rfl)
theorem fw_4_60 : zFl RX4 60 0 1 false .int := ⟨RX0, TX0, tyX0, rfl, cl_0, tyX0_ok, nmX0, by decide, Or.inr ⟨"WalkTeller", in_t1 110 rfl⟩, rfl, by decide +kernel, fun h => by cases h⟩
theorem fl_4_60 : zFg RX4 60 0 1 := ⟨RX0, TX0, rfl, cl_0, by decide, Or.inr ⟨"WalkTeller", in_t1 110 rfl⟩⟩
theorem lk_4_63 : zLk RX4 63 yX4_clearReached := Or.inl (in_t3 5 rfl)
theorem lk_4_66 : zLk RX4 66 yX4_reachFrom := Or.inl (in_t3 9 rfl)
theorem lk_4_70 : zLk RX4 70 yX4_timeSet := Or.inl (in_t3 31 rfl)
theorem lk_4_73 : zLk RX4 73 yX0_isOver := Or.inl (in_t3 13 rfl)
theorem lk_4_77 : zLk RX4 77 yX10_has := Or.inr ⟨"WalkTeller", in_t3 17 rfl⟩
theorem lk_4_81 : zLk RX4 81 yX4_reachNext := Or.inl (in_t3 18 rfl)
theorem lk_4_85 : zLk RX4 85 yX0_nextPiece := Or.inl (in_t3 22 rfl)
theorem fl_4_89 : zFg RX4 89 1 1 := ⟨RX1, TX1, rfl, cl_1, by decide, Or.inr ⟨"WalkTeller", in_t1 94 rfl⟩⟩
theorem lk_4_92 : zLk RX4 92 yX4_timeToldHere := Or.inl (in_t3 35 rfl)
theorem lk_4_96 : zLk RX4 96 yX0_findPiece := Or.inl (in_t3 39 rfl)
theorem fl_4_100 : zFg RX4 100 2 2 := ⟨RX2, TX2, rfl, cl_2, by decide, Or.inr ⟨"WalkTeller", in_t2 185 rfl⟩⟩
theorem lk_4_105 : zLk RX4 105 yX4_timeFrom := Or.inl (in_t3 40 rfl)
theorem lk_4_108 : Cond.methodLink RX4 108 Lib.Math.min.name ∈ lw_tbl := in_t3 44 rfl
theorem lk_4_113 : zLk RX4 113 yX1_step := Or.inl (in_t3 93 rfl)
theorem lk_4_116 : zLk RX4 116 yJ6_bitCount_0f7a4 := Or.inl (in_t3 49 rfl)
theorem lk_4_122 : zLk RX4 122 yX0_hasTwoVoices := Or.inl (in_t3 63 rfl)
theorem lk_4_126 : zLk RX4 126 yX4_quickestStep := Or.inl (in_t3 85 rfl)
theorem lk_4_129 : zLk RX4 129 yX4_timeBy := Or.inl (in_t3 89 rfl)
theorem lk_5_1 : Cond.methodLink RX5 1 objectInit ∈ lw_tbl := in_t4 23 rfl
theorem fw_5_7 : zFl RX5 7 5 0 true .int := ⟨RX5, TX5, tyX5, rfl, cl_5, tyX5_ok, nmX5, by decide, Or.inl (in_t4 27 rfl), rfl, by decide +kernel, fun _ => ⟨rfl, in_t4 27 rfl⟩⟩
theorem fl_5_7 : zFg RX5 7 5 0 := ⟨RX5, TX5, rfl, cl_5, by decide, Or.inl (in_t4 27 rfl)⟩
theorem lk_5_13 : Cond.methodLink RX5 13 Lib.Math.max.name ∈ lw_tbl := in_t4 24 rfl
theorem fw_5_19 : zFl RX5 19 5 1 true (.array .int) := ⟨RX5, TX5, tyX5, rfl, cl_5, tyX5_ok, nmX5, by decide, Or.inl (in_t4 29 rfl), rfl, by decide +kernel, fun _ => ⟨rfl, in_t4 29 rfl⟩⟩
theorem fl_5_19 : zFg RX5 19 5 1 := ⟨RX5, TX5, rfl, cl_5, by decide, Or.inl (in_t4 29 rfl)⟩
theorem lk_6_3 : Cond.methodLink RX6 3 objectInit ∈ lw_tbl := in_t1 63 rfl
theorem fw_6_9 : zFl RX6 9 6 0 true (.array .byte) := ⟨RX6, TX6, tyX6, rfl, cl_6, tyX6_ok, nmX6, by decide, Or.inl (in_t1 64 rfl), rfl, by decide +kernel, fun _ => ⟨rfl, in_t1 64 rfl⟩⟩
theorem fl_6_9 : zFg RX6 9 6 0 := ⟨RX6, TX6, rfl, cl_6, by decide, Or.inl (in_t1 64 rfl)⟩
theorem fw_6_15 : zFl RX6 15 6 1 false .int := ⟨RX6, TX6, tyX6, rfl, cl_6, tyX6_ok, nmX6, by decide, Or.inl (in_t1 65 rfl), rfl, by decide +kernel, fun h => by cases h⟩
theorem fl_6_15 : zFg RX6 15 6 1 := ⟨RX6, TX6, rfl, cl_6, by decide, Or.inl (in_t1 65 rfl)⟩
theorem lk_6_19 : zLk RX6 19 yX10_isWithin := Or.inr ⟨"WalkTeller", in_t2 109 rfl⟩
theorem lk_7_3 : Cond.methodLink RX7 3 objectInit ∈ lw_tbl := in_t1 34 rfl
theorem fw_7_9 : zFl RX7 9 7 0 true (.array .int) := ⟨RX7, TX7, tyX7, rfl, cl_7, tyX7_ok, nmX7, by decide, Or.inl (in_t1 37 rfl), rfl, by decide +kernel, fun _ => ⟨rfl, in_t1 37 rfl⟩⟩
theorem fl_7_9 : zFg RX7 9 7 0 := ⟨RX7, TX7, rfl, cl_7, by decide, Or.inl (in_t1 37 rfl)⟩
theorem fw_7_15 : zFl RX7 15 7 1 true (.array .int) := ⟨RX7, TX7, tyX7, rfl, cl_7, tyX7_ok, nmX7, by decide, Or.inl (in_t1 38 rfl), rfl, by decide +kernel, fun _ => ⟨rfl, in_t1 38 rfl⟩⟩
theorem fl_7_15 : zFg RX7 15 7 1 := ⟨RX7, TX7, rfl, cl_7, by decide, Or.inl (in_t1 38 rfl)⟩
theorem kl_7_18 : Cond.classLink RX7 18 RX9 ∈ lw_tbl := in_t1 35 rfl
theorem fw_7_20 : zFl RX7 20 7 2 true (.array (.object "WalkTeller$Way")) := ⟨RX7, TX7, tyX7, rfl, cl_7, tyX7_ok, nmX7, by decide, Or.inl (in_t1 39 rfl), rfl, by decide +kernel, fun _ => ⟨rfl, in_t1 39 rfl⟩⟩
theorem fl_7_20 : zFg RX7 20 7 2 := ⟨RX7, TX7, rfl, cl_7, by decide, Or.inl (in_t1 39 rfl)⟩
theorem fw_7_24 : zFl RX7 24 7 3 false .int := ⟨RX7, TX7, tyX7, rfl, cl_7, tyX7_ok, nmX7, by decide, Or.inl (in_t1 41 rfl), rfl, by decide +kernel, fun h => by cases h⟩
theorem fl_7_24 : zFg RX7 24 7 3 := ⟨RX7, TX7, rfl, cl_7, by decide, Or.inl (in_t1 41 rfl)⟩
theorem fw_7_28 : zFl RX7 28 7 4 false .int := ⟨RX7, TX7, tyX7, rfl, cl_7, tyX7_ok, nmX7, by decide, Or.inl (in_t1 43 rfl), rfl, by decide +kernel, fun h => by cases h⟩
theorem fl_7_28 : zFg RX7 28 7 4 := ⟨RX7, TX7, rfl, cl_7, by decide, Or.inl (in_t1 43 rfl)⟩
theorem lk_7_31 : zLk RX7 31 yX10_isWithin := Or.inr ⟨"WalkTeller", in_t1 200 rfl⟩
theorem lk_7_35 : zLk RX7 35 yX9_isOpen := Or.inl (in_t4 4 rfl)
theorem lk_7_39 : zLk RX7 39 yX9_leadsFrom := Or.inl (in_t4 5 rfl)
theorem lk_7_43 : zLk RX7 43 yX9_otherEnd := Or.inl (in_t4 6 rfl)
theorem lk_8_3 : Cond.methodLink RX8 3 objectInit ∈ lw_tbl := in_t3 103 rfl
theorem fw_8_9 : zFl RX8 9 8 3 false .int := ⟨RX8, TX8, tyX8, rfl, cl_8, tyX8_ok, nmX8, by decide, Or.inl (in_t3 110 rfl), rfl, by decide +kernel, fun h => by cases h⟩
theorem fl_8_9 : zFg RX8 9 8 3 := ⟨RX8, TX8, rfl, cl_8, by decide, Or.inl (in_t3 110 rfl)⟩
theorem fw_8_15 : zFl RX8 15 8 4 false .int := ⟨RX8, TX8, tyX8, rfl, cl_8, tyX8_ok, nmX8, by decide, Or.inl (in_t3 112 rfl), rfl, by decide +kernel, fun h => by cases h⟩
theorem fl_8_15 : zFg RX8 15 8 4 := ⟨RX8, TX8, rfl, cl_8, by decide, Or.inl (in_t3 112 rfl)⟩
theorem fw_8_18 : zFl RX8 18 8 5 false .int := ⟨RX8, TX8, tyX8, rfl, cl_8, tyX8_ok, nmX8, by decide, Or.inl (in_t3 114 rfl), rfl, by decide +kernel, fun h => by cases h⟩
theorem fl_8_18 : zFg RX8 18 8 5 := ⟨RX8, TX8, rfl, cl_8, by decide, Or.inl (in_t3 114 rfl)⟩
theorem fw_8_21 : zFl RX8 21 8 6 false .int := ⟨RX8, TX8, tyX8, rfl, cl_8, tyX8_ok, nmX8, by decide, Or.inl (in_t3 116 rfl), rfl, by decide +kernel, fun h => by cases h⟩
theorem fl_8_21 : zFg RX8 21 8 6 := ⟨RX8, TX8, rfl, cl_8, by decide, Or.inl (in_t3 116 rfl)⟩
theorem fw_8_24 : zFl RX8 24 8 7 false .int := ⟨RX8, TX8, tyX8, rfl, cl_8, tyX8_ok, nmX8, by decide, Or.inl (in_t3 118 rfl), rfl, by decide +kernel, fun h => by cases h⟩
theorem fl_8_24 : zFg RX8 24 8 7 := ⟨RX8, TX8, rfl, cl_8, by decide, Or.inl (in_t3 118 rfl)⟩
theorem fw_8_27 : zFl RX8 27 8 8 false .int := ⟨RX8, TX8, tyX8, rfl, cl_8, tyX8_ok, nmX8, by decide, Or.inl (in_t3 119 rfl), rfl, by decide +kernel, fun h => by cases h⟩
theorem fl_8_27 : zFg RX8 27 8 8 := ⟨RX8, TX8, rfl, cl_8, by decide, Or.inl (in_t3 119 rfl)⟩
theorem fw_8_30 : zFl RX8 30 8 0 true (.object "WalkTeller$Edition") := ⟨RX8, TX8, tyX8, rfl, cl_8, tyX8_ok, nmX8, by decide, Or.inl (in_t3 104 rfl), rfl, by decide +kernel, fun _ => ⟨rfl, in_t3 104 rfl⟩⟩
theorem fl_8_30 : zFg RX8 30 8 0 := ⟨RX8, TX8, rfl, cl_8, by decide, Or.inl (in_t3 104 rfl)⟩
theorem fw_8_34 : zFl RX8 34 8 1 true .int := ⟨RX8, TX8, tyX8, rfl, cl_8, tyX8_ok, nmX8, by decide, Or.inl (in_t3 106 rfl), rfl, by decide +kernel, fun _ => ⟨rfl, in_t3 106 rfl⟩⟩
theorem fl_8_34 : zFg RX8 34 8 1 := ⟨RX8, TX8, rfl, cl_8, by decide, Or.inl (in_t3 106 rfl)⟩
theorem fw_8_37 : zFl RX8 37 8 2 true .boolean := ⟨RX8, TX8, tyX8, rfl, cl_8, tyX8_ok, nmX8, by decide, Or.inl (in_t3 108 rfl), rfl, by decide +kernel, fun _ => ⟨rfl, in_t3 108 rfl⟩⟩
theorem fl_8_37 : zFg RX8 37 8 2 := ⟨RX8, TX8, rfl, cl_8, by decide, Or.inl (in_t3 108 rfl)⟩
theorem lk_8_41 : zLk RX8 41 yX0_isOver := Or.inl (in_t3 155 rfl)
theorem lk_8_47 : zLk RX8 47 yX8_isOver := Or.inl (in_t3 151 rfl)
theorem lk_8_50 : zLk RX8 50 yX0_nextPiece := Or.inl (in_t3 156 rfl)
theorem lk_8_54 : zLk RX8 54 yX0_findPiece := Or.inl (in_t3 157 rfl)
theorem fl_8_58 : zFg RX8 58 2 2 := ⟨RX2, TX2, rfl, cl_2, by decide, Or.inr ⟨"WalkTeller", in_t2 184 rfl⟩⟩
theorem lk_8_63 : zLk RX8 63 yX8_forgetSightings := Or.inl (in_t3 143 rfl)
theorem lk_8_66 : zLk RX8 66 yX8_listen := Or.inl (in_t3 147 rfl)
theorem lk_8_70 : zLk RX8 70 yX7_possibleCorners := Or.inl (in_t3 226 rfl)
theorem lk_8_76 : zLk RX8 76 yX10_has := Or.inr ⟨"WalkTeller", in_t3 230 rfl⟩
theorem lk_8_80 : zLk RX8 80 yJ6_bitCount_0f7a4 := Or.inl (in_t3 231 rfl)
theorem lk_8_85 : zLk RX8 85 yJ6_numberOfTrailingZeros_0f7a4 := Or.inl (in_t3 232 rfl)
theorem lk_8_88 : zLk RX8 88 yX8_sight := Or.inl (in_t3 236 rfl)
theorem lk_8_92 : zLk RX8 92 yX7_isJoined := Or.inl (in_t4 0 rfl)
theorem lk_8_96 : zLk RX8 96 yX8_arrive := Or.inl (in_t4 7 rfl)
theorem lk_9_1 : Cond.methodLink RX9 1 objectInit ∈ lw_tbl := in_t1 206 rfl
theorem fw_9_7 : zFl RX9 7 9 4 false .int := ⟨RX9, TX9, tyX9, rfl, cl_9, tyX9_ok, nmX9, by decide, Or.inl (in_t1 215 rfl), rfl, by decide +kernel, fun h => by cases h⟩
theorem fl_9_7 : zFg RX9 7 9 4 := ⟨RX9, TX9, rfl, cl_9, by decide, Or.inl (in_t1 215 rfl)⟩
theorem fw_9_13 : zFl RX9 13 9 0 true .int := ⟨RX9, TX9, tyX9, rfl, cl_9, tyX9_ok, nmX9, by decide, Or.inl (in_t1 207 rfl), rfl, by decide +kernel, fun _ => ⟨rfl, in_t1 207 rfl⟩⟩
theorem fl_9_13 : zFg RX9 13 9 0 := ⟨RX9, TX9, rfl, cl_9, by decide, Or.inl (in_t1 207 rfl)⟩
theorem fw_9_16 : zFl RX9 16 9 1 true .int := ⟨RX9, TX9, tyX9, rfl, cl_9, tyX9_ok, nmX9, by decide, Or.inl (in_t1 209 rfl), rfl, by decide +kernel, fun _ => ⟨rfl, in_t1 209 rfl⟩⟩
theorem fl_9_16 : zFg RX9 16 9 1 := ⟨RX9, TX9, rfl, cl_9, by decide, Or.inl (in_t1 209 rfl)⟩
theorem fw_9_19 : zFl RX9 19 9 2 true .int := ⟨RX9, TX9, tyX9, rfl, cl_9, tyX9_ok, nmX9, by decide, Or.inl (in_t1 211 rfl), rfl, by decide +kernel, fun _ => ⟨rfl, in_t1 211 rfl⟩⟩
theorem fl_9_19 : zFg RX9 19 9 2 := ⟨RX9, TX9, rfl, cl_9, by decide, Or.inl (in_t1 211 rfl)⟩
theorem fw_9_22 : zFl RX9 22 9 3 true .boolean := ⟨RX9, TX9, tyX9, rfl, cl_9, tyX9_ok, nmX9, by decide, Or.inl (in_t1 214 rfl), rfl, by decide +kernel, fun _ => ⟨rfl, in_t1 214 rfl⟩⟩
theorem fl_9_22 : zFg RX9 22 9 3 := ⟨RX9, TX9, rfl, cl_9, by decide, Or.inl (in_t1 214 rfl)⟩
theorem lk_9_26 : zLk RX9 26 yX10_has := Or.inr ⟨"WalkTeller", in_t2 27 rfl⟩
theorem lk_9_32 : zLk RX9 32 yX9_isShut := Or.inl (in_t2 23 rfl)
theorem lk_9_36 : zLk RX9 36 yX9_isFor := Or.inl (in_t2 30 rfl)
theorem kl_L_7 : Cond.classLink R_law 7 RX10 ∈ lw_tbl := in_t1 21 rfl
theorem lk_L_9 : zLk R_law 9 yX10_init := Or.inl (in_t1 23 rfl)
theorem kl_L_10 : Cond.classLink R_law 10 RX11 ∈ lw_tbl := in_t4 64 rfl
theorem lk_L_12 : zLk R_law 12 yX11_init := Or.inl (in_t4 66 rfl)
theorem lk_L_13 : zLk R_law 13 yX10_corner := Or.inl (in_t1 175 rfl)
theorem lk_L_17 : zLk R_law 17 yX11_corner := Or.inl (in_t4 205 rfl)
theorem lk_L_18 : zLk R_law 18 yX10_way := Or.inl (in_t1 192 rfl)
theorem lk_L_22 : zLk R_law 22 yX11_way := Or.inl (in_t4 218 rfl)
theorem lk_L_23 : zLk R_law 23 yX10_shut := Or.inl (in_t1 232 rfl)
theorem lk_L_26 : zLk R_law 26 yX11_shut := Or.inl (in_t4 226 rfl)
theorem lk_L_27 : zLk R_law 27 yX10_far := Or.inl (in_t2 0 rfl)
theorem lk_L_30 : zLk R_law 30 yX11_far := Or.inl (in_t4 234 rfl)
theorem kc_L_31 : Cond.constantLong R_law 31 (4294967295) ∈ lw_tbl := in_t5 206 rfl
theorem lk_L_33 : zLk R_law 33 yX10_feed := Or.inl (in_t2 62 rfl)
theorem lk_L_37 : zLk R_law 37 yX11_feed := Or.inl (in_t5 8 rfl)
theorem lk_L_38 : zLk R_law 38 yX10_story := Or.inl (in_t2 70 rfl)
theorem lk_L_42 : zLk R_law 42 yX11_story := Or.inl (in_t5 13 rfl)
theorem lk_L_43 : zLk R_law 43 yX10_as := Or.inl (in_t2 207 rfl)
theorem lk_L_47 : zLk R_law 47 yX11_as := Or.inl (in_t5 37 rfl)
theorem lk_L_48 : zLk R_law 48 yX10_of := Or.inl (in_t2 229 rfl)
theorem lk_L_51 : zLk R_law 51 yX11_of := Or.inl (in_t5 50 rfl)
theorem lk_L_52 : zLk R_law 52 yX10_check := Or.inl (in_t2 233 rfl)
theorem lk_L_56 : zLk R_law 56 yX11_check := Or.inl (in_t5 54 rfl)
theorem lk_L_57 : zLk R_law 57 yX10_quickest := Or.inl (in_t3 72 rfl)
theorem lk_L_60 : zLk R_law 60 yX11_quickest := Or.inl (in_t5 97 rfl)
theorem lk_L_61 : zLk R_law 61 yX10_route := Or.inl (in_t3 77 rfl)
theorem lk_L_64 : zLk R_law 64 yX11_route := Or.inl (in_t5 105 rfl)
theorem lk_L_65 : zLk R_law 65 yX10_walker := Or.inl (in_t3 94 rfl)
theorem lk_L_69 : zLk R_law 69 yX11_walker := Or.inl (in_t5 113 rfl)
theorem lk_L_70 : zLk R_law 70 yX10_today := Or.inl (in_t3 158 rfl)
theorem lk_L_74 : zLk R_law 74 yX11_today := Or.inl (in_t5 122 rfl)
theorem lk_L_75 : zLk R_law 75 yX10_go := Or.inl (in_t3 163 rfl)
theorem lk_L_78 : zLk R_law 78 yX11_go := Or.inl (in_t5 126 rfl)
theorem lk_L_79 : zLk R_law 79 yX10_about := Or.inl (in_t3 182 rfl)
theorem lk_L_82 : zLk R_law 82 yX11_about := Or.inl (in_t5 142 rfl)
theorem lk_L_83 : zLk R_law 83 yX10_offer := Or.inl (in_t3 186 rfl)
theorem lk_L_86 : zLk R_law 86 yX11_offer := Or.inl (in_t5 146 rfl)
theorem lk_L_87 : zLk R_law 87 yX10_rest := Or.inl (in_t3 203 rfl)
theorem lk_L_90 : zLk R_law 90 yX11_rest := Or.inl (in_t5 158 rfl)
theorem lk_L_91 : zLk R_law 91 yX10_lost := Or.inl (in_t3 207 rfl)
theorem lk_L_94 : zLk R_law 94 yX11_lost := Or.inl (in_t5 162 rfl)
theorem lk_L_95 : zLk R_law 95 yX10_seen := Or.inl (in_t3 215 rfl)
theorem lk_L_99 : zLk R_law 99 yX11_seen := Or.inl (in_t5 166 rfl)
theorem lk_L_100 : zLk R_law 100 yX10_sheet := Or.inl (in_t4 8 rfl)
theorem lk_L_103 : zLk R_law 103 yX11_sheet := Or.inl (in_t5 181 rfl)
theorem lk_L_104 : zLk R_law 104 yX10_write := Or.inl (in_t4 36 rfl)
theorem lk_L_107 : zLk R_law 107 yX11_write := Or.inl (in_t5 189 rfl)
theorem lk_L_108 : zLk R_law 108 yX10_copy := Or.inl (in_t4 45 rfl)
theorem lk_L_112 : zLk R_law 112 yX11_copy := Or.inl (in_t5 194 rfl)
theorem lk_L_113 : zLk R_law 113 yX10_trace := Or.inl (in_t4 56 rfl)
theorem lk_L_116 : zLk R_law 116 yX11_trace := Or.inl (in_t5 198 rfl)
theorem lk_L_117 : zLk R_law 117 yX10_told := Or.inl (in_t4 60 rfl)
theorem lk_L_120 : zLk R_law 120 yX11_told := Or.inl (in_t5 202 rfl)
theorem yy_X10_init : zY yX10_init cX10_init 1 none 0 := ⟨in_t1 25 rfl, in_t1 1 rfl, ⟨by decide +kernel, by decide +kernel⟩, by decide +kernel⟩
theorem im_X10_init : Cond.instanceMethod yX10_init ∈ lw_tbl := in_t1 24 rfl
theorem yy_X7_init : zY yX7_init cX7_init 1 none 0 := ⟨in_t1 33 rfl, in_t1 2 rfl, ⟨by decide +kernel, by decide +kernel⟩, by decide +kernel⟩
theorem im_X7_init : Cond.instanceMethod yX7_init ∈ lw_tbl := in_t1 32 rfl
theorem yy_X6_init : zY yX6_init cX6_init 1 none 0 := ⟨in_t1 62 rfl, in_t1 3 rfl, ⟨by decide +kernel, by decide +kernel⟩, by decide +kernel⟩
theorem im_X6_init : Cond.instanceMethod yX6_init ∈ lw_tbl := in_t1 61 rfl
theorem yy_X4_init : zY yX4_init cX4_init 1 none 0 := ⟨in_t1 84 rfl, in_t1 4 rfl, ⟨by decide +kernel, by decide +kernel⟩, by decide +kernel⟩
theorem im_X4_init : Cond.instanceMethod yX4_init ∈ lw_tbl := in_t1 83 rfl
theorem yy_X1_init : zY yX1_init cX1_init 1 none 0 := ⟨in_t1 90 rfl, in_t1 5 rfl, ⟨by decide +kernel, by decide +kernel⟩, by decide +kernel⟩
theorem im_X1_init : Cond.instanceMethod yX1_init ∈ lw_tbl := in_t1 89 rfl
theorem yy_X0_init : zY yX0_init cX0_init 1 none 0 := ⟨in_t1 104 rfl, in_t1 6 rfl, ⟨by decide +kernel, by decide +kernel⟩, by decide +kernel⟩
theorem im_X0_init : Cond.instanceMethod yX0_init ∈ lw_tbl := in_t1 103 rfl
theorem yy_X10_corner : zY yX10_corner cX10_corner 3 (some .int) 2 := ⟨in_t1 178 rfl, in_t1 1 rfl, ⟨by decide +kernel, by decide +kernel⟩, by decide +kernel⟩
theorem im_X10_corner : Cond.instanceMethod yX10_corner ∈ lw_tbl := in_t1 176 rfl
theorem se_X10_corner : Cond.selects yX10_corner.cls yX10_corner yX10_corner ∈ lw_tbl := in_t1 177 rfl
theorem yy_X10_isWithin : zY yX10_isWithin cX10_isWithin 3 (some .boolean) 3 := ⟨in_t1 181 rfl, in_t1 1 rfl, ⟨by decide +kernel, by decide +kernel⟩, by decide +kernel⟩
theorem st_X10_isWithin : Cond.static yX10_isWithin ∈ lw_tbl := in_t1 180 rfl
theorem yy_X10_finding : zY yX10_finding cX10_finding 2 (some .int) 1 := ⟨in_t1 186 rfl, in_t1 1 rfl, ⟨by decide +kernel, by decide +kernel⟩, by decide +kernel⟩
theorem im_X10_finding : Cond.instanceMethod yX10_finding ∈ lw_tbl := in_t1 185 rfl
theorem se_X10_finding : Cond.selects yX10_finding.cls yX10_finding yX10_finding ∈ lw_tbl := in_s 0 rfl
theorem yy_X7_addCorner : zY yX7_addCorner cX7_addCorner 3 (some .int) 2 := ⟨in_t1 191 rfl, in_t1 2 rfl, ⟨by decide +kernel, by decide +kernel⟩, by decide +kernel⟩
theorem im_X7_addCorner : Cond.instanceMethod yX7_addCorner ∈ lw_tbl := in_t1 189 rfl
theorem se_X7_addCorner : Cond.selects yX7_addCorner.cls yX7_addCorner yX7_addCorner ∈ lw_tbl := in_t1 190 rfl
theorem yy_X10_way : zY yX10_way cX10_way 5 (some .int) 4 := ⟨in_t1 195 rfl, in_t1 1 rfl, ⟨by decide +kernel, by decide +kernel⟩, by decide +kernel⟩
theorem im_X10_way : Cond.instanceMethod yX10_way ∈ lw_tbl := in_t1 193 rfl
theorem se_X10_way : Cond.selects yX10_way.cls yX10_way yX10_way ∈ lw_tbl := in_t1 194 rfl
theorem yy_X7_hasCorner : zY yX7_hasCorner cX7_hasCorner 2 (some .boolean) 1 := ⟨in_t1 199 rfl, in_t1 2 rfl, ⟨by decide +kernel, by decide +kernel⟩, by decide +kernel⟩
theorem im_X7_hasCorner : Cond.instanceMethod yX7_hasCorner ∈ lw_tbl := in_t1 197 rfl
theorem se_X7_hasCorner : Cond.selects yX7_hasCorner.cls yX7_hasCorner yX7_hasCorner ∈ lw_tbl := in_t1 198 rfl
theorem yy_X9_init : zY yX9_init cX9_init 5 none 4 := ⟨in_t1 205 rfl, in_t1 8 rfl, ⟨by decide +kernel, by decide +kernel⟩, by decide +kernel⟩
theorem im_X9_init : Cond.instanceMethod yX9_init ∈ lw_tbl := in_t1 204 rfl
theorem yy_X7_addWay : zY yX7_addWay cX7_addWay 2 (some .int) 1 := ⟨in_t1 231 rfl, in_t1 2 rfl, ⟨by decide +kernel, by decide +kernel⟩, by decide +kernel⟩
theorem im_X7_addWay : Cond.instanceMethod yX7_addWay ∈ lw_tbl := in_t1 229 rfl
theorem se_X7_addWay : Cond.selects yX7_addWay.cls yX7_addWay yX7_addWay ∈ lw_tbl := in_t1 230 rfl
theorem yy_X10_shut : zY yX10_shut cX10_shut 5 (some .int) 2 := ⟨in_t1 235 rfl, in_t1 1 rfl, ⟨by decide +kernel, by decide +kernel⟩, by decide +kernel⟩
theorem im_X10_shut : Cond.instanceMethod yX10_shut ∈ lw_tbl := in_t1 233 rfl
theorem se_X10_shut : Cond.selects yX10_shut.cls yX10_shut yX10_shut ∈ lw_tbl := in_t1 234 rfl
theorem yy_X7_findWay : zY yX7_findWay cX7_findWay 2 (some (.object "WalkTeller$Way")) 1 := ⟨in_t1 239 rfl, in_t1 2 rfl, ⟨by decide +kernel, by decide +kernel⟩, by decide +kernel⟩
theorem im_X7_findWay : Cond.instanceMethod yX7_findWay ∈ lw_tbl := in_t1 237 rfl
theorem se_X7_findWay : Cond.selects yX7_findWay.cls yX7_findWay yX7_findWay ∈ lw_tbl := in_t1 238 rfl
theorem yy_X10_far : zY yX10_far cX10_far 5 (some .int) 4 := ⟨in_t2 3 rfl, in_t1 1 rfl, ⟨by decide +kernel, by decide +kernel⟩, by decide +kernel⟩
theorem im_X10_far : Cond.instanceMethod yX10_far ∈ lw_tbl := in_t2 1 rfl
theorem se_X10_far : Cond.selects yX10_far.cls yX10_far yX10_far ∈ lw_tbl := in_t2 2 rfl
theorem yy_X10_isDay : zY yX10_isDay cX10_isDay 1 (some .boolean) 1 := ⟨in_t2 6 rfl, in_t1 1 rfl, ⟨by decide +kernel, by decide +kernel⟩, by decide +kernel⟩
theorem st_X10_isDay : Cond.static yX10_isDay ∈ lw_tbl := in_t2 5 rfl
theorem yy_X4_distance : zY yX4_distance cX4_distance 6 (some .int) 5 := ⟨in_t2 10 rfl, in_t1 4 rfl, ⟨by decide +kernel, by decide +kernel⟩, by decide +kernel⟩
theorem im_X4_distance : Cond.instanceMethod yX4_distance ∈ lw_tbl := in_t2 8 rfl
theorem se_X4_distance : Cond.selects yX4_distance.cls yX4_distance yX4_distance ∈ lw_tbl := in_t2 9 rfl
theorem yy_X1_lay : zY yX1_lay cX1_lay 6 none 3 := ⟨in_t2 14 rfl, in_t1 5 rfl, ⟨by decide +kernel, by decide +kernel⟩, by decide +kernel⟩
theorem im_X1_lay : Cond.instanceMethod yX1_lay ∈ lw_tbl := in_t2 12 rfl
theorem se_X1_lay : Cond.selects yX1_lay.cls yX1_lay yX1_lay ∈ lw_tbl := in_t2 13 rfl
theorem yy_J7_fill_53178 : zY yJ7_fill_53178 cJ7_fill_53178 4 none 2 := ⟨in_t2 18 rfl, in_t1 9 rfl, ⟨by decide +kernel, by decide +kernel⟩, by decide +kernel⟩
theorem st_J7_fill_53178 : Cond.static yJ7_fill_53178 ∈ lw_tbl := in_t2 17 rfl
theorem yy_X9_isOpen : zY yX9_isOpen cX9_isOpen 3 (some .boolean) 2 := ⟨in_t2 22 rfl, in_t1 8 rfl, ⟨by decide +kernel, by decide +kernel⟩, by decide +kernel⟩
theorem im_X9_isOpen : Cond.instanceMethod yX9_isOpen ∈ lw_tbl := in_t2 20 rfl
theorem se_X9_isOpen : Cond.selects yX9_isOpen.cls yX9_isOpen yX9_isOpen ∈ lw_tbl := in_t2 21 rfl
theorem yy_X9_isShut : zY yX9_isShut cX9_isShut 2 (some .boolean) 1 := ⟨in_t2 26 rfl, in_t1 8 rfl, ⟨by decide +kernel, by decide +kernel⟩, by decide +kernel⟩
theorem im_X9_isShut : Cond.instanceMethod yX9_isShut ∈ lw_tbl := in_t2 24 rfl
theorem se_X9_isShut : Cond.selects yX9_isShut.cls yX9_isShut yX9_isShut ∈ lw_tbl := in_t2 25 rfl
theorem yy_X10_has : zY yX10_has cX10_has 2 (some .boolean) 2 := ⟨in_t2 29 rfl, in_t1 1 rfl, ⟨by decide +kernel, by decide +kernel⟩, by decide +kernel⟩
theorem st_X10_has : Cond.static yX10_has ∈ lw_tbl := in_t2 28 rfl
theorem yy_X9_isFor : zY yX9_isFor cX9_isFor 2 (some .boolean) 1 := ⟨in_t2 33 rfl, in_t1 8 rfl, ⟨by decide +kernel, by decide +kernel⟩, by decide +kernel⟩
theorem im_X9_isFor : Cond.instanceMethod yX9_isFor ∈ lw_tbl := in_t2 31 rfl
theorem se_X9_isFor : Cond.selects yX9_isFor.cls yX9_isFor yX9_isFor ∈ lw_tbl := in_t2 32 rfl
theorem yy_X1_join : zY yX1_join cX1_join 5 none 3 := ⟨in_t2 37 rfl, in_t1 5 rfl, ⟨by decide +kernel, by decide +kernel⟩, by decide +kernel⟩
theorem im_X1_join : Cond.instanceMethod yX1_join ∈ lw_tbl := in_t2 36 rfl
theorem se_X1_join : Cond.selects yX1_join.cls yX1_join yX1_join ∈ lw_tbl := in_s 1 rfl
theorem yy_X1_lessen : zY yX1_lessen cX1_lessen 7 none 3 := ⟨in_t2 46 rfl, in_t1 5 rfl, ⟨by decide +kernel, by decide +kernel⟩, by decide +kernel⟩
theorem im_X1_lessen : Cond.instanceMethod yX1_lessen ∈ lw_tbl := in_t2 44 rfl
theorem se_X1_lessen : Cond.selects yX1_lessen.cls yX1_lessen yX1_lessen ∈ lw_tbl := in_t2 45 rfl
theorem yy_X1_lessenOne : zY yX1_lessenOne cX1_lessenOne 6 (some .boolean) 3 := ⟨in_t2 51 rfl, in_t1 5 rfl, ⟨by decide +kernel, by decide +kernel⟩, by decide +kernel⟩
theorem im_X1_lessenOne : Cond.instanceMethod yX1_lessenOne ∈ lw_tbl := in_t2 50 rfl
theorem se_X1_lessenOne : Cond.selects yX1_lessenOne.cls yX1_lessenOne yX1_lessenOne ∈ lw_tbl := in_s 2 rfl
theorem yy_X1_step : zY yX1_step cX1_step 3 (some .int) 2 := ⟨in_t2 55 rfl, in_t1 5 rfl, ⟨by decide +kernel, by decide +kernel⟩, by decide +kernel⟩
theorem im_X1_step : Cond.instanceMethod yX1_step ∈ lw_tbl := in_t2 53 rfl
theorem se_X1_step : Cond.selects yX1_step.cls yX1_step yX1_step ∈ lw_tbl := in_t2 54 rfl
theorem yy_X10_timeOrNone : zY yX10_timeOrNone cX10_timeOrNone 2 (some .int) 1 := ⟨in_t2 59 rfl, in_t1 1 rfl, ⟨by decide +kernel, by decide +kernel⟩, by decide +kernel⟩
theorem im_X10_timeOrNone : Cond.instanceMethod yX10_timeOrNone ∈ lw_tbl := in_t2 58 rfl
theorem se_X10_timeOrNone : Cond.selects yX10_timeOrNone.cls yX10_timeOrNone yX10_timeOrNone ∈ lw_tbl := in_s 3 rfl
theorem yy_X10_feed : zY yX10_feed cX10_feed 4 (some .int) 2 := ⟨in_t2 65 rfl, in_t1 1 rfl, ⟨by decide +kernel, by decide +kernel⟩, by decide +kernel⟩
theorem im_X10_feed : Cond.instanceMethod yX10_feed ∈ lw_tbl := in_t2 63 rfl
theorem se_X10_feed : Cond.selects yX10_feed.cls yX10_feed yX10_feed ∈ lw_tbl := in_t2 64 rfl
theorem yy_X6_append : zY yX6_append cX6_append 5 none 2 := ⟨in_t2 69 rfl, in_t1 3 rfl, ⟨by decide +kernel, by decide +kernel⟩, by decide +kernel⟩
theorem im_X6_append : Cond.instanceMethod yX6_append ∈ lw_tbl := in_t2 67 rfl
theorem se_X6_append : Cond.selects yX6_append.cls yX6_append yX6_append ∈ lw_tbl := in_t2 68 rfl
theorem yy_X10_story : zY yX10_story cX10_story 3 (some .int) 0 := ⟨in_t2 73 rfl, in_t1 1 rfl, ⟨by decide +kernel, by decide +kernel⟩, by decide +kernel⟩
theorem im_X10_story : Cond.instanceMethod yX10_story ∈ lw_tbl := in_t2 71 rfl
theorem se_X10_story : Cond.selects yX10_story.cls yX10_story yX10_story ∈ lw_tbl := in_t2 72 rfl
theorem yy_X3_init : zY yX3_init cX3_init 3 none 2 := ⟨in_t2 78 rfl, in_t1 11 rfl, ⟨by decide +kernel, by decide +kernel⟩, by decide +kernel⟩
theorem im_X3_init : Cond.instanceMethod yX3_init ∈ lw_tbl := in_t2 77 rfl
theorem yy_X3_readEdition : zY yX3_readEdition cX3_readEdition 4 (some (.object "WalkTeller$Edition")) 0 := ⟨in_t2 94 rfl, in_t1 11 rfl, ⟨by decide +kernel, by decide +kernel⟩, by decide +kernel⟩
theorem im_X3_readEdition : Cond.instanceMethod yX3_readEdition ∈ lw_tbl := in_t2 92 rfl
theorem se_X3_readEdition : Cond.selects yX3_readEdition.cls yX3_readEdition yX3_readEdition ∈ lw_tbl := in_t2 93 rfl
theorem yy_X3_readPiece : zY yX3_readPiece cX3_readPiece 6 (some (.object "WalkTeller$Piece")) 0 := ⟨in_t2 100 rfl, in_t1 11 rfl, ⟨by decide +kernel, by decide +kernel⟩, by decide +kernel⟩
theorem im_X3_readPiece : Cond.instanceMethod yX3_readPiece ∈ lw_tbl := in_t2 99 rfl
theorem se_X3_readPiece : Cond.selects yX3_readPiece.cls yX3_readPiece yX3_readPiece ∈ lw_tbl := in_s 4 rfl
theorem yy_X3_takeOneOf : zY yX3_takeOneOf cX3_takeOneOf 4 (some .int) 2 := ⟨in_t2 104 rfl, in_t1 11 rfl, ⟨by decide +kernel, by decide +kernel⟩, by decide +kernel⟩
theorem im_X3_takeOneOf : Cond.instanceMethod yX3_takeOneOf ∈ lw_tbl := in_t2 103 rfl
theorem se_X3_takeOneOf : Cond.selects yX3_takeOneOf.cls yX3_takeOneOf yX3_takeOneOf ∈ lw_tbl := in_s 5 rfl
theorem yy_X6_byteAt : zY yX6_byteAt cX6_byteAt 2 (some .int) 1 := ⟨in_t2 108 rfl, in_t1 3 rfl, ⟨by decide +kernel, by decide +kernel⟩, by decide +kernel⟩
theorem im_X6_byteAt : Cond.instanceMethod yX6_byteAt ∈ lw_tbl := in_t2 106 rfl
theorem se_X6_byteAt : Cond.selects yX6_byteAt.cls yX6_byteAt yX6_byteAt ∈ lw_tbl := in_t2 107 rfl
theorem yy_X3_takeKind : zY yX3_takeKind cX3_takeKind 3 (some .int) 0 := ⟨in_t2 114 rfl, in_t1 11 rfl, ⟨by decide +kernel, by decide +kernel⟩, by decide +kernel⟩
theorem im_X3_takeKind : Cond.instanceMethod yX3_takeKind ∈ lw_tbl := in_t2 113 rfl
theorem se_X3_takeKind : Cond.selects yX3_takeKind.cls yX3_takeKind yX3_takeKind ∈ lw_tbl := in_s 6 rfl
theorem yy_J0_length_8abf5 : zY yJ0_length_8abf5 cJ0_length_8abf5 1 (some .int) 0 := ⟨in_t2 119 rfl, in_t1 12 rfl, ⟨by decide +kernel, by decide +kernel⟩, by decide +kernel⟩
theorem im_J0_length_8abf5 : Cond.instanceMethod yJ0_length_8abf5 ∈ lw_tbl := in_t2 117 rfl
theorem se_J0_length_8abf5 : Cond.selects yJ0_length_8abf5.cls yJ0_length_8abf5 yJ0_length_8abf5 ∈ lw_tbl := in_t2 118 rfl
theorem yy_J0_coder_7d493 : zY yJ0_coder_7d493 cJ0_coder_7d493 1 (some .byte) 0 := ⟨in_t2 123 rfl, in_t1 12 rfl, ⟨by decide +kernel, by decide +kernel⟩, by decide +kernel⟩
theorem im_J0_coder_7d493 : Cond.instanceMethod yJ0_coder_7d493 ∈ lw_tbl := in_t2 121 rfl
theorem se_J0_coder_7d493 : Cond.selects yJ0_coder_7d493.cls yJ0_coder_7d493 yJ0_coder_7d493 ∈ lw_tbl := in_t2 122 rfl
theorem yy_J0_charAt_5068e : zY yJ0_charAt_5068e cJ0_charAt_5068e 2 (some .char) 1 := ⟨in_t2 129 rfl, in_t1 12 rfl, ⟨by decide +kernel, by decide +kernel⟩, by decide +kernel⟩
theorem im_J0_charAt_5068e : Cond.instanceMethod yJ0_charAt_5068e ∈ lw_tbl := in_t2 127 rfl
theorem se_J0_charAt_5068e : Cond.selects yJ0_charAt_5068e.cls yJ0_charAt_5068e yJ0_charAt_5068e ∈ lw_tbl := in_t2 128 rfl
theorem yy_J0_isLatin1_aae02 : zY yJ0_isLatin1_aae02 cJ0_isLatin1_aae02 1 (some .boolean) 0 := ⟨in_t2 133 rfl, in_t1 12 rfl, ⟨by decide +kernel, by decide +kernel⟩, by decide +kernel⟩
theorem im_J0_isLatin1_aae02 : Cond.instanceMethod yJ0_isLatin1_aae02 ∈ lw_tbl := in_t2 131 rfl
theorem se_J0_isLatin1_aae02 : Cond.selects yJ0_isLatin1_aae02.cls yJ0_isLatin1_aae02 yJ0_isLatin1_aae02 ∈ lw_tbl := in_t2 132 rfl
theorem yy_J1_charAt_3b067 : zY yJ1_charAt_3b067 cJ1_charAt_3b067 2 (some .char) 2 := ⟨in_t2 136 rfl, in_t1 13 rfl, ⟨by decide +kernel, by decide +kernel⟩, by decide +kernel⟩
theorem st_J1_charAt_3b067 : Cond.static yJ1_charAt_3b067 ∈ lw_tbl := in_t2 135 rfl
theorem yy_J0_checkIndex_df160 : zY yJ0_checkIndex_df160 cJ0_checkIndex_df160 2 none 2 := ⟨in_t2 139 rfl, in_t1 12 rfl, ⟨by decide +kernel, by decide +kernel⟩, by decide +kernel⟩
theorem st_J0_checkIndex_df160 : Cond.static yJ0_checkIndex_df160 ∈ lw_tbl := in_t2 138 rfl
theorem yy_J3_checkIndex_8e157 : zY yJ3_checkIndex_8e157 cJ3_checkIndex_8e157 3 (some .int) 3 := ⟨in_t2 144 rfl, in_t1 14 rfl, ⟨by decide +kernel, by decide +kernel⟩, by decide +kernel⟩
theorem st_J3_checkIndex_8e157 : Cond.static yJ3_checkIndex_8e157 ∈ lw_tbl := in_t2 143 rfl
theorem yy_J2_charAt_3b067 : zY yJ2_charAt_3b067 cJ2_charAt_3b067 2 (some .char) 2 := ⟨in_t2 147 rfl, in_t1 15 rfl, ⟨by decide +kernel, by decide +kernel⟩, by decide +kernel⟩
theorem st_J2_charAt_3b067 : Cond.static yJ2_charAt_3b067 ∈ lw_tbl := in_t2 146 rfl
theorem yy_J2_checkIndex_2214a : zY yJ2_checkIndex_2214a cJ2_checkIndex_2214a 2 none 2 := ⟨in_t2 150 rfl, in_t1 15 rfl, ⟨by decide +kernel, by decide +kernel⟩, by decide +kernel⟩
theorem st_J2_checkIndex_2214a : Cond.static yJ2_checkIndex_2214a ∈ lw_tbl := in_t2 149 rfl
theorem yy_J2_length_9d52b : zY yJ2_length_9d52b cJ2_length_9d52b 1 (some .int) 1 := ⟨in_t2 153 rfl, in_t1 15 rfl, ⟨by decide +kernel, by decide +kernel⟩, by decide +kernel⟩
theorem st_J2_length_9d52b : Cond.static yJ2_length_9d52b ∈ lw_tbl := in_t2 152 rfl
theorem yy_J2_getChar_3b067 : zY yJ2_getChar_3b067 cJ2_getChar_3b067 2 (some .char) 2 := ⟨in_t2 157 rfl, in_t1 15 rfl, ⟨by decide +kernel, by decide +kernel⟩, by decide +kernel⟩
theorem st_J2_getChar_3b067 : Cond.static yJ2_getChar_3b067 ∈ lw_tbl := in_t2 156 rfl
theorem yy_X3_takeRising : zY yX3_takeRising cX3_takeRising 7 (some .int) 2 := ⟨in_t2 167 rfl, in_t1 11 rfl, ⟨by decide +kernel, by decide +kernel⟩, by decide +kernel⟩
theorem im_X3_takeRising : Cond.instanceMethod yX3_takeRising ∈ lw_tbl := in_t2 166 rfl
theorem se_X3_takeRising : Cond.selects yX3_takeRising.cls yX3_takeRising yX3_takeRising ∈ lw_tbl := in_s 7 rfl
theorem yy_X3_takeSign : zY yX3_takeSign cX3_takeSign 2 (some .boolean) 1 := ⟨in_t2 171 rfl, in_t1 11 rfl, ⟨by decide +kernel, by decide +kernel⟩, by decide +kernel⟩
theorem im_X3_takeSign : Cond.instanceMethod yX3_takeSign ∈ lw_tbl := in_t2 170 rfl
theorem se_X3_takeSign : Cond.selects yX3_takeSign.cls yX3_takeSign yX3_takeSign ∈ lw_tbl := in_s 8 rfl
theorem yy_X2_init : zY yX2_init cX2_init 6 none 5 := ⟨in_t2 176 rfl, in_t1 16 rfl, ⟨by decide +kernel, by decide +kernel⟩, by decide +kernel⟩
theorem im_X2_init : Cond.instanceMethod yX2_init ∈ lw_tbl := in_t2 175 rfl
theorem yy_X0_addPiece : zY yX0_addPiece cX0_addPiece 2 none 1 := ⟨in_t2 205 rfl, in_t1 6 rfl, ⟨by decide +kernel, by decide +kernel⟩, by decide +kernel⟩
theorem im_X0_addPiece : Cond.instanceMethod yX0_addPiece ∈ lw_tbl := in_t2 203 rfl
theorem se_X0_addPiece : Cond.selects yX0_addPiece.cls yX0_addPiece yX0_addPiece ∈ lw_tbl := in_t2 204 rfl
theorem yy_X10_as : zY yX10_as cX10_as 5 (some .int) 3 := ⟨in_t2 210 rfl, in_t1 1 rfl, ⟨by decide +kernel, by decide +kernel⟩, by decide +kernel⟩
theorem im_X10_as : Cond.instanceMethod yX10_as ∈ lw_tbl := in_t2 208 rfl
theorem se_X10_as : Cond.selects yX10_as.cls yX10_as yX10_as ∈ lw_tbl := in_t2 209 rfl
theorem yy_X10_findPiece : zY yX10_findPiece cX10_findPiece 4 (some (.object "WalkTeller$Piece")) 2 := ⟨in_t2 214 rfl, in_t1 1 rfl, ⟨by decide +kernel, by decide +kernel⟩, by decide +kernel⟩
theorem im_X10_findPiece : Cond.instanceMethod yX10_findPiece ∈ lw_tbl := in_t2 213 rfl
theorem se_X10_findPiece : Cond.selects yX10_findPiece.cls yX10_findPiece yX10_findPiece ∈ lw_tbl := in_s 9 rfl
theorem yy_X10_findEdition : zY yX10_findEdition cX10_findEdition 2 (some (.object "WalkTeller$Edition")) 1 := ⟨in_t2 218 rfl, in_t1 1 rfl, ⟨by decide +kernel, by decide +kernel⟩, by decide +kernel⟩
theorem im_X10_findEdition : Cond.instanceMethod yX10_findEdition ∈ lw_tbl := in_t2 217 rfl
theorem se_X10_findEdition : Cond.selects yX10_findEdition.cls yX10_findEdition yX10_findEdition ∈ lw_tbl := in_s 10 rfl
theorem yy_X0_findPiece : zY yX0_findPiece cX0_findPiece 2 (some (.object "WalkTeller$Piece")) 1 := ⟨in_t2 222 rfl, in_t1 6 rfl, ⟨by decide +kernel, by decide +kernel⟩, by decide +kernel⟩
theorem im_X0_findPiece : Cond.instanceMethod yX0_findPiece ∈ lw_tbl := in_t2 220 rfl
theorem se_X0_findPiece : Cond.selects yX0_findPiece.cls yX0_findPiece yX0_findPiece ∈ lw_tbl := in_t2 221 rfl
theorem yy_X2_isOfKind : zY yX2_isOfKind cX2_isOfKind 2 (some .boolean) 1 := ⟨in_t2 227 rfl, in_t1 16 rfl, ⟨by decide +kernel, by decide +kernel⟩, by decide +kernel⟩
theorem im_X2_isOfKind : Cond.instanceMethod yX2_isOfKind ∈ lw_tbl := in_t2 225 rfl
theorem se_X2_isOfKind : Cond.selects yX2_isOfKind.cls yX2_isOfKind yX2_isOfKind ∈ lw_tbl := in_t2 226 rfl
theorem yy_X10_of : zY yX10_of cX10_of 5 (some .int) 3 := ⟨in_t2 232 rfl, in_t1 1 rfl, ⟨by decide +kernel, by decide +kernel⟩, by decide +kernel⟩
theorem im_X10_of : Cond.instanceMethod yX10_of ∈ lw_tbl := in_t2 230 rfl
theorem se_X10_of : Cond.selects yX10_of.cls yX10_of yX10_of ∈ lw_tbl := in_t2 231 rfl
theorem yy_X10_check : zY yX10_check cX10_check 6 (some .int) 5 := ⟨in_t2 236 rfl, in_t1 1 rfl, ⟨by decide +kernel, by decide +kernel⟩, by decide +kernel⟩
theorem im_X10_check : Cond.instanceMethod yX10_check ∈ lw_tbl := in_t2 234 rfl
theorem se_X10_check : Cond.selects yX10_check.cls yX10_check yX10_check ∈ lw_tbl := in_t2 235 rfl
theorem yy_X10_searchAnew : zY yX10_searchAnew cX10_searchAnew 6 (some .boolean) 4 := ⟨in_t3 0 rfl, in_t1 1 rfl, ⟨by decide +kernel, by decide +kernel⟩, by decide +kernel⟩
theorem im_X10_searchAnew : Cond.instanceMethod yX10_searchAnew ∈ lw_tbl := in_t2 239 rfl
theorem se_X10_searchAnew : Cond.selects yX10_searchAnew.cls yX10_searchAnew yX10_searchAnew ∈ lw_tbl := in_s 11 rfl
theorem yy_X4_explore : zY yX4_explore cX4_explore 8 none 6 := ⟨in_t3 4 rfl, in_t1 4 rfl, ⟨by decide +kernel, by decide +kernel⟩, by decide +kernel⟩
theorem im_X4_explore : Cond.instanceMethod yX4_explore ∈ lw_tbl := in_t3 2 rfl
theorem se_X4_explore : Cond.selects yX4_explore.cls yX4_explore yX4_explore ∈ lw_tbl := in_t3 3 rfl
theorem yy_X4_clearReached : zY yX4_clearReached cX4_clearReached 2 none 0 := ⟨in_t3 8 rfl, in_t1 4 rfl, ⟨by decide +kernel, by decide +kernel⟩, by decide +kernel⟩
theorem im_X4_clearReached : Cond.instanceMethod yX4_clearReached ∈ lw_tbl := in_t3 7 rfl
theorem se_X4_clearReached : Cond.selects yX4_clearReached.cls yX4_clearReached yX4_clearReached ∈ lw_tbl := in_s 12 rfl
theorem yy_X4_reachFrom : zY yX4_reachFrom cX4_reachFrom 5 none 1 := ⟨in_t3 12 rfl, in_t1 4 rfl, ⟨by decide +kernel, by decide +kernel⟩, by decide +kernel⟩
theorem im_X4_reachFrom : Cond.instanceMethod yX4_reachFrom ∈ lw_tbl := in_t3 11 rfl
theorem se_X4_reachFrom : Cond.selects yX4_reachFrom.cls yX4_reachFrom yX4_reachFrom ∈ lw_tbl := in_s 13 rfl
theorem yy_X0_isOver : zY yX0_isOver cX0_isOver 2 (some .boolean) 1 := ⟨in_t3 16 rfl, in_t1 6 rfl, ⟨by decide +kernel, by decide +kernel⟩, by decide +kernel⟩
theorem im_X0_isOver : Cond.instanceMethod yX0_isOver ∈ lw_tbl := in_t3 14 rfl
theorem se_X0_isOver : Cond.selects yX0_isOver.cls yX0_isOver yX0_isOver ∈ lw_tbl := in_t3 15 rfl
theorem yy_X4_reachNext : zY yX4_reachNext cX4_reachNext 4 none 2 := ⟨in_t3 21 rfl, in_t1 4 rfl, ⟨by decide +kernel, by decide +kernel⟩, by decide +kernel⟩
theorem im_X4_reachNext : Cond.instanceMethod yX4_reachNext ∈ lw_tbl := in_t3 20 rfl
theorem se_X4_reachNext : Cond.selects yX4_reachNext.cls yX4_reachNext yX4_reachNext ∈ lw_tbl := in_s 14 rfl
theorem yy_X0_nextPiece : zY yX0_nextPiece cX0_nextPiece 6 (some .int) 4 := ⟨in_t3 25 rfl, in_t1 6 rfl, ⟨by decide +kernel, by decide +kernel⟩, by decide +kernel⟩
theorem im_X0_nextPiece : Cond.instanceMethod yX0_nextPiece ∈ lw_tbl := in_t3 23 rfl
theorem se_X0_nextPiece : Cond.selects yX0_nextPiece.cls yX0_nextPiece yX0_nextPiece ∈ lw_tbl := in_t3 24 rfl
theorem yy_X2_fits : zY yX2_fits cX2_fits 4 (some .boolean) 3 := ⟨in_t3 30 rfl, in_t1 16 rfl, ⟨by decide +kernel, by decide +kernel⟩, by decide +kernel⟩
theorem im_X2_fits : Cond.instanceMethod yX2_fits ∈ lw_tbl := in_t3 28 rfl
theorem se_X2_fits : Cond.selects yX2_fits.cls yX2_fits yX2_fits ∈ lw_tbl := in_t3 29 rfl
theorem yy_X4_timeSet : zY yX4_timeSet cX4_timeSet 5 none 1 := ⟨in_t3 34 rfl, in_t1 4 rfl, ⟨by decide +kernel, by decide +kernel⟩, by decide +kernel⟩
theorem im_X4_timeSet : Cond.instanceMethod yX4_timeSet ∈ lw_tbl := in_t3 33 rfl
theorem se_X4_timeSet : Cond.selects yX4_timeSet.cls yX4_timeSet yX4_timeSet ∈ lw_tbl := in_s 15 rfl
theorem yy_X4_timeToldHere : zY yX4_timeToldHere cX4_timeToldHere 5 (some .int) 2 := ⟨in_t3 38 rfl, in_t1 4 rfl, ⟨by decide +kernel, by decide +kernel⟩, by decide +kernel⟩
theorem im_X4_timeToldHere : Cond.instanceMethod yX4_timeToldHere ∈ lw_tbl := in_t3 37 rfl
theorem se_X4_timeToldHere : Cond.selects yX4_timeToldHere.cls yX4_timeToldHere yX4_timeToldHere ∈ lw_tbl := in_s 16 rfl
theorem yy_X4_timeFrom : zY yX4_timeFrom cX4_timeFrom 3 (some .int) 2 := ⟨in_t3 43 rfl, in_t1 4 rfl, ⟨by decide +kernel, by decide +kernel⟩, by decide +kernel⟩
theorem im_X4_timeFrom : Cond.instanceMethod yX4_timeFrom ∈ lw_tbl := in_t3 41 rfl
theorem se_X4_timeFrom : Cond.selects yX4_timeFrom.cls yX4_timeFrom yX4_timeFrom ∈ lw_tbl := in_t3 42 rfl
theorem yy_X4_countMoments : zY yX4_countMoments cX4_countMoments 3 (some .int) 0 := ⟨in_t3 48 rfl, in_t1 4 rfl, ⟨by decide +kernel, by decide +kernel⟩, by decide +kernel⟩
theorem im_X4_countMoments : Cond.instanceMethod yX4_countMoments ∈ lw_tbl := in_t3 46 rfl
theorem se_X4_countMoments : Cond.selects yX4_countMoments.cls yX4_countMoments yX4_countMoments ∈ lw_tbl := in_t3 47 rfl
theorem yy_J6_bitCount_0f7a4 : zY yJ6_bitCount_0f7a4 cJ6_bitCount_0f7a4 1 (some .int) 1 := ⟨in_t3 51 rfl, in_t1 17 rfl, ⟨by decide +kernel, by decide +kernel⟩, by decide +kernel⟩
theorem st_J6_bitCount_0f7a4 : Cond.static yJ6_bitCount_0f7a4 ∈ lw_tbl := in_t3 50 rfl
theorem yy_X4_countDeadEnds : zY yX4_countDeadEnds cX4_countDeadEnds 4 (some .int) 0 := ⟨in_t3 58 rfl, in_t1 4 rfl, ⟨by decide +kernel, by decide +kernel⟩, by decide +kernel⟩
theorem im_X4_countDeadEnds : Cond.instanceMethod yX4_countDeadEnds ∈ lw_tbl := in_t3 56 rfl
theorem se_X4_countDeadEnds : Cond.selects yX4_countDeadEnds.cls yX4_countDeadEnds yX4_countDeadEnds ∈ lw_tbl := in_t3 57 rfl
theorem yy_X4_countTwoVoices : zY yX4_countTwoVoices cX4_countTwoVoices 4 (some .int) 0 := ⟨in_t3 62 rfl, in_t1 4 rfl, ⟨by decide +kernel, by decide +kernel⟩, by decide +kernel⟩
theorem im_X4_countTwoVoices : Cond.instanceMethod yX4_countTwoVoices ∈ lw_tbl := in_t3 60 rfl
theorem se_X4_countTwoVoices : Cond.selects yX4_countTwoVoices.cls yX4_countTwoVoices yX4_countTwoVoices ∈ lw_tbl := in_t3 61 rfl
theorem yy_X0_hasTwoVoices : zY yX0_hasTwoVoices cX0_hasTwoVoices 5 (some .boolean) 3 := ⟨in_t3 66 rfl, in_t1 6 rfl, ⟨by decide +kernel, by decide +kernel⟩, by decide +kernel⟩
theorem im_X0_hasTwoVoices : Cond.instanceMethod yX0_hasTwoVoices ∈ lw_tbl := in_t3 64 rfl
theorem se_X0_hasTwoVoices : Cond.selects yX0_hasTwoVoices.cls yX0_hasTwoVoices yX0_hasTwoVoices ∈ lw_tbl := in_t3 65 rfl
theorem yy_X4_heardInSome : zY yX4_heardInSome cX4_heardInSome 3 (some .int) 0 := ⟨in_t3 71 rfl, in_t1 4 rfl, ⟨by decide +kernel, by decide +kernel⟩, by decide +kernel⟩
theorem im_X4_heardInSome : Cond.instanceMethod yX4_heardInSome ∈ lw_tbl := in_t3 69 rfl
theorem se_X4_heardInSome : Cond.selects yX4_heardInSome.cls yX4_heardInSome yX4_heardInSome ∈ lw_tbl := in_t3 70 rfl
theorem yy_X10_quickest : zY yX10_quickest cX10_quickest 5 (some .int) 4 := ⟨in_t3 75 rfl, in_t1 1 rfl, ⟨by decide +kernel, by decide +kernel⟩, by decide +kernel⟩
theorem im_X10_quickest : Cond.instanceMethod yX10_quickest ∈ lw_tbl := in_t3 73 rfl
theorem se_X10_quickest : Cond.selects yX10_quickest.cls yX10_quickest yX10_quickest ∈ lw_tbl := in_t3 74 rfl
theorem yy_X10_route : zY yX10_route cX10_route 6 (some .int) 5 := ⟨in_t3 80 rfl, in_t1 1 rfl, ⟨by decide +kernel, by decide +kernel⟩, by decide +kernel⟩
theorem im_X10_route : Cond.instanceMethod yX10_route ∈ lw_tbl := in_t3 78 rfl
theorem se_X10_route : Cond.selects yX10_route.cls yX10_route yX10_route ∈ lw_tbl := in_t3 79 rfl
theorem yy_X4_cornerOnQuickest : zY yX4_cornerOnQuickest cX4_cornerOnQuickest 9 (some .int) 2 := ⟨in_t3 84 rfl, in_t1 4 rfl, ⟨by decide +kernel, by decide +kernel⟩, by decide +kernel⟩
theorem im_X4_cornerOnQuickest : Cond.instanceMethod yX4_cornerOnQuickest ∈ lw_tbl := in_t3 82 rfl
theorem se_X4_cornerOnQuickest : Cond.selects yX4_cornerOnQuickest.cls yX4_cornerOnQuickest yX4_cornerOnQuickest ∈ lw_tbl := in_t3 83 rfl
theorem yy_X4_quickestStep : zY yX4_quickestStep cX4_quickestStep 5 (some .int) 2 := ⟨in_t3 88 rfl, in_t1 4 rfl, ⟨by decide +kernel, by decide +kernel⟩, by decide +kernel⟩
theorem im_X4_quickestStep : Cond.instanceMethod yX4_quickestStep ∈ lw_tbl := in_t3 87 rfl
theorem se_X4_quickestStep : Cond.selects yX4_quickestStep.cls yX4_quickestStep yX4_quickestStep ∈ lw_tbl := in_s 17 rfl
theorem yy_X4_timeBy : zY yX4_timeBy cX4_timeBy 4 (some .int) 3 := ⟨in_t3 92 rfl, in_t1 4 rfl, ⟨by decide +kernel, by decide +kernel⟩, by decide +kernel⟩
theorem im_X4_timeBy : Cond.instanceMethod yX4_timeBy ∈ lw_tbl := in_t3 90 rfl
theorem se_X4_timeBy : Cond.selects yX4_timeBy.cls yX4_timeBy yX4_timeBy ∈ lw_tbl := in_t3 91 rfl
theorem yy_X10_walker : zY yX10_walker cX10_walker 5 (some .int) 2 := ⟨in_t3 97 rfl, in_t1 1 rfl, ⟨by decide +kernel, by decide +kernel⟩, by decide +kernel⟩
theorem im_X10_walker : Cond.instanceMethod yX10_walker ∈ lw_tbl := in_t3 95 rfl
theorem se_X10_walker : Cond.selects yX10_walker.cls yX10_walker yX10_walker ∈ lw_tbl := in_t3 96 rfl
theorem yy_X8_init : zY yX8_init cX8_init 4 none 3 := ⟨in_t3 102 rfl, in_t1 18 rfl, ⟨by decide +kernel, by decide +kernel⟩, by decide +kernel⟩
theorem im_X8_init : Cond.instanceMethod yX8_init ∈ lw_tbl := in_t3 101 rfl
theorem yy_X8_arrive : zY yX8_arrive cX8_arrive 3 (some .int) 2 := ⟨in_t3 142 rfl, in_t1 18 rfl, ⟨by decide +kernel, by decide +kernel⟩, by decide +kernel⟩
theorem im_X8_arrive : Cond.instanceMethod yX8_arrive ∈ lw_tbl := in_t3 140 rfl
theorem se_X8_arrive : Cond.selects yX8_arrive.cls yX8_arrive yX8_arrive ∈ lw_tbl := in_t3 141 rfl
theorem yy_X8_forgetSightings : zY yX8_forgetSightings cX8_forgetSightings 1 none 0 := ⟨in_t3 146 rfl, in_t1 18 rfl, ⟨by decide +kernel, by decide +kernel⟩, by decide +kernel⟩
theorem im_X8_forgetSightings : Cond.instanceMethod yX8_forgetSightings ∈ lw_tbl := in_t3 145 rfl
theorem se_X8_forgetSightings : Cond.selects yX8_forgetSightings.cls yX8_forgetSightings yX8_forgetSightings ∈ lw_tbl := in_s 18 rfl
theorem yy_X8_listen : zY yX8_listen cX8_listen 6 (some .int) 1 := ⟨in_t3 150 rfl, in_t1 18 rfl, ⟨by decide +kernel, by decide +kernel⟩, by decide +kernel⟩
theorem im_X8_listen : Cond.instanceMethod yX8_listen ∈ lw_tbl := in_t3 148 rfl
theorem se_X8_listen : Cond.selects yX8_listen.cls yX8_listen yX8_listen ∈ lw_tbl := in_t3 149 rfl
theorem yy_X8_isOver : zY yX8_isOver cX8_isOver 1 (some .boolean) 0 := ⟨in_t3 154 rfl, in_t1 18 rfl, ⟨by decide +kernel, by decide +kernel⟩, by decide +kernel⟩
theorem im_X8_isOver : Cond.instanceMethod yX8_isOver ∈ lw_tbl := in_t3 152 rfl
theorem se_X8_isOver : Cond.selects yX8_isOver.cls yX8_isOver yX8_isOver ∈ lw_tbl := in_t3 153 rfl
theorem yy_X10_today : zY yX10_today cX10_today 4 (some .int) 1 := ⟨in_t3 161 rfl, in_t1 1 rfl, ⟨by decide +kernel, by decide +kernel⟩, by decide +kernel⟩
theorem im_X10_today : Cond.instanceMethod yX10_today ∈ lw_tbl := in_t3 159 rfl
theorem se_X10_today : Cond.selects yX10_today.cls yX10_today yX10_today ∈ lw_tbl := in_t3 160 rfl
theorem yy_X10_go : zY yX10_go cX10_go 5 (some .int) 2 := ⟨in_t3 166 rfl, in_t1 1 rfl, ⟨by decide +kernel, by decide +kernel⟩, by decide +kernel⟩
theorem im_X10_go : Cond.instanceMethod yX10_go ∈ lw_tbl := in_t3 164 rfl
theorem se_X10_go : Cond.selects yX10_go.cls yX10_go yX10_go ∈ lw_tbl := in_t3 165 rfl
theorem yy_X10_findWalker : zY yX10_findWalker cX10_findWalker 2 (some (.object "WalkTeller$Walker")) 1 := ⟨in_t3 170 rfl, in_t1 1 rfl, ⟨by decide +kernel, by decide +kernel⟩, by decide +kernel⟩
theorem im_X10_findWalker : Cond.instanceMethod yX10_findWalker ∈ lw_tbl := in_t3 169 rfl
theorem se_X10_findWalker : Cond.selects yX10_findWalker.cls yX10_findWalker yX10_findWalker ∈ lw_tbl := in_s 19 rfl
theorem yy_X9_leadsFrom : zY yX9_leadsFrom cX9_leadsFrom 2 (some .boolean) 1 := ⟨in_t3 175 rfl, in_t1 8 rfl, ⟨by decide +kernel, by decide +kernel⟩, by decide +kernel⟩
theorem im_X9_leadsFrom : Cond.instanceMethod yX9_leadsFrom ∈ lw_tbl := in_t3 173 rfl
theorem se_X9_leadsFrom : Cond.selects yX9_leadsFrom.cls yX9_leadsFrom yX9_leadsFrom ∈ lw_tbl := in_t3 174 rfl
theorem yy_X9_otherEnd : zY yX9_otherEnd cX9_otherEnd 2 (some .int) 1 := ⟨in_t3 181 rfl, in_t1 8 rfl, ⟨by decide +kernel, by decide +kernel⟩, by decide +kernel⟩
theorem im_X9_otherEnd : Cond.instanceMethod yX9_otherEnd ∈ lw_tbl := in_t3 179 rfl
theorem se_X9_otherEnd : Cond.selects yX9_otherEnd.cls yX9_otherEnd yX9_otherEnd ∈ lw_tbl := in_t3 180 rfl
theorem yy_X10_about : zY yX10_about cX10_about 4 (some .int) 2 := ⟨in_t3 185 rfl, in_t1 1 rfl, ⟨by decide +kernel, by decide +kernel⟩, by decide +kernel⟩
theorem im_X10_about : Cond.instanceMethod yX10_about ∈ lw_tbl := in_t3 183 rfl
theorem se_X10_about : Cond.selects yX10_about.cls yX10_about yX10_about ∈ lw_tbl := in_t3 184 rfl
theorem yy_X10_offer : zY yX10_offer cX10_offer 4 (some .int) 1 := ⟨in_t3 189 rfl, in_t1 1 rfl, ⟨by decide +kernel, by decide +kernel⟩, by decide +kernel⟩
theorem im_X10_offer : Cond.instanceMethod yX10_offer ∈ lw_tbl := in_t3 187 rfl
theorem se_X10_offer : Cond.selects yX10_offer.cls yX10_offer yX10_offer ∈ lw_tbl := in_t3 188 rfl
theorem yy_X10_searchFrom : zY yX10_searchFrom cX10_searchFrom 2 none 1 := ⟨in_t3 193 rfl, in_t1 1 rfl, ⟨by decide +kernel, by decide +kernel⟩, by decide +kernel⟩
theorem im_X10_searchFrom : Cond.instanceMethod yX10_searchFrom ∈ lw_tbl := in_t3 192 rfl
theorem se_X10_searchFrom : Cond.selects yX10_searchFrom.cls yX10_searchFrom yX10_searchFrom ∈ lw_tbl := in_s 20 rfl
theorem yy_X10_bestNextCorner : zY yX10_bestNextCorner cX10_bestNextCorner 8 (some .int) 1 := ⟨in_t3 197 rfl, in_t1 1 rfl, ⟨by decide +kernel, by decide +kernel⟩, by decide +kernel⟩
theorem im_X10_bestNextCorner : Cond.instanceMethod yX10_bestNextCorner ∈ lw_tbl := in_t3 196 rfl
theorem se_X10_bestNextCorner : Cond.selects yX10_bestNextCorner.cls yX10_bestNextCorner yX10_bestNextCorner ∈ lw_tbl := in_s 21 rfl
theorem yy_X10_countWalking : zY yX10_countWalking cX10_countWalking 4 (some .int) 1 := ⟨in_t3 202 rfl, in_t1 1 rfl, ⟨by decide +kernel, by decide +kernel⟩, by decide +kernel⟩
theorem im_X10_countWalking : Cond.instanceMethod yX10_countWalking ∈ lw_tbl := in_t3 201 rfl
theorem se_X10_countWalking : Cond.selects yX10_countWalking.cls yX10_countWalking yX10_countWalking ∈ lw_tbl := in_s 22 rfl
theorem yy_X10_rest : zY yX10_rest cX10_rest 3 (some .int) 1 := ⟨in_t3 206 rfl, in_t1 1 rfl, ⟨by decide +kernel, by decide +kernel⟩, by decide +kernel⟩
theorem im_X10_rest : Cond.instanceMethod yX10_rest ∈ lw_tbl := in_t3 204 rfl
theorem se_X10_rest : Cond.selects yX10_rest.cls yX10_rest yX10_rest ∈ lw_tbl := in_t3 205 rfl
theorem yy_X10_lost : zY yX10_lost cX10_lost 3 (some .int) 1 := ⟨in_t3 210 rfl, in_t1 1 rfl, ⟨by decide +kernel, by decide +kernel⟩, by decide +kernel⟩
theorem im_X10_lost : Cond.instanceMethod yX10_lost ∈ lw_tbl := in_t3 208 rfl
theorem se_X10_lost : Cond.selects yX10_lost.cls yX10_lost yX10_lost ∈ lw_tbl := in_t3 209 rfl
theorem yy_X0_allPieces : zY yX0_allPieces cX0_allPieces 1 (some .int) 0 := ⟨in_t3 214 rfl, in_t1 6 rfl, ⟨by decide +kernel, by decide +kernel⟩, by decide +kernel⟩
theorem im_X0_allPieces : Cond.instanceMethod yX0_allPieces ∈ lw_tbl := in_t3 212 rfl
theorem se_X0_allPieces : Cond.selects yX0_allPieces.cls yX0_allPieces yX0_allPieces ∈ lw_tbl := in_t3 213 rfl
theorem yy_X10_seen : zY yX10_seen cX10_seen 6 (some .int) 4 := ⟨in_t3 218 rfl, in_t1 1 rfl, ⟨by decide +kernel, by decide +kernel⟩, by decide +kernel⟩
theorem im_X10_seen : Cond.instanceMethod yX10_seen ∈ lw_tbl := in_t3 216 rfl
theorem se_X10_seen : Cond.selects yX10_seen.cls yX10_seen yX10_seen ∈ lw_tbl := in_t3 217 rfl
theorem yy_X10_isDoubt : zY yX10_isDoubt cX10_isDoubt 1 (some .boolean) 1 := ⟨in_t3 221 rfl, in_t1 1 rfl, ⟨by decide +kernel, by decide +kernel⟩, by decide +kernel⟩
theorem st_X10_isDoubt : Cond.static yX10_isDoubt ∈ lw_tbl := in_t3 220 rfl
theorem yy_X8_takeReading : zY yX8_takeReading cX8_takeReading 7 none 5 := ⟨in_t3 225 rfl, in_t1 18 rfl, ⟨by decide +kernel, by decide +kernel⟩, by decide +kernel⟩
theorem im_X8_takeReading : Cond.instanceMethod yX8_takeReading ∈ lw_tbl := in_t3 223 rfl
theorem se_X8_takeReading : Cond.selects yX8_takeReading.cls yX8_takeReading yX8_takeReading ∈ lw_tbl := in_t3 224 rfl
theorem yy_X7_possibleCorners : zY yX7_possibleCorners cX7_possibleCorners 6 (some .int) 3 := ⟨in_t3 229 rfl, in_t1 2 rfl, ⟨by decide +kernel, by decide +kernel⟩, by decide +kernel⟩
theorem im_X7_possibleCorners : Cond.instanceMethod yX7_possibleCorners ∈ lw_tbl := in_t3 227 rfl
theorem se_X7_possibleCorners : Cond.selects yX7_possibleCorners.cls yX7_possibleCorners yX7_possibleCorners ∈ lw_tbl := in_t3 228 rfl
theorem yy_J6_numberOfTrailingZeros_0f7a4 : zY yJ6_numberOfTrailingZeros_0f7a4 cJ6_numberOfTrailingZeros_0f7a4 2 (some .int) 1 := ⟨in_t3 234 rfl, in_t1 17 rfl, ⟨by decide +kernel, by decide +kernel⟩, by decide +kernel⟩
theorem st_J6_numberOfTrailingZeros_0f7a4 : Cond.static yJ6_numberOfTrailingZeros_0f7a4 ∈ lw_tbl := in_t3 233 rfl
theorem yy_X8_sight : zY yX8_sight cX8_sight 5 none 3 := ⟨in_t3 239 rfl, in_t1 18 rfl, ⟨by decide +kernel, by decide +kernel⟩, by decide +kernel⟩
theorem im_X8_sight : Cond.instanceMethod yX8_sight ∈ lw_tbl := in_t3 238 rfl
theorem se_X8_sight : Cond.selects yX8_sight.cls yX8_sight yX8_sight ∈ lw_tbl := in_s 23 rfl
theorem yy_X7_isJoined : zY yX7_isJoined cX7_isJoined 6 (some .boolean) 4 := ⟨in_t4 3 rfl, in_t1 2 rfl, ⟨by decide +kernel, by decide +kernel⟩, by decide +kernel⟩
theorem im_X7_isJoined : Cond.instanceMethod yX7_isJoined ∈ lw_tbl := in_t4 1 rfl
theorem se_X7_isJoined : Cond.selects yX7_isJoined.cls yX7_isJoined yX7_isJoined ∈ lw_tbl := in_t4 2 rfl
theorem yy_X10_sheet : zY yX10_sheet cX10_sheet 4 (some .int) 3 := ⟨in_t4 11 rfl, in_t1 1 rfl, ⟨by decide +kernel, by decide +kernel⟩, by decide +kernel⟩
theorem im_X10_sheet : Cond.instanceMethod yX10_sheet ∈ lw_tbl := in_t4 9 rfl
theorem se_X10_sheet : Cond.selects yX10_sheet.cls yX10_sheet yX10_sheet ∈ lw_tbl := in_t4 10 rfl
theorem yy_X10_isSheet : zY yX10_isSheet cX10_isSheet 1 (some .boolean) 1 := ⟨in_t4 14 rfl, in_t1 1 rfl, ⟨by decide +kernel, by decide +kernel⟩, by decide +kernel⟩
theorem st_X10_isSheet : Cond.static yX10_isSheet ∈ lw_tbl := in_t4 13 rfl
theorem yy_X10_isSheetBits : zY yX10_isSheetBits cX10_isSheetBits 1 (some .boolean) 1 := ⟨in_t4 17 rfl, in_t1 1 rfl, ⟨by decide +kernel, by decide +kernel⟩, by decide +kernel⟩
theorem st_X10_isSheetBits : Cond.static yX10_isSheetBits ∈ lw_tbl := in_t4 16 rfl
theorem yy_X5_init : zY yX5_init cX5_init 3 none 2 := ⟨in_t4 22 rfl, in_t1 19 rfl, ⟨by decide +kernel, by decide +kernel⟩, by decide +kernel⟩
theorem im_X5_init : Cond.instanceMethod yX5_init ∈ lw_tbl := in_t4 21 rfl
theorem yy_X10_write : zY yX10_write cX10_write 6 (some .int) 3 := ⟨in_t4 39 rfl, in_t1 1 rfl, ⟨by decide +kernel, by decide +kernel⟩, by decide +kernel⟩
theorem im_X10_write : Cond.instanceMethod yX10_write ∈ lw_tbl := in_t4 37 rfl
theorem se_X10_write : Cond.selects yX10_write.cls yX10_write yX10_write ∈ lw_tbl := in_t4 38 rfl
theorem yy_X5_lowestBits : zY yX5_lowestBits cX5_lowestBits 3 (some .int) 1 := ⟨in_t4 44 rfl, in_t1 19 rfl, ⟨by decide +kernel, by decide +kernel⟩, by decide +kernel⟩
theorem im_X5_lowestBits : Cond.instanceMethod yX5_lowestBits ∈ lw_tbl := in_t4 42 rfl
theorem se_X5_lowestBits : Cond.selects yX5_lowestBits.cls yX5_lowestBits yX5_lowestBits ∈ lw_tbl := in_t4 43 rfl
theorem yy_X10_copy : zY yX10_copy cX10_copy 8 (some .int) 5 := ⟨in_t4 48 rfl, in_t1 1 rfl, ⟨by decide +kernel, by decide +kernel⟩, by decide +kernel⟩
theorem im_X10_copy : Cond.instanceMethod yX10_copy ∈ lw_tbl := in_t4 46 rfl
theorem se_X10_copy : Cond.selects yX10_copy.cls yX10_copy yX10_copy ∈ lw_tbl := in_t4 47 rfl
theorem yy_X5_hasRange : zY yX5_hasRange cX5_hasRange 3 (some .boolean) 2 := ⟨in_t4 52 rfl, in_t1 19 rfl, ⟨by decide +kernel, by decide +kernel⟩, by decide +kernel⟩
theorem im_X5_hasRange : Cond.instanceMethod yX5_hasRange ∈ lw_tbl := in_t4 50 rfl
theorem se_X5_hasRange : Cond.selects yX5_hasRange.cls yX5_hasRange yX5_hasRange ∈ lw_tbl := in_t4 51 rfl
theorem yy_X10_trace : zY yX10_trace cX10_trace 8 (some .int) 2 := ⟨in_t4 59 rfl, in_t1 1 rfl, ⟨by decide +kernel, by decide +kernel⟩, by decide +kernel⟩
theorem im_X10_trace : Cond.instanceMethod yX10_trace ∈ lw_tbl := in_t4 57 rfl
theorem se_X10_trace : Cond.selects yX10_trace.cls yX10_trace yX10_trace ∈ lw_tbl := in_t4 58 rfl
theorem yy_X10_told : zY yX10_told cX10_told 2 (some .int) 1 := ⟨in_t4 63 rfl, in_t1 1 rfl, ⟨by decide +kernel, by decide +kernel⟩, by decide +kernel⟩
theorem im_X10_told : Cond.instanceMethod yX10_told ∈ lw_tbl := in_t4 61 rfl
theorem se_X10_told : Cond.selects yX10_told.cls yX10_told yX10_told ∈ lw_tbl := in_t4 62 rfl
theorem yy_X11_init : zY yX11_init cX11_init 1 none 0 := ⟨in_t4 68 rfl, in_t1 7 rfl, ⟨by decide +kernel, by decide +kernel⟩, by decide +kernel⟩
theorem im_X11_init : Cond.instanceMethod yX11_init ∈ lw_tbl := in_t4 67 rfl
theorem yy_X11_corner : zY yX11_corner cX11_corner 3 (some .int) 2 := ⟨in_t4 208 rfl, in_t1 7 rfl, ⟨by decide +kernel, by decide +kernel⟩, by decide +kernel⟩
theorem im_X11_corner : Cond.instanceMethod yX11_corner ∈ lw_tbl := in_t4 206 rfl
theorem se_X11_corner : Cond.selects yX11_corner.cls yX11_corner yX11_corner ∈ lw_tbl := in_t4 207 rfl
theorem yy_X11_within : zY yX11_within cX11_within 3 (some .boolean) 3 := ⟨in_t4 211 rfl, in_t1 7 rfl, ⟨by decide +kernel, by decide +kernel⟩, by decide +kernel⟩
theorem st_X11_within : Cond.static yX11_within ∈ lw_tbl := in_t4 210 rfl
theorem yy_X11_finding : zY yX11_finding cX11_finding 2 (some .int) 1 := ⟨in_t4 216 rfl, in_t1 7 rfl, ⟨by decide +kernel, by decide +kernel⟩, by decide +kernel⟩
theorem im_X11_finding : Cond.instanceMethod yX11_finding ∈ lw_tbl := in_t4 215 rfl
theorem se_X11_finding : Cond.selects yX11_finding.cls yX11_finding yX11_finding ∈ lw_tbl := in_s 24 rfl
theorem yy_X11_way : zY yX11_way cX11_way 5 (some .int) 4 := ⟨in_t4 221 rfl, in_t1 7 rfl, ⟨by decide +kernel, by decide +kernel⟩, by decide +kernel⟩
theorem im_X11_way : Cond.instanceMethod yX11_way ∈ lw_tbl := in_t4 219 rfl
theorem se_X11_way : Cond.selects yX11_way.cls yX11_way yX11_way ∈ lw_tbl := in_t4 220 rfl
theorem yy_X11_isCorner : zY yX11_isCorner cX11_isCorner 2 (some .boolean) 1 := ⟨in_t4 225 rfl, in_t1 7 rfl, ⟨by decide +kernel, by decide +kernel⟩, by decide +kernel⟩
theorem im_X11_isCorner : Cond.instanceMethod yX11_isCorner ∈ lw_tbl := in_t4 224 rfl
theorem se_X11_isCorner : Cond.selects yX11_isCorner.cls yX11_isCorner yX11_isCorner ∈ lw_tbl := in_s 25 rfl
theorem yy_X11_shut : zY yX11_shut cX11_shut 4 (some .int) 2 := ⟨in_t4 229 rfl, in_t1 7 rfl, ⟨by decide +kernel, by decide +kernel⟩, by decide +kernel⟩
theorem im_X11_shut : Cond.instanceMethod yX11_shut ∈ lw_tbl := in_t4 227 rfl
theorem se_X11_shut : Cond.selects yX11_shut.cls yX11_shut yX11_shut ∈ lw_tbl := in_t4 228 rfl
theorem yy_X11_isWay : zY yX11_isWay cX11_isWay 2 (some .boolean) 1 := ⟨in_t4 233 rfl, in_t1 7 rfl, ⟨by decide +kernel, by decide +kernel⟩, by decide +kernel⟩
theorem im_X11_isWay : Cond.instanceMethod yX11_isWay ∈ lw_tbl := in_t4 232 rfl
theorem se_X11_isWay : Cond.selects yX11_isWay.cls yX11_isWay yX11_isWay ∈ lw_tbl := in_s 26 rfl
theorem yy_X11_far : zY yX11_far cX11_far 10 (some .int) 4 := ⟨in_t4 237 rfl, in_t1 7 rfl, ⟨by decide +kernel, by decide +kernel⟩, by decide +kernel⟩
theorem im_X11_far : Cond.instanceMethod yX11_far ∈ lw_tbl := in_t4 235 rfl
theorem se_X11_far : Cond.selects yX11_far.cls yX11_far yX11_far ∈ lw_tbl := in_t4 236 rfl
theorem yy_X11_isDay : zY yX11_isDay cX11_isDay 1 (some .boolean) 1 := ⟨in_t5 0 rfl, in_t1 7 rfl, ⟨by decide +kernel, by decide +kernel⟩, by decide +kernel⟩
theorem st_X11_isDay : Cond.static yX11_isDay ∈ lw_tbl := in_t4 239 rfl
theorem yy_X11_isOpen : zY yX11_isOpen cX11_isOpen 4 (some .boolean) 3 := ⟨in_t5 5 rfl, in_t1 7 rfl, ⟨by decide +kernel, by decide +kernel⟩, by decide +kernel⟩
theorem im_X11_isOpen : Cond.instanceMethod yX11_isOpen ∈ lw_tbl := in_t5 4 rfl
theorem se_X11_isOpen : Cond.selects yX11_isOpen.cls yX11_isOpen yX11_isOpen ∈ lw_tbl := in_s 27 rfl
theorem yy_X11_feed : zY yX11_feed cX11_feed 5 (some .int) 2 := ⟨in_t5 11 rfl, in_t1 7 rfl, ⟨by decide +kernel, by decide +kernel⟩, by decide +kernel⟩
theorem im_X11_feed : Cond.instanceMethod yX11_feed ∈ lw_tbl := in_t5 9 rfl
theorem se_X11_feed : Cond.selects yX11_feed.cls yX11_feed yX11_feed ∈ lw_tbl := in_t5 10 rfl
theorem yy_X11_story : zY yX11_story cX11_story 2 (some .int) 0 := ⟨in_t5 16 rfl, in_t1 7 rfl, ⟨by decide +kernel, by decide +kernel⟩, by decide +kernel⟩
theorem im_X11_story : Cond.instanceMethod yX11_story ∈ lw_tbl := in_t5 14 rfl
theorem se_X11_story : Cond.selects yX11_story.cls yX11_story yX11_story ∈ lw_tbl := in_t5 15 rfl
theorem yy_X11_newEdition : zY yX11_newEdition cX11_newEdition 4 (some .int) 0 := ⟨in_t5 20 rfl, in_t1 7 rfl, ⟨by decide +kernel, by decide +kernel⟩, by decide +kernel⟩
theorem im_X11_newEdition : Cond.instanceMethod yX11_newEdition ∈ lw_tbl := in_t5 19 rfl
theorem se_X11_newEdition : Cond.selects yX11_newEdition.cls yX11_newEdition yX11_newEdition ∈ lw_tbl := in_s 28 rfl
theorem yy_X11_readsPiece : zY yX11_readsPiece cX11_readsPiece 2 (some .boolean) 0 := ⟨in_t5 24 rfl, in_t1 7 rfl, ⟨by decide +kernel, by decide +kernel⟩, by decide +kernel⟩
theorem im_X11_readsPiece : Cond.instanceMethod yX11_readsPiece ∈ lw_tbl := in_t5 23 rfl
theorem se_X11_readsPiece : Cond.selects yX11_readsPiece.cls yX11_readsPiece yX11_readsPiece ∈ lw_tbl := in_s 29 rfl
theorem yy_X11_byteAt : zY yX11_byteAt cX11_byteAt 2 (some .int) 1 := ⟨in_t5 28 rfl, in_t1 7 rfl, ⟨by decide +kernel, by decide +kernel⟩, by decide +kernel⟩
theorem im_X11_byteAt : Cond.instanceMethod yX11_byteAt ∈ lw_tbl := in_t5 27 rfl
theorem se_X11_byteAt : Cond.selects yX11_byteAt.cls yX11_byteAt yX11_byteAt ∈ lw_tbl := in_s 30 rfl
theorem yy_X11_kindBy : zY yX11_kindBy cX11_kindBy 1 (some .int) 1 := ⟨in_t5 31 rfl, in_t1 7 rfl, ⟨by decide +kernel, by decide +kernel⟩, by decide +kernel⟩
theorem st_X11_kindBy : Cond.static yX11_kindBy ∈ lw_tbl := in_t5 30 rfl
theorem yy_X11_readsDays : zY yX11_readsDays cX11_readsDays 3 (some .boolean) 0 := ⟨in_t5 35 rfl, in_t1 7 rfl, ⟨by decide +kernel, by decide +kernel⟩, by decide +kernel⟩
theorem im_X11_readsDays : Cond.instanceMethod yX11_readsDays ∈ lw_tbl := in_t5 34 rfl
theorem se_X11_readsDays : Cond.selects yX11_readsDays.cls yX11_readsDays yX11_readsDays ∈ lw_tbl := in_s 31 rfl
theorem yy_X11_as : zY yX11_as cX11_as 5 (some .int) 3 := ⟨in_t5 40 rfl, in_t1 7 rfl, ⟨by decide +kernel, by decide +kernel⟩, by decide +kernel⟩
theorem im_X11_as : Cond.instanceMethod yX11_as ∈ lw_tbl := in_t5 38 rfl
theorem se_X11_as : Cond.selects yX11_as.cls yX11_as yX11_as ∈ lw_tbl := in_t5 39 rfl
theorem yy_X11_isPiece : zY yX11_isPiece cX11_isPiece 3 (some .boolean) 2 := ⟨in_t5 44 rfl, in_t1 7 rfl, ⟨by decide +kernel, by decide +kernel⟩, by decide +kernel⟩
theorem im_X11_isPiece : Cond.instanceMethod yX11_isPiece ∈ lw_tbl := in_t5 43 rfl
theorem se_X11_isPiece : Cond.selects yX11_isPiece.cls yX11_isPiece yX11_isPiece ∈ lw_tbl := in_s 32 rfl
theorem yy_X11_isEdition : zY yX11_isEdition cX11_isEdition 2 (some .boolean) 1 := ⟨in_t5 48 rfl, in_t1 7 rfl, ⟨by decide +kernel, by decide +kernel⟩, by decide +kernel⟩
theorem im_X11_isEdition : Cond.instanceMethod yX11_isEdition ∈ lw_tbl := in_t5 47 rfl
theorem se_X11_isEdition : Cond.selects yX11_isEdition.cls yX11_isEdition yX11_isEdition ∈ lw_tbl := in_s 33 rfl
theorem yy_X11_of : zY yX11_of cX11_of 5 (some .int) 3 := ⟨in_t5 53 rfl, in_t1 7 rfl, ⟨by decide +kernel, by decide +kernel⟩, by decide +kernel⟩
theorem im_X11_of : Cond.instanceMethod yX11_of ∈ lw_tbl := in_t5 51 rfl
theorem se_X11_of : Cond.selects yX11_of.cls yX11_of yX11_of ∈ lw_tbl := in_t5 52 rfl
theorem yy_X11_check : zY yX11_check cX11_check 11 (some .int) 5 := ⟨in_t5 57 rfl, in_t1 7 rfl, ⟨by decide +kernel, by decide +kernel⟩, by decide +kernel⟩
theorem im_X11_check : Cond.instanceMethod yX11_check ∈ lw_tbl := in_t5 55 rfl
theorem se_X11_check : Cond.selects yX11_check.cls yX11_check yX11_check ∈ lw_tbl := in_t5 56 rfl
theorem yy_X11_findMoments : zY yX11_findMoments cX11_findMoments 11 none 5 := ⟨in_t5 61 rfl, in_t1 7 rfl, ⟨by decide +kernel, by decide +kernel⟩, by decide +kernel⟩
theorem im_X11_findMoments : Cond.instanceMethod yX11_findMoments ∈ lw_tbl := in_t5 60 rfl
theorem se_X11_findMoments : Cond.selects yX11_findMoments.cls yX11_findMoments yX11_findMoments ∈ lw_tbl := in_s 34 rfl
theorem yy_X11_momentOf : zY yX11_momentOf cX11_momentOf 2 (some .int) 2 := ⟨in_t5 64 rfl, in_t1 7 rfl, ⟨by decide +kernel, by decide +kernel⟩, by decide +kernel⟩
theorem st_X11_momentOf : Cond.static yX11_momentOf ∈ lw_tbl := in_t5 63 rfl
theorem yy_X11_meets : zY yX11_meets cX11_meets 2 none 1 := ⟨in_t5 68 rfl, in_t1 7 rfl, ⟨by decide +kernel, by decide +kernel⟩, by decide +kernel⟩
theorem im_X11_meets : Cond.instanceMethod yX11_meets ∈ lw_tbl := in_t5 67 rfl
theorem se_X11_meets : Cond.selects yX11_meets.cls yX11_meets yX11_meets ∈ lw_tbl := in_s 35 rfl
theorem yy_X11_isOver : zY yX11_isOver cX11_isOver 5 (some .boolean) 2 := ⟨in_t5 72 rfl, in_t1 7 rfl, ⟨by decide +kernel, by decide +kernel⟩, by decide +kernel⟩
theorem im_X11_isOver : Cond.instanceMethod yX11_isOver ∈ lw_tbl := in_t5 71 rfl
theorem se_X11_isOver : Cond.selects yX11_isOver.cls yX11_isOver yX11_isOver ∈ lw_tbl := in_s 36 rfl
theorem yy_X11_nextPiece : zY yX11_nextPiece cX11_nextPiece 6 (some .int) 4 := ⟨in_t5 76 rfl, in_t1 7 rfl, ⟨by decide +kernel, by decide +kernel⟩, by decide +kernel⟩
theorem im_X11_nextPiece : Cond.instanceMethod yX11_nextPiece ∈ lw_tbl := in_t5 75 rfl
theorem se_X11_nextPiece : Cond.selects yX11_nextPiece.cls yX11_nextPiece yX11_nextPiece ∈ lw_tbl := in_s 37 rfl
theorem yy_X11_canTell : zY yX11_canTell cX11_canTell 8 (some .boolean) 5 := ⟨in_t5 80 rfl, in_t1 7 rfl, ⟨by decide +kernel, by decide +kernel⟩, by decide +kernel⟩
theorem im_X11_canTell : Cond.instanceMethod yX11_canTell ∈ lw_tbl := in_t5 79 rfl
theorem se_X11_canTell : Cond.selects yX11_canTell.cls yX11_canTell yX11_canTell ∈ lw_tbl := in_s 38 rfl
theorem yy_X11_allHeard : zY yX11_allHeard cX11_allHeard 3 (some .int) 0 := ⟨in_t5 84 rfl, in_t1 7 rfl, ⟨by decide +kernel, by decide +kernel⟩, by decide +kernel⟩
theorem im_X11_allHeard : Cond.instanceMethod yX11_allHeard ∈ lw_tbl := in_t5 83 rfl
theorem se_X11_allHeard : Cond.selects yX11_allHeard.cls yX11_allHeard yX11_allHeard ∈ lw_tbl := in_s 39 rfl
theorem yy_X11_findTimes : zY yX11_findTimes cX11_findTimes 9 none 3 := ⟨in_t5 88 rfl, in_t1 7 rfl, ⟨by decide +kernel, by decide +kernel⟩, by decide +kernel⟩
theorem im_X11_findTimes : Cond.instanceMethod yX11_findTimes ∈ lw_tbl := in_t5 87 rfl
theorem se_X11_findTimes : Cond.selects yX11_findTimes.cls yX11_findTimes yX11_findTimes ∈ lw_tbl := in_s 40 rfl
theorem yy_X11_comesNearer : zY yX11_comesNearer cX11_comesNearer 6 none 5 := ⟨in_t5 92 rfl, in_t1 7 rfl, ⟨by decide +kernel, by decide +kernel⟩, by decide +kernel⟩
theorem im_X11_comesNearer : Cond.instanceMethod yX11_comesNearer ∈ lw_tbl := in_t5 91 rfl
theorem se_X11_comesNearer : Cond.selects yX11_comesNearer.cls yX11_comesNearer yX11_comesNearer ∈ lw_tbl := in_s 41 rfl
theorem yy_X11_manyCan : zY yX11_manyCan cX11_manyCan 7 (some .int) 4 := ⟨in_t5 96 rfl, in_t1 7 rfl, ⟨by decide +kernel, by decide +kernel⟩, by decide +kernel⟩
theorem im_X11_manyCan : Cond.instanceMethod yX11_manyCan ∈ lw_tbl := in_t5 95 rfl
theorem se_X11_manyCan : Cond.selects yX11_manyCan.cls yX11_manyCan yX11_manyCan ∈ lw_tbl := in_s 42 rfl
theorem yy_X11_quickest : zY yX11_quickest cX11_quickest 6 (some .int) 4 := ⟨in_t5 100 rfl, in_t1 7 rfl, ⟨by decide +kernel, by decide +kernel⟩, by decide +kernel⟩
theorem im_X11_quickest : Cond.instanceMethod yX11_quickest ∈ lw_tbl := in_t5 98 rfl
theorem se_X11_quickest : Cond.selects yX11_quickest.cls yX11_quickest yX11_quickest ∈ lw_tbl := in_t5 99 rfl
theorem yy_X11_canAsk : zY yX11_canAsk cX11_canAsk 4 (some .boolean) 3 := ⟨in_t5 104 rfl, in_t1 7 rfl, ⟨by decide +kernel, by decide +kernel⟩, by decide +kernel⟩
theorem im_X11_canAsk : Cond.instanceMethod yX11_canAsk ∈ lw_tbl := in_t5 103 rfl
theorem se_X11_canAsk : Cond.selects yX11_canAsk.cls yX11_canAsk yX11_canAsk ∈ lw_tbl := in_s 43 rfl
theorem yy_X11_route : zY yX11_route cX11_route 10 (some .int) 5 := ⟨in_t5 108 rfl, in_t1 7 rfl, ⟨by decide +kernel, by decide +kernel⟩, by decide +kernel⟩
theorem im_X11_route : Cond.instanceMethod yX11_route ∈ lw_tbl := in_t5 106 rfl
theorem se_X11_route : Cond.selects yX11_route.cls yX11_route yX11_route ∈ lw_tbl := in_t5 107 rfl
theorem yy_X11_goesTo : zY yX11_goesTo cX11_goesTo 9 (some .int) 4 := ⟨in_t5 112 rfl, in_t1 7 rfl, ⟨by decide +kernel, by decide +kernel⟩, by decide +kernel⟩
theorem im_X11_goesTo : Cond.instanceMethod yX11_goesTo ∈ lw_tbl := in_t5 111 rfl
theorem se_X11_goesTo : Cond.selects yX11_goesTo.cls yX11_goesTo yX11_goesTo ∈ lw_tbl := in_s 44 rfl
theorem yy_X11_walker : zY yX11_walker cX11_walker 5 (some .int) 2 := ⟨in_t5 116 rfl, in_t1 7 rfl, ⟨by decide +kernel, by decide +kernel⟩, by decide +kernel⟩
theorem im_X11_walker : Cond.instanceMethod yX11_walker ∈ lw_tbl := in_t5 114 rfl
theorem se_X11_walker : Cond.selects yX11_walker.cls yX11_walker yX11_walker ∈ lw_tbl := in_t5 115 rfl
theorem yy_X11_listens : zY yX11_listens cX11_listens 6 (some .int) 1 := ⟨in_t5 121 rfl, in_t1 7 rfl, ⟨by decide +kernel, by decide +kernel⟩, by decide +kernel⟩
theorem im_X11_listens : Cond.instanceMethod yX11_listens ∈ lw_tbl := in_t5 120 rfl
theorem se_X11_listens : Cond.selects yX11_listens.cls yX11_listens yX11_listens ∈ lw_tbl := in_s 45 rfl
theorem yy_X11_today : zY yX11_today cX11_today 5 (some .int) 1 := ⟨in_t5 125 rfl, in_t1 7 rfl, ⟨by decide +kernel, by decide +kernel⟩, by decide +kernel⟩
theorem im_X11_today : Cond.instanceMethod yX11_today ∈ lw_tbl := in_t5 123 rfl
theorem se_X11_today : Cond.selects yX11_today.cls yX11_today yX11_today ∈ lw_tbl := in_t5 124 rfl
theorem yy_X11_go : zY yX11_go cX11_go 4 (some .int) 2 := ⟨in_t5 129 rfl, in_t1 7 rfl, ⟨by decide +kernel, by decide +kernel⟩, by decide +kernel⟩
theorem im_X11_go : Cond.instanceMethod yX11_go ∈ lw_tbl := in_t5 127 rfl
theorem se_X11_go : Cond.selects yX11_go.cls yX11_go yX11_go ∈ lw_tbl := in_t5 128 rfl
theorem yy_X11_isWalker : zY yX11_isWalker cX11_isWalker 2 (some .boolean) 1 := ⟨in_t5 133 rfl, in_t1 7 rfl, ⟨by decide +kernel, by decide +kernel⟩, by decide +kernel⟩
theorem im_X11_isWalker : Cond.instanceMethod yX11_isWalker ∈ lw_tbl := in_t5 132 rfl
theorem se_X11_isWalker : Cond.selects yX11_isWalker.cls yX11_isWalker yX11_isWalker ∈ lw_tbl := in_s 46 rfl
theorem yy_X11_isDone : zY yX11_isDone cX11_isDone 2 (some .boolean) 1 := ⟨in_t5 137 rfl, in_t1 7 rfl, ⟨by decide +kernel, by decide +kernel⟩, by decide +kernel⟩
theorem im_X11_isDone : Cond.instanceMethod yX11_isDone ∈ lw_tbl := in_t5 136 rfl
theorem se_X11_isDone : Cond.selects yX11_isDone.cls yX11_isDone yX11_isDone ∈ lw_tbl := in_s 47 rfl
theorem yy_X11_comes : zY yX11_comes cX11_comes 3 (some .int) 2 := ⟨in_t5 141 rfl, in_t1 7 rfl, ⟨by decide +kernel, by decide +kernel⟩, by decide +kernel⟩
theorem im_X11_comes : Cond.instanceMethod yX11_comes ∈ lw_tbl := in_t5 140 rfl
theorem se_X11_comes : Cond.selects yX11_comes.cls yX11_comes yX11_comes ∈ lw_tbl := in_s 48 rfl
theorem yy_X11_about : zY yX11_about cX11_about 3 (some .int) 2 := ⟨in_t5 145 rfl, in_t1 7 rfl, ⟨by decide +kernel, by decide +kernel⟩, by decide +kernel⟩
theorem im_X11_about : Cond.instanceMethod yX11_about ∈ lw_tbl := in_t5 143 rfl
theorem se_X11_about : Cond.selects yX11_about.cls yX11_about yX11_about ∈ lw_tbl := in_t5 144 rfl
theorem yy_X11_offer : zY yX11_offer cX11_offer 9 (some .int) 1 := ⟨in_t5 149 rfl, in_t1 7 rfl, ⟨by decide +kernel, by decide +kernel⟩, by decide +kernel⟩
theorem im_X11_offer : Cond.instanceMethod yX11_offer ∈ lw_tbl := in_t5 147 rfl
theorem se_X11_offer : Cond.selects yX11_offer.cls yX11_offer yX11_offer ∈ lw_tbl := in_t5 148 rfl
theorem yy_X11_wayTo : zY yX11_wayTo cX11_wayTo 6 (some .int) 2 := ⟨in_t5 153 rfl, in_t1 7 rfl, ⟨by decide +kernel, by decide +kernel⟩, by decide +kernel⟩
theorem im_X11_wayTo : Cond.instanceMethod yX11_wayTo ∈ lw_tbl := in_t5 152 rfl
theorem se_X11_wayTo : Cond.selects yX11_wayTo.cls yX11_wayTo yX11_wayTo ∈ lw_tbl := in_s 49 rfl
theorem yy_X11_othersAt : zY yX11_othersAt cX11_othersAt 5 (some .int) 2 := ⟨in_t5 157 rfl, in_t1 7 rfl, ⟨by decide +kernel, by decide +kernel⟩, by decide +kernel⟩
theorem im_X11_othersAt : Cond.instanceMethod yX11_othersAt ∈ lw_tbl := in_t5 156 rfl
theorem se_X11_othersAt : Cond.selects yX11_othersAt.cls yX11_othersAt yX11_othersAt ∈ lw_tbl := in_s 50 rfl
theorem yy_X11_rest : zY yX11_rest cX11_rest 3 (some .int) 1 := ⟨in_t5 161 rfl, in_t1 7 rfl, ⟨by decide +kernel, by decide +kernel⟩, by decide +kernel⟩
theorem im_X11_rest : Cond.instanceMethod yX11_rest ∈ lw_tbl := in_t5 159 rfl
theorem se_X11_rest : Cond.selects yX11_rest.cls yX11_rest yX11_rest ∈ lw_tbl := in_t5 160 rfl
theorem yy_X11_lost : zY yX11_lost cX11_lost 2 (some .int) 1 := ⟨in_t5 165 rfl, in_t1 7 rfl, ⟨by decide +kernel, by decide +kernel⟩, by decide +kernel⟩
theorem im_X11_lost : Cond.instanceMethod yX11_lost ∈ lw_tbl := in_t5 163 rfl
theorem se_X11_lost : Cond.selects yX11_lost.cls yX11_lost yX11_lost ∈ lw_tbl := in_t5 164 rfl
theorem yy_X11_seen : zY yX11_seen cX11_seen 5 (some .int) 4 := ⟨in_t5 169 rfl, in_t1 7 rfl, ⟨by decide +kernel, by decide +kernel⟩, by decide +kernel⟩
theorem im_X11_seen : Cond.instanceMethod yX11_seen ∈ lw_tbl := in_t5 167 rfl
theorem se_X11_seen : Cond.selects yX11_seen.cls yX11_seen yX11_seen ∈ lw_tbl := in_t5 168 rfl
theorem yy_X11_reads : zY yX11_reads cX11_reads 8 none 4 := ⟨in_t5 173 rfl, in_t1 7 rfl, ⟨by decide +kernel, by decide +kernel⟩, by decide +kernel⟩
theorem im_X11_reads : Cond.instanceMethod yX11_reads ∈ lw_tbl := in_t5 172 rfl
theorem se_X11_reads : Cond.selects yX11_reads.cls yX11_reads yX11_reads ∈ lw_tbl := in_s 51 rfl
theorem yy_X11_isPossible : zY yX11_isPossible cX11_isPossible 5 (some .boolean) 4 := ⟨in_t5 177 rfl, in_t1 7 rfl, ⟨by decide +kernel, by decide +kernel⟩, by decide +kernel⟩
theorem im_X11_isPossible : Cond.instanceMethod yX11_isPossible ∈ lw_tbl := in_t5 176 rfl
theorem se_X11_isPossible : Cond.selects yX11_isPossible.cls yX11_isPossible yX11_isPossible ∈ lw_tbl := in_s 52 rfl
theorem yy_J9_abs_067f4 : zY yJ9_abs_067f4 cJ9_abs_067f4 2 (some .long) 1 := ⟨in_t5 180 rfl, in_t1 10 rfl, ⟨by decide +kernel, by decide +kernel⟩, by decide +kernel⟩
theorem st_J9_abs_067f4 : Cond.static yJ9_abs_067f4 ∈ lw_tbl := in_t5 179 rfl
theorem yy_X11_sheet : zY yX11_sheet cX11_sheet 5 (some .int) 3 := ⟨in_t5 184 rfl, in_t1 7 rfl, ⟨by decide +kernel, by decide +kernel⟩, by decide +kernel⟩
theorem im_X11_sheet : Cond.instanceMethod yX11_sheet ∈ lw_tbl := in_t5 182 rfl
theorem se_X11_sheet : Cond.selects yX11_sheet.cls yX11_sheet yX11_sheet ∈ lw_tbl := in_t5 183 rfl
theorem yy_X11_isSheet : zY yX11_isSheet cX11_isSheet 1 (some .boolean) 1 := ⟨in_t5 187 rfl, in_t1 7 rfl, ⟨by decide +kernel, by decide +kernel⟩, by decide +kernel⟩
theorem st_X11_isSheet : Cond.static yX11_isSheet ∈ lw_tbl := in_t5 186 rfl
theorem yy_X11_write : zY yX11_write cX11_write 6 (some .int) 3 := ⟨in_t5 192 rfl, in_t1 7 rfl, ⟨by decide +kernel, by decide +kernel⟩, by decide +kernel⟩
theorem im_X11_write : Cond.instanceMethod yX11_write ∈ lw_tbl := in_t5 190 rfl
theorem se_X11_write : Cond.selects yX11_write.cls yX11_write yX11_write ∈ lw_tbl := in_t5 191 rfl
theorem yy_X11_copy : zY yX11_copy cX11_copy 7 (some .int) 5 := ⟨in_t5 197 rfl, in_t1 7 rfl, ⟨by decide +kernel, by decide +kernel⟩, by decide +kernel⟩
theorem im_X11_copy : Cond.instanceMethod yX11_copy ∈ lw_tbl := in_t5 195 rfl
theorem se_X11_copy : Cond.selects yX11_copy.cls yX11_copy yX11_copy ∈ lw_tbl := in_t5 196 rfl
theorem yy_X11_trace : zY yX11_trace cX11_trace 5 (some .int) 2 := ⟨in_t5 201 rfl, in_t1 7 rfl, ⟨by decide +kernel, by decide +kernel⟩, by decide +kernel⟩
theorem im_X11_trace : Cond.instanceMethod yX11_trace ∈ lw_tbl := in_t5 199 rfl
theorem se_X11_trace : Cond.selects yX11_trace.cls yX11_trace yX11_trace ∈ lw_tbl := in_t5 200 rfl
theorem yy_X11_told : zY yX11_told cX11_told 2 (some .int) 1 := ⟨in_t5 205 rfl, in_t1 7 rfl, ⟨by decide +kernel, by decide +kernel⟩, by decide +kernel⟩
theorem im_X11_told : Cond.instanceMethod yX11_told ∈ lw_tbl := in_t5 203 rfl
theorem se_X11_told : Cond.selects yX11_told.cls yX11_told yX11_told ∈ lw_tbl := in_t5 204 rfl
theorem it_0 : Cond.instantiable RX0 (zn 0) ∈ lw_tbl := in_t1 101 rfl
theorem ii_0 : Cond.initialized RX0 ∈ lw_tbl := in_t1 6 rfl
theorem it_1 : Cond.instantiable RX1 (zn 1) ∈ lw_tbl := in_t1 87 rfl
theorem ii_1 : Cond.initialized RX1 ∈ lw_tbl := in_t1 5 rfl
theorem it_2 : Cond.instantiable RX2 (zn 2) ∈ lw_tbl := in_t2 173 rfl
theorem ii_2 : Cond.initialized RX2 ∈ lw_tbl := in_t1 16 rfl
theorem it_3 : Cond.instantiable RX3 (zn 3) ∈ lw_tbl := in_t2 75 rfl
theorem ii_3 : Cond.initialized RX3 ∈ lw_tbl := in_t1 11 rfl
theorem it_4 : Cond.instantiable RX4 (zn 4) ∈ lw_tbl := in_t1 81 rfl
theorem ii_4 : Cond.initialized RX4 ∈ lw_tbl := in_t1 4 rfl
theorem it_5 : Cond.instantiable RX5 (zn 5) ∈ lw_tbl := in_t4 19 rfl
theorem ii_5 : Cond.initialized RX5 ∈ lw_tbl := in_t1 19 rfl
theorem it_6 : Cond.instantiable RX6 (zn 6) ∈ lw_tbl := in_t1 59 rfl
theorem ii_6 : Cond.initialized RX6 ∈ lw_tbl := in_t1 3 rfl
theorem it_7 : Cond.instantiable RX7 (zn 7) ∈ lw_tbl := in_t1 30 rfl
theorem ii_7 : Cond.initialized RX7 ∈ lw_tbl := in_t1 2 rfl
theorem it_8 : Cond.instantiable RX8 (zn 8) ∈ lw_tbl := in_t3 99 rfl
theorem ii_8 : Cond.initialized RX8 ∈ lw_tbl := in_t1 18 rfl
theorem it_9 : Cond.instantiable RX9 (zn 9) ∈ lw_tbl := in_t1 202 rfl
theorem ii_9 : Cond.initialized RX9 ∈ lw_tbl := in_t1 8 rfl
theorem it_10 : Cond.instantiable RX10 (zn 10) ∈ lw_tbl := in_t1 22 rfl
theorem ii_10 : Cond.initialized RX10 ∈ lw_tbl := in_t1 1 rfl
theorem it_11 : Cond.instantiable RX11 (zn 11) ∈ lw_tbl := in_t4 65 rfl
theorem ii_11 : Cond.initialized RX11 ∈ lw_tbl := in_t1 7 rfl
theorem ac_int : Cond.arrayClass .int ∈ lw_tbl := in_t1 57 rfl
theorem ac_boolean : Cond.arrayClass .boolean ∈ lw_tbl := in_t4 204 rfl
theorem ac_byte : Cond.arrayClass .byte ∈ lw_tbl := in_t1 73 rfl
theorem ao_0 : Cond.arrayOver (.object RX0) ∈ lw_tbl := in_t1 75 rfl
theorem ti_0 : zti 0 3 RX0 := fun _ => rfl
theorem ao_2 : Cond.arrayOver (.object RX2) ∈ lw_tbl := in_t1 107 rfl
theorem ti_2 : zti 2 4 RX2 := fun _ => rfl
theorem ao_5 : Cond.arrayOver (.object RX5) ∈ lw_tbl := in_t1 79 rfl
theorem ti_5 : zti 5 5 RX5 := fun _ => rfl
theorem ao_8 : Cond.arrayOver (.object RX8) ∈ lw_tbl := in_t1 77 rfl
theorem ti_8 : zti 8 6 RX8 := fun _ => rfl
theorem ao_9 : Cond.arrayOver (.object RX9) ∈ lw_tbl := in_t1 36 rfl
theorem ti_9 : zti 9 7 RX9 := fun _ => rfl
theorem im_obj : Cond.instanceMethod objectInit ∈ lw_tbl := in_t1 27 rfl
theorem cd_obj : Cond.code objectInit ⟨#[0xb1]⟩ 1 none ∈ lw_tbl := in_t1 28 rfl
theorem st_min : Cond.static Lib.Math.min.name ∈ lw_tbl := in_t2 39 rfl
theorem cd_min : Cond.code Lib.Math.min.name Lib.Math.min.code 2 (some .int) ∈ lw_tbl := in_t2 40 rfl
theorem st_max : Cond.static Lib.Math.max.name ∈ lw_tbl := in_t4 25 rfl
theorem cd_max : Cond.code Lib.Math.max.name Lib.Math.max.code 2 (some .int) ∈ lw_tbl := in_t4 26 rfl
theorem ii_math : Cond.initialized "java/lang/Math" ∈ lw_tbl := in_t1 10 rfl
