/-! ===== the words by their places (printed by my program gen/links.py) ===== -/
theorem inGps {ws : List Cond} (ps : List Nat) (hp : ws = ps.filterMap (fun i => tables_1[i]?)) (hg : ws.all goodWord = true) : ∀ w ∈ ws, w ∈ Gw := by
  intro w hw
  have h1 := List.all_eq_true.mp hg w hw
  rw [hp] at hw
  obtain ⟨i, -, hi⟩ := List.mem_filterMap.mp hw
  exact inG i hi h1
theorem inX0 : ∀ w ∈ u_ws RX0 TX0 4, w ∈ Gw := inGps [262, 264, 266, 268] (by decide +kernel) (by decide +kernel)
theorem inX1 : ∀ w ∈ u_ws RX1 TX1 8, w ∈ Gw := inGps [182, 184, 186, 188, 190, 192, 194, 196] (by decide +kernel) (by decide +kernel)
theorem inX2 : ∀ w ∈ u_ws RX2 TX2 3, w ∈ Gw := inGps [96, 98, 100] (by decide +kernel) (by decide +kernel)
theorem inX3 : ∀ w ∈ u_ws RX3 TX3 11, w ∈ Gw := inGps [228, 230, 232, 234, 236, 238, 240, 242, 244, 246, 248] (by decide +kernel) (by decide +kernel)
theorem inX4 : ∀ w ∈ u_ws RX4 TX4 13, w ∈ Gw := inGps [141, 143, 145, 147, 149, 151, 153, 155, 157, 159, 161, 163, 165] (by decide +kernel) (by decide +kernel)
theorem inX5 : ∀ w ∈ u_ws RX5 TX5 4, w ∈ Gw := inGps [78, 80, 82, 84] (by decide +kernel) (by decide +kernel)
theorem inX6 : ∀ w ∈ u_ws RX6 TX6 8, w ∈ Gw := inGps [49, 51, 53, 55, 57, 59, 61, 63] (by decide +kernel) (by decide +kernel)
theorem inX7 : ∀ w ∈ u_ws RX7 TX7 10, w ∈ Gw := inGps [294, 296, 298, 300, 302, 304, 306, 308, 310, 312] (by decide +kernel) (by decide +kernel)
theorem inX8 : ∀ w ∈ u_ws RX8 TX8 20, w ∈ Gw := inGps [335, 337, 339, 341, 343, 345, 347, 349, 351, 353, 355, 357, 359, 361, 363, 365, 367, 369, 371, 373] (by decide +kernel) (by decide +kernel)
theorem inX9 : ∀ w ∈ u_ws RX9 TX9 58, w ∈ Gw := inGps [1346, 1348, 1350, 1352, 1354, 1356, 1358, 1360, 1362, 1364, 1366, 1368, 1370, 1372, 1374, 1376, 1378, 1380, 1382, 1384, 1386, 1388, 1390, 1392, 1394, 1396, 1398, 1400, 1402, 1404, 1406, 1408, 1410, 1412, 1414, 1416, 1418, 1420, 1422, 1424, 1426, 1428, 1430, 1432, 1434, 1436, 1438, 1440, 1442, 1444, 1446, 1448, 1450, 1452, 1454, 1456, 1458, 1460] (by decide +kernel) (by decide +kernel)
theorem fl_X6_9 : FL RX6 9 6 0 := ⟨RX6, TX6, 8, rfl, by decide, inX6, inG 37 (by decide +kernel) rfl⟩
theorem fp_X6_9 : FP RX6 9 6 0 .int := ⟨RX6, TX6, 8, tyX6, rfl, by decide, inX6, inG 37 (by decide +kernel) rfl, rfl, by decide +kernel, tyX6_ok, nmX6⟩
theorem fl_X8_136 : FL RX8 136 6 0 := ⟨RX6, TX6, 8, rfl, by decide, inX6, inG 38 (by decide +kernel) rfl⟩
theorem fp_X8_136 : FP RX8 136 6 0 .int := ⟨RX6, TX6, 8, tyX6, rfl, by decide, inX6, inG 38 (by decide +kernel) rfl, rfl, by decide +kernel, tyX6_ok, nmX6⟩
theorem fl_X6_15 : FL RX6 15 6 1 := ⟨RX6, TX6, 8, rfl, by decide, inX6, inG 39 (by decide +kernel) rfl⟩
theorem fp_X6_15 : FP RX6 15 6 1 .int := ⟨RX6, TX6, 8, tyX6, rfl, by decide, inX6, inG 39 (by decide +kernel) rfl, rfl, by decide +kernel, tyX6_ok, nmX6⟩
theorem fl_X8_133 : FL RX8 133 6 1 := ⟨RX6, TX6, 8, rfl, by decide, inX6, inG 40 (by decide +kernel) rfl⟩
theorem fp_X8_133 : FP RX8 133 6 1 .int := ⟨RX6, TX6, 8, tyX6, rfl, by decide, inX6, inG 40 (by decide +kernel) rfl, rfl, by decide +kernel, tyX6_ok, nmX6⟩
theorem fl_X6_18 : FL RX6 18 6 2 := ⟨RX6, TX6, 8, rfl, by decide, inX6, inG 41 (by decide +kernel) rfl⟩
theorem fp_X6_18 : FP RX6 18 6 2 .int := ⟨RX6, TX6, 8, tyX6, rfl, by decide, inX6, inG 41 (by decide +kernel) rfl, rfl, by decide +kernel, tyX6_ok, nmX6⟩
theorem fl_X5_93 : FL RX5 93 6 2 := ⟨RX6, TX6, 8, rfl, by decide, inX6, inG 42 (by decide +kernel) rfl⟩
theorem fp_X5_93 : FP RX5 93 6 2 .int := ⟨RX6, TX6, 8, tyX6, rfl, by decide, inX6, inG 42 (by decide +kernel) rfl, rfl, by decide +kernel, tyX6_ok, nmX6⟩
theorem fl_X2_118 : FL RX2 118 6 2 := ⟨RX6, TX6, 8, rfl, by decide, inX6, inG 43 (by decide +kernel) rfl⟩
theorem fp_X2_118 : FP RX2 118 6 2 .int := ⟨RX6, TX6, 8, tyX6, rfl, by decide, inX6, inG 43 (by decide +kernel) rfl, rfl, by decide +kernel, tyX6_ok, nmX6⟩
theorem fl_X6_21 : FL RX6 21 6 3 := ⟨RX6, TX6, 8, rfl, by decide, inX6, inG 44 (by decide +kernel) rfl⟩
theorem fp_X6_21 : FP RX6 21 6 3 (.array .byte) := ⟨RX6, TX6, 8, tyX6, rfl, by decide, inX6, inG 44 (by decide +kernel) rfl, rfl, by decide +kernel, tyX6_ok, nmX6⟩
theorem fl_X6_25 : FL RX6 25 6 4 := ⟨RX6, TX6, 8, rfl, by decide, inX6, inG 45 (by decide +kernel) rfl⟩
theorem fp_X6_25 : FP RX6 25 6 4 .int := ⟨RX6, TX6, 8, tyX6, rfl, by decide, inX6, inG 45 (by decide +kernel) rfl, rfl, by decide +kernel, tyX6_ok, nmX6⟩
theorem fl_X6_28 : FL RX6 28 6 5 := ⟨RX6, TX6, 8, rfl, by decide, inX6, inG 46 (by decide +kernel) rfl⟩
theorem fp_X6_28 : FP RX6 28 6 5 .int := ⟨RX6, TX6, 8, tyX6, rfl, by decide, inX6, inG 46 (by decide +kernel) rfl, rfl, by decide +kernel, tyX6_ok, nmX6⟩
theorem fl_X6_31 : FL RX6 31 6 6 := ⟨RX6, TX6, 8, rfl, by decide, inX6, inG 47 (by decide +kernel) rfl⟩
theorem fp_X6_31 : FP RX6 31 6 6 .int := ⟨RX6, TX6, 8, tyX6, rfl, by decide, inX6, inG 47 (by decide +kernel) rfl, rfl, by decide +kernel, tyX6_ok, nmX6⟩
theorem fl_X6_34 : FL RX6 34 6 7 := ⟨RX6, TX6, 8, rfl, by decide, inX6, inG 48 (by decide +kernel) rfl⟩
theorem fp_X6_34 : FP RX6 34 6 7 .int := ⟨RX6, TX6, 8, tyX6, rfl, by decide, inX6, inG 48 (by decide +kernel) rfl, rfl, by decide +kernel, tyX6_ok, nmX6⟩
theorem fl_X5_9 : FL RX5 9 5 0 := ⟨RX5, TX5, 4, rfl, by decide, inX5, inG 74 (by decide +kernel) rfl⟩
theorem fp_X5_9 : FP RX5 9 5 0 (.object "LyingDials$Scan") := ⟨RX5, TX5, 4, tyX5, rfl, by decide, inX5, inG 74 (by decide +kernel) rfl, rfl, by decide +kernel, tyX5_ok, nmX5⟩
theorem fl_X5_15 : FL RX5 15 5 1 := ⟨RX5, TX5, 4, rfl, by decide, inX5, inG 75 (by decide +kernel) rfl⟩
theorem fp_X5_15 : FP RX5 15 5 1 (.object "LyingDials$Port") := ⟨RX5, TX5, 4, tyX5, rfl, by decide, inX5, inG 75 (by decide +kernel) rfl, rfl, by decide +kernel, tyX5_ok, nmX5⟩
theorem fl_X5_19 : FL RX5 19 5 2 := ⟨RX5, TX5, 4, rfl, by decide, inX5, inG 76 (by decide +kernel) rfl⟩
theorem fp_X5_19 : FP RX5 19 5 2 .boolean := ⟨RX5, TX5, 4, tyX5, rfl, by decide, inX5, inG 76 (by decide +kernel) rfl, rfl, by decide +kernel, tyX5_ok, nmX5⟩
theorem fl_X5_23 : FL RX5 23 5 3 := ⟨RX5, TX5, 4, rfl, by decide, inX5, inG 77 (by decide +kernel) rfl⟩
theorem fp_X5_23 : FP RX5 23 5 3 .boolean := ⟨RX5, TX5, 4, tyX5, rfl, by decide, inX5, inG 77 (by decide +kernel) rfl, rfl, by decide +kernel, tyX5_ok, nmX5⟩
theorem fl_X2_9 : FL RX2 9 2 0 := ⟨RX2, TX2, 3, rfl, by decide, inX2, inG 93 (by decide +kernel) rfl⟩
theorem fp_X2_9 : FP RX2 9 2 0 (.object "LyingDials$Scan") := ⟨RX2, TX2, 3, tyX2, rfl, by decide, inX2, inG 93 (by decide +kernel) rfl, rfl, by decide +kernel, tyX2_ok, nmX2⟩
theorem fl_X2_15 : FL RX2 15 2 1 := ⟨RX2, TX2, 3, rfl, by decide, inX2, inG 94 (by decide +kernel) rfl⟩
theorem fp_X2_15 : FP RX2 15 2 1 (.object "LyingDials$Law") := ⟨RX2, TX2, 3, tyX2, rfl, by decide, inX2, inG 94 (by decide +kernel) rfl, rfl, by decide +kernel, tyX2_ok, nmX2⟩
theorem fl_X2_19 : FL RX2 19 2 2 := ⟨RX2, TX2, 3, rfl, by decide, inX2, inG 95 (by decide +kernel) rfl⟩
theorem fp_X2_19 : FP RX2 19 2 2 .int := ⟨RX2, TX2, 3, tyX2, rfl, by decide, inX2, inG 95 (by decide +kernel) rfl, rfl, by decide +kernel, tyX2_ok, nmX2⟩
theorem fl_X4_11 : FL RX4 11 4 0 := ⟨RX4, TX4, 13, rfl, by decide, inX4, inG 109 (by decide +kernel) rfl⟩
theorem fp_X4_11 : FP RX4 11 4 0 .int := ⟨RX4, TX4, 13, tyX4, rfl, by decide, inX4, inG 109 (by decide +kernel) rfl, rfl, by decide +kernel, tyX4_ok, nmX4⟩
theorem fl_X5_72 : FL RX5 72 4 0 := ⟨RX4, TX4, 13, rfl, by decide, inX4, inG 110 (by decide +kernel) rfl⟩
theorem fp_X5_72 : FP RX5 72 4 0 .int := ⟨RX4, TX4, 13, tyX4, rfl, by decide, inX4, inG 110 (by decide +kernel) rfl, rfl, by decide +kernel, tyX4_ok, nmX4⟩
theorem fl_X8_127 : FL RX8 127 4 0 := ⟨RX4, TX4, 13, rfl, by decide, inX4, inG 111 (by decide +kernel) rfl⟩
theorem fp_X8_127 : FP RX8 127 4 0 .int := ⟨RX4, TX4, 13, tyX4, rfl, by decide, inX4, inG 111 (by decide +kernel) rfl, rfl, by decide +kernel, tyX4_ok, nmX4⟩
theorem fl_X4_17 : FL RX4 17 4 1 := ⟨RX4, TX4, 13, rfl, by decide, inX4, inG 112 (by decide +kernel) rfl⟩
theorem fp_X4_17 : FP RX4 17 4 1 .int := ⟨RX4, TX4, 13, tyX4, rfl, by decide, inX4, inG 112 (by decide +kernel) rfl, rfl, by decide +kernel, tyX4_ok, nmX4⟩
theorem fl_X5_127 : FL RX5 127 4 1 := ⟨RX4, TX4, 13, rfl, by decide, inX4, inG 113 (by decide +kernel) rfl⟩
theorem fp_X5_127 : FP RX5 127 4 1 .int := ⟨RX4, TX4, 13, tyX4, rfl, by decide, inX4, inG 113 (by decide +kernel) rfl, rfl, by decide +kernel, tyX4_ok, nmX4⟩
theorem fl_X8_187 : FL RX8 187 4 1 := ⟨RX4, TX4, 13, rfl, by decide, inX4, inG 114 (by decide +kernel) rfl⟩
theorem fp_X8_187 : FP RX8 187 4 1 .int := ⟨RX4, TX4, 13, tyX4, rfl, by decide, inX4, inG 114 (by decide +kernel) rfl, rfl, by decide +kernel, tyX4_ok, nmX4⟩
theorem fl_X4_20 : FL RX4 20 4 2 := ⟨RX4, TX4, 13, rfl, by decide, inX4, inG 115 (by decide +kernel) rfl⟩
theorem fp_X4_20 : FP RX4 20 4 2 .int := ⟨RX4, TX4, 13, tyX4, rfl, by decide, inX4, inG 115 (by decide +kernel) rfl, rfl, by decide +kernel, tyX4_ok, nmX4⟩
theorem fl_X5_129 : FL RX5 129 4 2 := ⟨RX4, TX4, 13, rfl, by decide, inX4, inG 116 (by decide +kernel) rfl⟩
theorem fp_X5_129 : FP RX5 129 4 2 .int := ⟨RX4, TX4, 13, tyX4, rfl, by decide, inX4, inG 116 (by decide +kernel) rfl, rfl, by decide +kernel, tyX4_ok, nmX4⟩
theorem fl_X8_190 : FL RX8 190 4 2 := ⟨RX4, TX4, 13, rfl, by decide, inX4, inG 117 (by decide +kernel) rfl⟩
theorem fp_X8_190 : FP RX8 190 4 2 .int := ⟨RX4, TX4, 13, tyX4, rfl, by decide, inX4, inG 117 (by decide +kernel) rfl, rfl, by decide +kernel, tyX4_ok, nmX4⟩
theorem fl_X4_23 : FL RX4 23 4 3 := ⟨RX4, TX4, 13, rfl, by decide, inX4, inG 118 (by decide +kernel) rfl⟩
theorem fl_X5_83 : FL RX5 83 4 3 := ⟨RX4, TX4, 13, rfl, by decide, inX4, inG 119 (by decide +kernel) rfl⟩
theorem fl_X0_83 : FL RX0 83 4 3 := ⟨RX4, TX4, 13, rfl, by decide, inX4, inG 120 (by decide +kernel) rfl⟩
theorem fl_X8_212 : FL RX8 212 4 3 := ⟨RX4, TX4, 13, rfl, by decide, inX4, inG 121 (by decide +kernel) rfl⟩
theorem fl_X4_27 : FL RX4 27 4 4 := ⟨RX4, TX4, 13, rfl, by decide, inX4, inG 122 (by decide +kernel) rfl⟩
theorem fl_X5_90 : FL RX5 90 4 4 := ⟨RX4, TX4, 13, rfl, by decide, inX4, inG 123 (by decide +kernel) rfl⟩
theorem fl_X8_215 : FL RX8 215 4 4 := ⟨RX4, TX4, 13, rfl, by decide, inX4, inG 124 (by decide +kernel) rfl⟩
theorem fl_X4_30 : FL RX4 30 4 5 := ⟨RX4, TX4, 13, rfl, by decide, inX4, inG 125 (by decide +kernel) rfl⟩
theorem fl_X5_96 : FL RX5 96 4 5 := ⟨RX4, TX4, 13, rfl, by decide, inX4, inG 126 (by decide +kernel) rfl⟩
theorem fl_X8_218 : FL RX8 218 4 5 := ⟨RX4, TX4, 13, rfl, by decide, inX4, inG 127 (by decide +kernel) rfl⟩
theorem fl_X4_33 : FL RX4 33 4 6 := ⟨RX4, TX4, 13, rfl, by decide, inX4, inG 128 (by decide +kernel) rfl⟩
theorem fl_X5_99 : FL RX5 99 4 6 := ⟨RX4, TX4, 13, rfl, by decide, inX4, inG 129 (by decide +kernel) rfl⟩
theorem fl_X8_221 : FL RX8 221 4 6 := ⟨RX4, TX4, 13, rfl, by decide, inX4, inG 130 (by decide +kernel) rfl⟩
theorem fl_X4_36 : FL RX4 36 4 7 := ⟨RX4, TX4, 13, rfl, by decide, inX4, inG 131 (by decide +kernel) rfl⟩
theorem fl_X5_105 : FL RX5 105 4 7 := ⟨RX4, TX4, 13, rfl, by decide, inX4, inG 132 (by decide +kernel) rfl⟩
theorem fl_X8_224 : FL RX8 224 4 7 := ⟨RX4, TX4, 13, rfl, by decide, inX4, inG 133 (by decide +kernel) rfl⟩
theorem fl_X4_39 : FL RX4 39 4 8 := ⟨RX4, TX4, 13, rfl, by decide, inX4, inG 134 (by decide +kernel) rfl⟩
theorem fl_X5_125 : FL RX5 125 4 8 := ⟨RX4, TX4, 13, rfl, by decide, inX4, inG 135 (by decide +kernel) rfl⟩
theorem fl_X8_184 : FL RX8 184 4 8 := ⟨RX4, TX4, 13, rfl, by decide, inX4, inG 136 (by decide +kernel) rfl⟩
theorem fl_X4_42 : FL RX4 42 4 9 := ⟨RX4, TX4, 13, rfl, by decide, inX4, inG 137 (by decide +kernel) rfl⟩
theorem fl_X4_45 : FL RX4 45 4 10 := ⟨RX4, TX4, 13, rfl, by decide, inX4, inG 138 (by decide +kernel) rfl⟩
theorem fl_X4_48 : FL RX4 48 4 11 := ⟨RX4, TX4, 13, rfl, by decide, inX4, inG 139 (by decide +kernel) rfl⟩
theorem fl_X4_51 : FL RX4 51 4 12 := ⟨RX4, TX4, 13, rfl, by decide, inX4, inG 140 (by decide +kernel) rfl⟩
theorem fl_X1_9 : FL RX1 9 1 0 := ⟨RX1, TX1, 8, rfl, by decide, inX1, inG 174 (by decide +kernel) rfl⟩
theorem fp_X1_9 : FP RX1 9 1 0 .int := ⟨RX1, TX1, 8, tyX1, rfl, by decide, inX1, inG 174 (by decide +kernel) rfl, rfl, by decide +kernel, tyX1_ok, nmX1⟩
theorem fl_X1_15 : FL RX1 15 1 1 := ⟨RX1, TX1, 8, rfl, by decide, inX1, inG 175 (by decide +kernel) rfl⟩
theorem fl_X1_19 : FL RX1 19 1 2 := ⟨RX1, TX1, 8, rfl, by decide, inX1, inG 176 (by decide +kernel) rfl⟩
theorem fl_X1_22 : FL RX1 22 1 3 := ⟨RX1, TX1, 8, rfl, by decide, inX1, inG 177 (by decide +kernel) rfl⟩
theorem fl_X1_25 : FL RX1 25 1 4 := ⟨RX1, TX1, 8, rfl, by decide, inX1, inG 178 (by decide +kernel) rfl⟩
theorem fl_X1_28 : FL RX1 28 1 5 := ⟨RX1, TX1, 8, rfl, by decide, inX1, inG 179 (by decide +kernel) rfl⟩
theorem fl_X1_31 : FL RX1 31 1 6 := ⟨RX1, TX1, 8, rfl, by decide, inX1, inG 180 (by decide +kernel) rfl⟩
theorem fp_X1_31 : FP RX1 31 1 6 (.array .int) := ⟨RX1, TX1, 8, tyX1, rfl, by decide, inX1, inG 180 (by decide +kernel) rfl, rfl, by decide +kernel, tyX1_ok, nmX1⟩
theorem fl_X1_34 : FL RX1 34 1 7 := ⟨RX1, TX1, 8, rfl, by decide, inX1, inG 181 (by decide +kernel) rfl⟩
theorem fp_X1_34 : FP RX1 34 1 7 .int := ⟨RX1, TX1, 8, tyX1, rfl, by decide, inX1, inG 181 (by decide +kernel) rfl, rfl, by decide +kernel, tyX1_ok, nmX1⟩
theorem fl_X3_9 : FL RX3 9 3 0 := ⟨RX3, TX3, 11, rfl, by decide, inX3, inG 208 (by decide +kernel) rfl⟩
theorem fp_X3_9 : FP RX3 9 3 0 .int := ⟨RX3, TX3, 11, tyX3, rfl, by decide, inX3, inG 208 (by decide +kernel) rfl, rfl, by decide +kernel, tyX3_ok, nmX3⟩
theorem fl_X0_65 : FL RX0 65 3 0 := ⟨RX3, TX3, 11, rfl, by decide, inX3, inG 209 (by decide +kernel) rfl⟩
theorem fp_X0_65 : FP RX0 65 3 0 .int := ⟨RX3, TX3, 11, tyX3, rfl, by decide, inX3, inG 209 (by decide +kernel) rfl, rfl, by decide +kernel, tyX3_ok, nmX3⟩
theorem fl_X8_193 : FL RX8 193 3 0 := ⟨RX3, TX3, 11, rfl, by decide, inX3, inG 210 (by decide +kernel) rfl⟩
theorem fp_X8_193 : FP RX8 193 3 0 .int := ⟨RX3, TX3, 11, tyX3, rfl, by decide, inX3, inG 210 (by decide +kernel) rfl, rfl, by decide +kernel, tyX3_ok, nmX3⟩
theorem fl_X3_15 : FL RX3 15 3 1 := ⟨RX3, TX3, 11, rfl, by decide, inX3, inG 211 (by decide +kernel) rfl⟩
theorem fp_X3_15 : FP RX3 15 3 1 .int := ⟨RX3, TX3, 11, tyX3, rfl, by decide, inX3, inG 211 (by decide +kernel) rfl, rfl, by decide +kernel, tyX3_ok, nmX3⟩
theorem fl_X8_196 : FL RX8 196 3 1 := ⟨RX3, TX3, 11, rfl, by decide, inX3, inG 212 (by decide +kernel) rfl⟩
theorem fp_X8_196 : FP RX8 196 3 1 .int := ⟨RX3, TX3, 11, tyX3, rfl, by decide, inX3, inG 212 (by decide +kernel) rfl, rfl, by decide +kernel, tyX3_ok, nmX3⟩
theorem fl_X3_18 : FL RX3 18 3 2 := ⟨RX3, TX3, 11, rfl, by decide, inX3, inG 213 (by decide +kernel) rfl⟩
theorem fp_X3_18 : FP RX3 18 3 2 .int := ⟨RX3, TX3, 11, tyX3, rfl, by decide, inX3, inG 213 (by decide +kernel) rfl, rfl, by decide +kernel, tyX3_ok, nmX3⟩
theorem fl_X8_199 : FL RX8 199 3 2 := ⟨RX3, TX3, 11, rfl, by decide, inX3, inG 214 (by decide +kernel) rfl⟩
theorem fp_X8_199 : FP RX8 199 3 2 .int := ⟨RX3, TX3, 11, tyX3, rfl, by decide, inX3, inG 214 (by decide +kernel) rfl, rfl, by decide +kernel, tyX3_ok, nmX3⟩
theorem fl_X3_21 : FL RX3 21 3 3 := ⟨RX3, TX3, 11, rfl, by decide, inX3, inG 215 (by decide +kernel) rfl⟩
theorem fl_X0_35 : FL RX0 35 3 3 := ⟨RX3, TX3, 11, rfl, by decide, inX3, inG 216 (by decide +kernel) rfl⟩
theorem fl_X3_25 : FL RX3 25 3 4 := ⟨RX3, TX3, 11, rfl, by decide, inX3, inG 217 (by decide +kernel) rfl⟩
theorem fl_X0_38 : FL RX0 38 3 4 := ⟨RX3, TX3, 11, rfl, by decide, inX3, inG 218 (by decide +kernel) rfl⟩
theorem fl_X3_28 : FL RX3 28 3 5 := ⟨RX3, TX3, 11, rfl, by decide, inX3, inG 219 (by decide +kernel) rfl⟩
theorem fl_X0_41 : FL RX0 41 3 5 := ⟨RX3, TX3, 11, rfl, by decide, inX3, inG 220 (by decide +kernel) rfl⟩
theorem fl_X3_31 : FL RX3 31 3 6 := ⟨RX3, TX3, 11, rfl, by decide, inX3, inG 221 (by decide +kernel) rfl⟩
theorem fl_X0_50 : FL RX0 50 3 6 := ⟨RX3, TX3, 11, rfl, by decide, inX3, inG 222 (by decide +kernel) rfl⟩
theorem fl_X3_34 : FL RX3 34 3 7 := ⟨RX3, TX3, 11, rfl, by decide, inX3, inG 223 (by decide +kernel) rfl⟩
theorem fl_X8_280 : FL RX8 280 3 7 := ⟨RX3, TX3, 11, rfl, by decide, inX3, inG 224 (by decide +kernel) rfl⟩
theorem fl_X3_37 : FL RX3 37 3 8 := ⟨RX3, TX3, 11, rfl, by decide, inX3, inG 225 (by decide +kernel) rfl⟩
theorem fl_X3_40 : FL RX3 40 3 9 := ⟨RX3, TX3, 11, rfl, by decide, inX3, inG 226 (by decide +kernel) rfl⟩
theorem fl_X3_43 : FL RX3 43 3 10 := ⟨RX3, TX3, 11, rfl, by decide, inX3, inG 227 (by decide +kernel) rfl⟩
theorem fl_X0_11 : FL RX0 11 0 0 := ⟨RX0, TX0, 4, rfl, by decide, inX0, inG 257 (by decide +kernel) rfl⟩
theorem fp_X0_11 : FP RX0 11 0 0 .int := ⟨RX0, TX0, 4, tyX0, rfl, by decide, inX0, inG 257 (by decide +kernel) rfl, rfl, by decide +kernel, tyX0_ok, nmX0⟩
theorem fl_X8_256 : FL RX8 256 0 0 := ⟨RX0, TX0, 4, rfl, by decide, inX0, inG 258 (by decide +kernel) rfl⟩
theorem fp_X8_256 : FP RX8 256 0 0 .int := ⟨RX0, TX0, 4, tyX0, rfl, by decide, inX0, inG 258 (by decide +kernel) rfl, rfl, by decide +kernel, tyX0_ok, nmX0⟩
theorem fl_X0_15 : FL RX0 15 0 1 := ⟨RX0, TX0, 4, rfl, by decide, inX0, inG 259 (by decide +kernel) rfl⟩
theorem fl_X0_19 : FL RX0 19 0 2 := ⟨RX0, TX0, 4, rfl, by decide, inX0, inG 260 (by decide +kernel) rfl⟩
theorem fl_X0_22 : FL RX0 22 0 3 := ⟨RX0, TX0, 4, rfl, by decide, inX0, inG 261 (by decide +kernel) rfl⟩
theorem fl_X7_9 : FL RX7 9 7 0 := ⟨RX7, TX7, 10, rfl, by decide, inX7, inG 277 (by decide +kernel) rfl⟩
theorem fp_X7_9 : FP RX7 9 7 0 .int := ⟨RX7, TX7, 10, tyX7, rfl, by decide, inX7, inG 277 (by decide +kernel) rfl, rfl, by decide +kernel, tyX7_ok, nmX7⟩
theorem fl_X8_172 : FL RX8 172 7 0 := ⟨RX7, TX7, 10, rfl, by decide, inX7, inG 278 (by decide +kernel) rfl⟩
theorem fp_X8_172 : FP RX8 172 7 0 .int := ⟨RX7, TX7, 10, tyX7, rfl, by decide, inX7, inG 278 (by decide +kernel) rfl, rfl, by decide +kernel, tyX7_ok, nmX7⟩
theorem fl_X7_15 : FL RX7 15 7 1 := ⟨RX7, TX7, 10, rfl, by decide, inX7, inG 279 (by decide +kernel) rfl⟩
theorem fp_X7_15 : FP RX7 15 7 1 .int := ⟨RX7, TX7, 10, tyX7, rfl, by decide, inX7, inG 279 (by decide +kernel) rfl, rfl, by decide +kernel, tyX7_ok, nmX7⟩
theorem fl_X8_175 : FL RX8 175 7 1 := ⟨RX7, TX7, 10, rfl, by decide, inX7, inG 280 (by decide +kernel) rfl⟩
theorem fp_X8_175 : FP RX8 175 7 1 .int := ⟨RX7, TX7, 10, tyX7, rfl, by decide, inX7, inG 280 (by decide +kernel) rfl, rfl, by decide +kernel, tyX7_ok, nmX7⟩
theorem fl_X7_18 : FL RX7 18 7 2 := ⟨RX7, TX7, 10, rfl, by decide, inX7, inG 281 (by decide +kernel) rfl⟩
theorem fp_X7_18 : FP RX7 18 7 2 .int := ⟨RX7, TX7, 10, tyX7, rfl, by decide, inX7, inG 281 (by decide +kernel) rfl, rfl, by decide +kernel, tyX7_ok, nmX7⟩
theorem fl_X8_178 : FL RX8 178 7 2 := ⟨RX7, TX7, 10, rfl, by decide, inX7, inG 282 (by decide +kernel) rfl⟩
theorem fp_X8_178 : FP RX8 178 7 2 .int := ⟨RX7, TX7, 10, tyX7, rfl, by decide, inX7, inG 282 (by decide +kernel) rfl, rfl, by decide +kernel, tyX7_ok, nmX7⟩
theorem fl_X7_21 : FL RX7 21 7 3 := ⟨RX7, TX7, 10, rfl, by decide, inX7, inG 283 (by decide +kernel) rfl⟩
theorem fp_X7_21 : FP RX7 21 7 3 .int := ⟨RX7, TX7, 10, tyX7, rfl, by decide, inX7, inG 283 (by decide +kernel) rfl, rfl, by decide +kernel, tyX7_ok, nmX7⟩
theorem fl_X7_24 : FL RX7 24 7 4 := ⟨RX7, TX7, 10, rfl, by decide, inX7, inG 284 (by decide +kernel) rfl⟩
theorem fp_X7_24 : FP RX7 24 7 4 .int := ⟨RX7, TX7, 10, tyX7, rfl, by decide, inX7, inG 284 (by decide +kernel) rfl, rfl, by decide +kernel, tyX7_ok, nmX7⟩
theorem fl_X8_289 : FL RX8 289 7 4 := ⟨RX7, TX7, 10, rfl, by decide, inX7, inG 285 (by decide +kernel) rfl⟩
theorem fp_X8_289 : FP RX8 289 7 4 .int := ⟨RX7, TX7, 10, tyX7, rfl, by decide, inX7, inG 285 (by decide +kernel) rfl, rfl, by decide +kernel, tyX7_ok, nmX7⟩
theorem fl_X7_27 : FL RX7 27 7 5 := ⟨RX7, TX7, 10, rfl, by decide, inX7, inG 286 (by decide +kernel) rfl⟩
theorem fp_X7_27 : FP RX7 27 7 5 .int := ⟨RX7, TX7, 10, tyX7, rfl, by decide, inX7, inG 286 (by decide +kernel) rfl, rfl, by decide +kernel, tyX7_ok, nmX7⟩
theorem fl_X8_292 : FL RX8 292 7 5 := ⟨RX7, TX7, 10, rfl, by decide, inX7, inG 287 (by decide +kernel) rfl⟩
theorem fp_X8_292 : FP RX8 292 7 5 .int := ⟨RX7, TX7, 10, tyX7, rfl, by decide, inX7, inG 287 (by decide +kernel) rfl, rfl, by decide +kernel, tyX7_ok, nmX7⟩
theorem fl_X7_30 : FL RX7 30 7 6 := ⟨RX7, TX7, 10, rfl, by decide, inX7, inG 288 (by decide +kernel) rfl⟩
theorem fp_X7_30 : FP RX7 30 7 6 .int := ⟨RX7, TX7, 10, tyX7, rfl, by decide, inX7, inG 288 (by decide +kernel) rfl, rfl, by decide +kernel, tyX7_ok, nmX7⟩
theorem fl_X8_295 : FL RX8 295 7 6 := ⟨RX7, TX7, 10, rfl, by decide, inX7, inG 289 (by decide +kernel) rfl⟩
theorem fp_X8_295 : FP RX8 295 7 6 .int := ⟨RX7, TX7, 10, tyX7, rfl, by decide, inX7, inG 289 (by decide +kernel) rfl, rfl, by decide +kernel, tyX7_ok, nmX7⟩
theorem fl_X7_33 : FL RX7 33 7 7 := ⟨RX7, TX7, 10, rfl, by decide, inX7, inG 290 (by decide +kernel) rfl⟩
theorem fp_X7_33 : FP RX7 33 7 7 .int := ⟨RX7, TX7, 10, tyX7, rfl, by decide, inX7, inG 290 (by decide +kernel) rfl, rfl, by decide +kernel, tyX7_ok, nmX7⟩
theorem fl_X8_339 : FL RX8 339 7 7 := ⟨RX7, TX7, 10, rfl, by decide, inX7, inG 291 (by decide +kernel) rfl⟩
theorem fp_X8_339 : FP RX8 339 7 7 .int := ⟨RX7, TX7, 10, tyX7, rfl, by decide, inX7, inG 291 (by decide +kernel) rfl, rfl, by decide +kernel, tyX7_ok, nmX7⟩
theorem fl_X7_36 : FL RX7 36 7 8 := ⟨RX7, TX7, 10, rfl, by decide, inX7, inG 292 (by decide +kernel) rfl⟩
theorem fl_X7_40 : FL RX7 40 7 9 := ⟨RX7, TX7, 10, rfl, by decide, inX7, inG 293 (by decide +kernel) rfl⟩
theorem fl_X8_9 : FL RX8 9 8 0 := ⟨RX8, TX8, 20, rfl, by decide, inX8, inG 315 (by decide +kernel) rfl⟩
theorem fl_X8_13 : FL RX8 13 8 1 := ⟨RX8, TX8, 20, rfl, by decide, inX8, inG 316 (by decide +kernel) rfl⟩
theorem fp_X8_13 : FP RX8 13 8 1 .int := ⟨RX8, TX8, 20, tyX8, rfl, by decide, inX8, inG 316 (by decide +kernel) rfl, rfl, by decide +kernel, tyX8_ok, nmX8⟩
theorem fl_X8_17 : FL RX8 17 8 2 := ⟨RX8, TX8, 20, rfl, by decide, inX8, inG 317 (by decide +kernel) rfl⟩
theorem fp_X8_17 : FP RX8 17 8 2 .int := ⟨RX8, TX8, 20, tyX8, rfl, by decide, inX8, inG 317 (by decide +kernel) rfl, rfl, by decide +kernel, tyX8_ok, nmX8⟩
theorem fl_X8_20 : FL RX8 20 8 3 := ⟨RX8, TX8, 20, rfl, by decide, inX8, inG 318 (by decide +kernel) rfl⟩
theorem fl_X8_27 : FL RX8 27 8 4 := ⟨RX8, TX8, 20, rfl, by decide, inX8, inG 319 (by decide +kernel) rfl⟩
theorem fl_X8_34 : FL RX8 34 8 5 := ⟨RX8, TX8, 20, rfl, by decide, inX8, inG 320 (by decide +kernel) rfl⟩
theorem fl_X8_41 : FL RX8 41 8 6 := ⟨RX8, TX8, 20, rfl, by decide, inX8, inG 321 (by decide +kernel) rfl⟩
theorem fl_X8_48 : FL RX8 48 8 7 := ⟨RX8, TX8, 20, rfl, by decide, inX8, inG 322 (by decide +kernel) rfl⟩
theorem fp_X8_48 : FP RX8 48 8 7 (.object "LyingDials$Port") := ⟨RX8, TX8, 20, tyX8, rfl, by decide, inX8, inG 322 (by decide +kernel) rfl, rfl, by decide +kernel, tyX8_ok, nmX8⟩
theorem fl_X8_52 : FL RX8 52 8 8 := ⟨RX8, TX8, 20, rfl, by decide, inX8, inG 323 (by decide +kernel) rfl⟩
theorem fp_X8_52 : FP RX8 52 8 8 (.object "LyingDials$Port") := ⟨RX8, TX8, 20, tyX8, rfl, by decide, inX8, inG 323 (by decide +kernel) rfl, rfl, by decide +kernel, tyX8_ok, nmX8⟩
theorem fl_X8_58 : FL RX8 58 8 9 := ⟨RX8, TX8, 20, rfl, by decide, inX8, inG 324 (by decide +kernel) rfl⟩
theorem fp_X8_58 : FP RX8 58 8 9 (.object "LyingDials$Law") := ⟨RX8, TX8, 20, tyX8, rfl, by decide, inX8, inG 324 (by decide +kernel) rfl, rfl, by decide +kernel, tyX8_ok, nmX8⟩
theorem fl_X8_62 : FL RX8 62 8 10 := ⟨RX8, TX8, 20, rfl, by decide, inX8, inG 325 (by decide +kernel) rfl⟩
theorem fp_X8_62 : FP RX8 62 8 10 (.object "LyingDials$Law") := ⟨RX8, TX8, 20, tyX8, rfl, by decide, inX8, inG 325 (by decide +kernel) rfl, rfl, by decide +kernel, tyX8_ok, nmX8⟩
theorem fl_X8_65 : FL RX8 65 8 11 := ⟨RX8, TX8, 20, rfl, by decide, inX8, inG 326 (by decide +kernel) rfl⟩
theorem fp_X8_65 : FP RX8 65 8 11 .boolean := ⟨RX8, TX8, 20, tyX8, rfl, by decide, inX8, inG 326 (by decide +kernel) rfl, rfl, by decide +kernel, tyX8_ok, nmX8⟩
theorem fl_X8_72 : FL RX8 72 8 12 := ⟨RX8, TX8, 20, rfl, by decide, inX8, inG 327 (by decide +kernel) rfl⟩
theorem fl_X8_76 : FL RX8 76 8 13 := ⟨RX8, TX8, 20, rfl, by decide, inX8, inG 328 (by decide +kernel) rfl⟩
theorem fl_X8_79 : FL RX8 79 8 14 := ⟨RX8, TX8, 20, rfl, by decide, inX8, inG 329 (by decide +kernel) rfl⟩
theorem fp_X8_79 : FP RX8 79 8 14 .boolean := ⟨RX8, TX8, 20, tyX8, rfl, by decide, inX8, inG 329 (by decide +kernel) rfl, rfl, by decide +kernel, tyX8_ok, nmX8⟩
theorem fl_X8_85 : FL RX8 85 8 15 := ⟨RX8, TX8, 20, rfl, by decide, inX8, inG 330 (by decide +kernel) rfl⟩
theorem fl_X8_92 : FL RX8 92 8 16 := ⟨RX8, TX8, 20, rfl, by decide, inX8, inG 331 (by decide +kernel) rfl⟩
theorem fl_X8_96 : FL RX8 96 8 17 := ⟨RX8, TX8, 20, rfl, by decide, inX8, inG 332 (by decide +kernel) rfl⟩
theorem fl_X8_99 : FL RX8 99 8 18 := ⟨RX8, TX8, 20, rfl, by decide, inX8, inG 333 (by decide +kernel) rfl⟩
theorem fl_X8_102 : FL RX8 102 8 19 := ⟨RX8, TX8, 20, rfl, by decide, inX8, inG 334 (by decide +kernel) rfl⟩
theorem fl_X9_102 : FL RX9 102 9 0 := ⟨RX9, TX9, 58, rfl, by decide, inX9, inG 1288 (by decide +kernel) rfl⟩
theorem fp_X9_102 : FP RX9 102 9 0 .int := ⟨RX9, TX9, 58, tyX9, rfl, by decide, inX9, inG 1288 (by decide +kernel) rfl, rfl, by decide +kernel, tyX9_ok, nmX9⟩
theorem fl_X9_214 : FL RX9 214 9 1 := ⟨RX9, TX9, 58, rfl, by decide, inX9, inG 1289 (by decide +kernel) rfl⟩
theorem fp_X9_214 : FP RX9 214 9 1 .int := ⟨RX9, TX9, 58, tyX9, rfl, by decide, inX9, inG 1289 (by decide +kernel) rfl, rfl, by decide +kernel, tyX9_ok, nmX9⟩
theorem fl_X9_217 : FL RX9 217 9 2 := ⟨RX9, TX9, 58, rfl, by decide, inX9, inG 1290 (by decide +kernel) rfl⟩
theorem fp_X9_217 : FP RX9 217 9 2 .int := ⟨RX9, TX9, 58, tyX9, rfl, by decide, inX9, inG 1290 (by decide +kernel) rfl, rfl, by decide +kernel, tyX9_ok, nmX9⟩
theorem fl_X9_7 : FL RX9 7 9 3 := ⟨RX9, TX9, 58, rfl, by decide, inX9, inG 1291 (by decide +kernel) rfl⟩
theorem fp_X9_7 : FP RX9 7 9 3 .int := ⟨RX9, TX9, 58, tyX9, rfl, by decide, inX9, inG 1291 (by decide +kernel) rfl, rfl, by decide +kernel, tyX9_ok, nmX9⟩
theorem fl_X9_13 : FL RX9 13 9 4 := ⟨RX9, TX9, 58, rfl, by decide, inX9, inG 1292 (by decide +kernel) rfl⟩
theorem fl_X9_17 : FL RX9 17 9 5 := ⟨RX9, TX9, 58, rfl, by decide, inX9, inG 1293 (by decide +kernel) rfl⟩
theorem fl_X9_20 : FL RX9 20 9 6 := ⟨RX9, TX9, 58, rfl, by decide, inX9, inG 1294 (by decide +kernel) rfl⟩
theorem fl_X9_23 : FL RX9 23 9 7 := ⟨RX9, TX9, 58, rfl, by decide, inX9, inG 1295 (by decide +kernel) rfl⟩
theorem fl_X9_105 : FL RX9 105 9 8 := ⟨RX9, TX9, 58, rfl, by decide, inX9, inG 1296 (by decide +kernel) rfl⟩
theorem fp_X9_105 : FP RX9 105 9 8 .int := ⟨RX9, TX9, 58, tyX9, rfl, by decide, inX9, inG 1296 (by decide +kernel) rfl, rfl, by decide +kernel, tyX9_ok, nmX9⟩
theorem fl_X9_158 : FL RX9 158 9 9 := ⟨RX9, TX9, 58, rfl, by decide, inX9, inG 1297 (by decide +kernel) rfl⟩
theorem fp_X9_158 : FP RX9 158 9 9 .int := ⟨RX9, TX9, 58, tyX9, rfl, by decide, inX9, inG 1297 (by decide +kernel) rfl, rfl, by decide +kernel, tyX9_ok, nmX9⟩
theorem fl_X9_26 : FL RX9 26 9 10 := ⟨RX9, TX9, 58, rfl, by decide, inX9, inG 1298 (by decide +kernel) rfl⟩
theorem fp_X9_26 : FP RX9 26 9 10 .int := ⟨RX9, TX9, 58, tyX9, rfl, by decide, inX9, inG 1298 (by decide +kernel) rfl, rfl, by decide +kernel, tyX9_ok, nmX9⟩
theorem fl_X9_29 : FL RX9 29 9 11 := ⟨RX9, TX9, 58, rfl, by decide, inX9, inG 1299 (by decide +kernel) rfl⟩
theorem fl_X9_112 : FL RX9 112 9 12 := ⟨RX9, TX9, 58, rfl, by decide, inX9, inG 1300 (by decide +kernel) rfl⟩
theorem fp_X9_112 : FP RX9 112 9 12 .int := ⟨RX9, TX9, 58, tyX9, rfl, by decide, inX9, inG 1300 (by decide +kernel) rfl, rfl, by decide +kernel, tyX9_ok, nmX9⟩
theorem fl_X9_115 : FL RX9 115 9 13 := ⟨RX9, TX9, 58, rfl, by decide, inX9, inG 1301 (by decide +kernel) rfl⟩
theorem fp_X9_115 : FP RX9 115 9 13 .int := ⟨RX9, TX9, 58, tyX9, rfl, by decide, inX9, inG 1301 (by decide +kernel) rfl, rfl, by decide +kernel, tyX9_ok, nmX9⟩
theorem fl_X9_135 : FL RX9 135 9 14 := ⟨RX9, TX9, 58, rfl, by decide, inX9, inG 1302 (by decide +kernel) rfl⟩
theorem fp_X9_135 : FP RX9 135 9 14 .int := ⟨RX9, TX9, 58, tyX9, rfl, by decide, inX9, inG 1302 (by decide +kernel) rfl, rfl, by decide +kernel, tyX9_ok, nmX9⟩
theorem fl_X9_122 : FL RX9 122 9 15 := ⟨RX9, TX9, 58, rfl, by decide, inX9, inG 1303 (by decide +kernel) rfl⟩
theorem fp_X9_122 : FP RX9 122 9 15 .int := ⟨RX9, TX9, 58, tyX9, rfl, by decide, inX9, inG 1303 (by decide +kernel) rfl, rfl, by decide +kernel, tyX9_ok, nmX9⟩
theorem fl_X9_145 : FL RX9 145 9 16 := ⟨RX9, TX9, 58, rfl, by decide, inX9, inG 1304 (by decide +kernel) rfl⟩
theorem fp_X9_145 : FP RX9 145 9 16 .int := ⟨RX9, TX9, 58, tyX9, rfl, by decide, inX9, inG 1304 (by decide +kernel) rfl, rfl, by decide +kernel, tyX9_ok, nmX9⟩
theorem fl_X9_129 : FL RX9 129 9 17 := ⟨RX9, TX9, 58, rfl, by decide, inX9, inG 1305 (by decide +kernel) rfl⟩
theorem fp_X9_129 : FP RX9 129 9 17 .int := ⟨RX9, TX9, 58, tyX9, rfl, by decide, inX9, inG 1305 (by decide +kernel) rfl, rfl, by decide +kernel, tyX9_ok, nmX9⟩
theorem fl_X9_132 : FL RX9 132 9 18 := ⟨RX9, TX9, 58, rfl, by decide, inX9, inG 1306 (by decide +kernel) rfl⟩
theorem fp_X9_132 : FP RX9 132 9 18 .int := ⟨RX9, TX9, 58, tyX9, rfl, by decide, inX9, inG 1306 (by decide +kernel) rfl, rfl, by decide +kernel, tyX9_ok, nmX9⟩
theorem fl_X9_125 : FL RX9 125 9 19 := ⟨RX9, TX9, 58, rfl, by decide, inX9, inG 1307 (by decide +kernel) rfl⟩
theorem fp_X9_125 : FP RX9 125 9 19 .long := ⟨RX9, TX9, 58, tyX9, rfl, by decide, inX9, inG 1307 (by decide +kernel) rfl, rfl, by decide +kernel, tyX9_ok, nmX9⟩
theorem fl_X9_175 : FL RX9 175 9 20 := ⟨RX9, TX9, 58, rfl, by decide, inX9, inG 1308 (by decide +kernel) rfl⟩
theorem fp_X9_175 : FP RX9 175 9 20 .int := ⟨RX9, TX9, 58, tyX9, rfl, by decide, inX9, inG 1308 (by decide +kernel) rfl, rfl, by decide +kernel, tyX9_ok, nmX9⟩
theorem fl_X9_188 : FL RX9 188 9 21 := ⟨RX9, TX9, 58, rfl, by decide, inX9, inG 1309 (by decide +kernel) rfl⟩
theorem fp_X9_188 : FP RX9 188 9 21 .int := ⟨RX9, TX9, 58, tyX9, rfl, by decide, inX9, inG 1309 (by decide +kernel) rfl, rfl, by decide +kernel, tyX9_ok, nmX9⟩
theorem fl_X9_204 : FL RX9 204 9 22 := ⟨RX9, TX9, 58, rfl, by decide, inX9, inG 1310 (by decide +kernel) rfl⟩
theorem fp_X9_204 : FP RX9 204 9 22 .int := ⟨RX9, TX9, 58, tyX9, rfl, by decide, inX9, inG 1310 (by decide +kernel) rfl, rfl, by decide +kernel, tyX9_ok, nmX9⟩
theorem fl_X9_197 : FL RX9 197 9 23 := ⟨RX9, TX9, 58, rfl, by decide, inX9, inG 1311 (by decide +kernel) rfl⟩
theorem fp_X9_197 : FP RX9 197 9 23 .boolean := ⟨RX9, TX9, 58, tyX9, rfl, by decide, inX9, inG 1311 (by decide +kernel) rfl, rfl, by decide +kernel, tyX9_ok, nmX9⟩
theorem fl_X9_201 : FL RX9 201 9 24 := ⟨RX9, TX9, 58, rfl, by decide, inX9, inG 1312 (by decide +kernel) rfl⟩
theorem fp_X9_201 : FP RX9 201 9 24 .boolean := ⟨RX9, TX9, 58, tyX9, rfl, by decide, inX9, inG 1312 (by decide +kernel) rfl, rfl, by decide +kernel, tyX9_ok, nmX9⟩
theorem fl_X9_32 : FL RX9 32 9 25 := ⟨RX9, TX9, 58, rfl, by decide, inX9, inG 1313 (by decide +kernel) rfl⟩
theorem fl_X9_35 : FL RX9 35 9 26 := ⟨RX9, TX9, 58, rfl, by decide, inX9, inG 1314 (by decide +kernel) rfl⟩
theorem fl_X9_38 : FL RX9 38 9 27 := ⟨RX9, TX9, 58, rfl, by decide, inX9, inG 1315 (by decide +kernel) rfl⟩
theorem fl_X9_41 : FL RX9 41 9 28 := ⟨RX9, TX9, 58, rfl, by decide, inX9, inG 1316 (by decide +kernel) rfl⟩
theorem fl_X9_45 : FL RX9 45 9 29 := ⟨RX9, TX9, 58, rfl, by decide, inX9, inG 1317 (by decide +kernel) rfl⟩
theorem fl_X9_48 : FL RX9 48 9 30 := ⟨RX9, TX9, 58, rfl, by decide, inX9, inG 1318 (by decide +kernel) rfl⟩
theorem fp_X9_48 : FP RX9 48 9 30 .int := ⟨RX9, TX9, 58, tyX9, rfl, by decide, inX9, inG 1318 (by decide +kernel) rfl, rfl, by decide +kernel, tyX9_ok, nmX9⟩
theorem fl_X9_230 : FL RX9 230 9 31 := ⟨RX9, TX9, 58, rfl, by decide, inX9, inG 1319 (by decide +kernel) rfl⟩
theorem fp_X9_230 : FP RX9 230 9 31 .int := ⟨RX9, TX9, 58, tyX9, rfl, by decide, inX9, inG 1319 (by decide +kernel) rfl, rfl, by decide +kernel, tyX9_ok, nmX9⟩
theorem fl_X9_51 : FL RX9 51 9 32 := ⟨RX9, TX9, 58, rfl, by decide, inX9, inG 1320 (by decide +kernel) rfl⟩
theorem fl_X9_224 : FL RX9 224 9 33 := ⟨RX9, TX9, 58, rfl, by decide, inX9, inG 1321 (by decide +kernel) rfl⟩
theorem fp_X9_224 : FP RX9 224 9 33 .int := ⟨RX9, TX9, 58, tyX9, rfl, by decide, inX9, inG 1321 (by decide +kernel) rfl, rfl, by decide +kernel, tyX9_ok, nmX9⟩
theorem fl_X9_54 : FL RX9 54 9 34 := ⟨RX9, TX9, 58, rfl, by decide, inX9, inG 1322 (by decide +kernel) rfl⟩
theorem fl_X9_57 : FL RX9 57 9 35 := ⟨RX9, TX9, 58, rfl, by decide, inX9, inG 1323 (by decide +kernel) rfl⟩
theorem fl_X9_285 : FL RX9 285 9 36 := ⟨RX9, TX9, 58, rfl, by decide, inX9, inG 1324 (by decide +kernel) rfl⟩
theorem fp_X9_285 : FP RX9 285 9 36 .int := ⟨RX9, TX9, 58, tyX9, rfl, by decide, inX9, inG 1324 (by decide +kernel) rfl, rfl, by decide +kernel, tyX9_ok, nmX9⟩
theorem fl_X9_60 : FL RX9 60 9 37 := ⟨RX9, TX9, 58, rfl, by decide, inX9, inG 1325 (by decide +kernel) rfl⟩
theorem fl_X9_227 : FL RX9 227 9 38 := ⟨RX9, TX9, 58, rfl, by decide, inX9, inG 1326 (by decide +kernel) rfl⟩
theorem fp_X9_227 : FP RX9 227 9 38 .int := ⟨RX9, TX9, 58, tyX9, rfl, by decide, inX9, inG 1326 (by decide +kernel) rfl, rfl, by decide +kernel, tyX9_ok, nmX9⟩
theorem fl_X9_63 : FL RX9 63 9 39 := ⟨RX9, TX9, 58, rfl, by decide, inX9, inG 1327 (by decide +kernel) rfl⟩
theorem fl_X9_66 : FL RX9 66 9 40 := ⟨RX9, TX9, 58, rfl, by decide, inX9, inG 1328 (by decide +kernel) rfl⟩
theorem fl_X9_310 : FL RX9 310 9 41 := ⟨RX9, TX9, 58, rfl, by decide, inX9, inG 1329 (by decide +kernel) rfl⟩
theorem fp_X9_310 : FP RX9 310 9 41 .int := ⟨RX9, TX9, 58, tyX9, rfl, by decide, inX9, inG 1329 (by decide +kernel) rfl, rfl, by decide +kernel, tyX9_ok, nmX9⟩
theorem fl_X9_313 : FL RX9 313 9 42 := ⟨RX9, TX9, 58, rfl, by decide, inX9, inG 1330 (by decide +kernel) rfl⟩
theorem fp_X9_313 : FP RX9 313 9 42 .int := ⟨RX9, TX9, 58, tyX9, rfl, by decide, inX9, inG 1330 (by decide +kernel) rfl, rfl, by decide +kernel, tyX9_ok, nmX9⟩
theorem fl_X9_69 : FL RX9 69 9 43 := ⟨RX9, TX9, 58, rfl, by decide, inX9, inG 1331 (by decide +kernel) rfl⟩
theorem fl_X9_233 : FL RX9 233 9 44 := ⟨RX9, TX9, 58, rfl, by decide, inX9, inG 1332 (by decide +kernel) rfl⟩
theorem fp_X9_233 : FP RX9 233 9 44 .boolean := ⟨RX9, TX9, 58, tyX9, rfl, by decide, inX9, inG 1332 (by decide +kernel) rfl, rfl, by decide +kernel, tyX9_ok, nmX9⟩
theorem fl_X9_72 : FL RX9 72 9 45 := ⟨RX9, TX9, 58, rfl, by decide, inX9, inG 1333 (by decide +kernel) rfl⟩
theorem fl_X9_75 : FL RX9 75 9 46 := ⟨RX9, TX9, 58, rfl, by decide, inX9, inG 1334 (by decide +kernel) rfl⟩
theorem fl_X9_78 : FL RX9 78 9 47 := ⟨RX9, TX9, 58, rfl, by decide, inX9, inG 1335 (by decide +kernel) rfl⟩
theorem fl_X9_81 : FL RX9 81 9 48 := ⟨RX9, TX9, 58, rfl, by decide, inX9, inG 1336 (by decide +kernel) rfl⟩
theorem fl_X9_84 : FL RX9 84 9 49 := ⟨RX9, TX9, 58, rfl, by decide, inX9, inG 1337 (by decide +kernel) rfl⟩
theorem fl_X9_87 : FL RX9 87 9 50 := ⟨RX9, TX9, 58, rfl, by decide, inX9, inG 1338 (by decide +kernel) rfl⟩
theorem fl_X9_323 : FL RX9 323 9 51 := ⟨RX9, TX9, 58, rfl, by decide, inX9, inG 1339 (by decide +kernel) rfl⟩
theorem fp_X9_323 : FP RX9 323 9 51 .int := ⟨RX9, TX9, 58, tyX9, rfl, by decide, inX9, inG 1339 (by decide +kernel) rfl, rfl, by decide +kernel, tyX9_ok, nmX9⟩
theorem fl_X9_326 : FL RX9 326 9 52 := ⟨RX9, TX9, 58, rfl, by decide, inX9, inG 1340 (by decide +kernel) rfl⟩
theorem fp_X9_326 : FP RX9 326 9 52 .int := ⟨RX9, TX9, 58, tyX9, rfl, by decide, inX9, inG 1340 (by decide +kernel) rfl, rfl, by decide +kernel, tyX9_ok, nmX9⟩
theorem fl_X9_236 : FL RX9 236 9 53 := ⟨RX9, TX9, 58, rfl, by decide, inX9, inG 1341 (by decide +kernel) rfl⟩
theorem fp_X9_236 : FP RX9 236 9 53 .boolean := ⟨RX9, TX9, 58, tyX9, rfl, by decide, inX9, inG 1341 (by decide +kernel) rfl, rfl, by decide +kernel, tyX9_ok, nmX9⟩
theorem fl_X9_90 : FL RX9 90 9 54 := ⟨RX9, TX9, 58, rfl, by decide, inX9, inG 1342 (by decide +kernel) rfl⟩
theorem fl_X9_93 : FL RX9 93 9 55 := ⟨RX9, TX9, 58, rfl, by decide, inX9, inG 1343 (by decide +kernel) rfl⟩
theorem fl_X9_96 : FL RX9 96 9 56 := ⟨RX9, TX9, 58, rfl, by decide, inX9, inG 1344 (by decide +kernel) rfl⟩
theorem fl_X9_99 : FL RX9 99 9 57 := ⟨RX9, TX9, 58, rfl, by decide, inX9, inG 1345 (by decide +kernel) rfl⟩
set_option maxRecDepth 100000 in
theorem cd_X8_init : Cond.code yX8_init cX8_init 1 none ∈ Gw := inG 27 rfl rfl
set_option maxRecDepth 100000 in
theorem cd_X6_init : Cond.code yX6_init cX6_init 1 none ∈ Gw := inG 35 rfl rfl
set_option maxRecDepth 100000 in
theorem cd_X5_init : Cond.code yX5_init cX5_init 1 none ∈ Gw := inG 72 rfl rfl
set_option maxRecDepth 100000 in
theorem cd_X2_init : Cond.code yX2_init cX2_init 1 none ∈ Gw := inG 91 rfl rfl
set_option maxRecDepth 100000 in
theorem cd_X4_init : Cond.code yX4_init cX4_init 1 none ∈ Gw := inG 107 rfl rfl
set_option maxRecDepth 100000 in
theorem cd_X1_init : Cond.code yX1_init cX1_init 1 none ∈ Gw := inG 172 rfl rfl
set_option maxRecDepth 100000 in
theorem cd_X3_init : Cond.code yX3_init cX3_init 1 none ∈ Gw := inG 203 rfl rfl
set_option maxRecDepth 100000 in
theorem cd_J7_fill_53178 : Cond.code yJ7_fill_53178 cJ7_fill_53178 4 none ∈ Gw := inG 207 rfl rfl
set_option maxRecDepth 100000 in
theorem cd_X0_init : Cond.code yX0_init cX0_init 1 none ∈ Gw := inG 255 rfl rfl
set_option maxRecDepth 100000 in
theorem cd_X7_init : Cond.code yX7_init cX7_init 1 none ∈ Gw := inG 275 rfl rfl
set_option maxRecDepth 100000 in
theorem cd_X8_feed : Cond.code yX8_feed cX8_feed 6 (some .int) ∈ Gw := inG 379 rfl rfl
set_option maxRecDepth 100000 in
theorem cd_X8_putBytes : Cond.code yX8_putBytes cX8_putBytes 3 none ∈ Gw := inG 383 rfl rfl
set_option maxRecDepth 100000 in
theorem cd_X8_fault : Cond.code yX8_fault cX8_fault 1 (some .int) ∈ Gw := inG 387 rfl rfl
set_option maxRecDepth 100000 in
theorem cd_X8_unread : Cond.code yX8_unread cX8_unread 1 (some .int) ∈ Gw := inG 391 rfl rfl
set_option maxRecDepth 100000 in
theorem cd_X8_forget : Cond.code yX8_forget cX8_forget 2 (some .int) ∈ Gw := inG 395 rfl rfl
set_option maxRecDepth 100000 in
theorem cd_X3_clearSeen : Cond.code yX3_clearSeen cX3_clearSeen 1 none ∈ Gw := inG 399 rfl rfl
set_option maxRecDepth 100000 in
theorem cd_X8_undo : Cond.code yX8_undo cX8_undo 1 (some .int) ∈ Gw := inG 403 rfl rfl
set_option maxRecDepth 100000 in
theorem cd_X8_image : Cond.code yX8_image cX8_image 1 none ∈ Gw := inG 407 rfl rfl
set_option maxRecDepth 100000 in
theorem cd_X3_copyFrom : Cond.code yX3_copyFrom cX3_copyFrom 2 none ∈ Gw := inG 411 rfl rfl
set_option maxRecDepth 100000 in
theorem cd_X8_restore : Cond.code yX8_restore cX8_restore 1 (some .boolean) ∈ Gw := inG 418 rfl rfl
set_option maxRecDepth 100000 in
theorem cd_X8_port : Cond.code yX8_port cX8_port 3 (some .int) ∈ Gw := inG 426 rfl rfl
set_option maxRecDepth 100000 in
theorem cd_X8_needTaped : Cond.code yX8_needTaped cX8_needTaped 2 none ∈ Gw := inG 430 rfl rfl
set_option maxRecDepth 100000 in
theorem cd_X6_begin : Cond.code yX6_begin cX6_begin 3 none ∈ Gw := inG 500 rfl rfl
set_option maxRecDepth 100000 in
theorem cd_J9_min_7cf53 : Cond.code yJ9_min_7cf53 cJ9_min_7cf53 2 (some .int) ∈ Gw := inG 503 rfl rfl
set_option maxRecDepth 100000 in
theorem cd_J9_max_7cf53 : Cond.code yJ9_max_7cf53 cJ9_max_7cf53 2 (some .int) ∈ Gw := inG 506 rfl rfl
set_option maxRecDepth 100000 in
theorem cd_X6_advance : Cond.code yX6_advance cX6_advance 1 none ∈ Gw := inG 510 rfl rfl
set_option maxRecDepth 100000 in
theorem cd_X6_isLetter : Cond.code yX6_isLetter cX6_isLetter 1 (some .boolean) ∈ Gw := inG 513 rfl rfl
set_option maxRecDepth 100000 in
theorem cd_X6_isDigit : Cond.code yX6_isDigit cX6_isDigit 1 (some .boolean) ∈ Gw := inG 516 rfl rfl
set_option maxRecDepth 100000 in
theorem cd_X5_readInto : Cond.code yX5_readInto cX5_readInto 4 (some .boolean) ∈ Gw := inG 520 rfl rfl
set_option maxRecDepth 100000 in
theorem cd_X4_clear : Cond.code yX4_clear cX4_clear 1 none ∈ Gw := inG 524 rfl rfl
set_option maxRecDepth 100000 in
theorem cd_X6_isEnd : Cond.code yX6_isEnd cX6_isEnd 1 (some .boolean) ∈ Gw := inG 529 rfl rfl
set_option maxRecDepth 100000 in
theorem cd_X5_readLine : Cond.code yX5_readLine cX5_readLine 1 (some .boolean) ∈ Gw := inG 533 rfl rfl
set_option maxRecDepth 100000 in
theorem cd_X6_isWord : Cond.code yX6_isWord cX6_isWord 3 (some .boolean) ∈ Gw := inG 538 rfl rfl
set_option maxRecDepth 100000 in
theorem cd_J0_length_8abf5 : Cond.code yJ0_length_8abf5 cJ0_length_8abf5 1 (some .int) ∈ Gw := inG 542 rfl rfl
set_option maxRecDepth 100000 in
theorem cd_J0_coder_7d493 : Cond.code yJ0_coder_7d493 cJ0_coder_7d493 1 (some .byte) ∈ Gw := inG 546 rfl rfl
set_option maxRecDepth 100000 in
theorem cd_J0_charAt_5068e : Cond.code yJ0_charAt_5068e cJ0_charAt_5068e 2 (some .char) ∈ Gw := inG 552 rfl rfl
set_option maxRecDepth 100000 in
theorem cd_J0_isLatin1_aae02 : Cond.code yJ0_isLatin1_aae02 cJ0_isLatin1_aae02 1 (some .boolean) ∈ Gw := inG 556 rfl rfl
set_option maxRecDepth 100000 in
theorem cd_J1_charAt_3b067 : Cond.code yJ1_charAt_3b067 cJ1_charAt_3b067 2 (some .char) ∈ Gw := inG 559 rfl rfl
set_option maxRecDepth 100000 in
theorem cd_J0_checkIndex_df160 : Cond.code yJ0_checkIndex_df160 cJ0_checkIndex_df160 2 none ∈ Gw := inG 562 rfl rfl
set_option maxRecDepth 100000 in
theorem cd_J3_checkIndex_8e157 : Cond.code yJ3_checkIndex_8e157 cJ3_checkIndex_8e157 3 (some .int) ∈ Gw := inG 567 rfl rfl
set_option maxRecDepth 100000 in
theorem cd_J2_charAt_3b067 : Cond.code yJ2_charAt_3b067 cJ2_charAt_3b067 2 (some .char) ∈ Gw := inG 570 rfl rfl
set_option maxRecDepth 100000 in
theorem cd_J2_checkIndex_2214a : Cond.code yJ2_checkIndex_2214a cJ2_checkIndex_2214a 2 none ∈ Gw := inG 573 rfl rfl
set_option maxRecDepth 100000 in
theorem cd_J2_length_9d52b : Cond.code yJ2_length_9d52b cJ2_length_9d52b 1 (some .int) ∈ Gw := inG 576 rfl rfl
set_option maxRecDepth 100000 in
theorem cd_J2_getChar_3b067 : Cond.code yJ2_getChar_3b067 cJ2_getChar_3b067 2 (some .char) ∈ Gw := inG 580 rfl rfl
set_option maxRecDepth 100000 in
theorem cd_X5_readDial : Cond.code yX5_readDial cX5_readDial 3 (some .boolean) ∈ Gw := inG 590 rfl rfl
set_option maxRecDepth 100000 in
theorem cd_X6_refuse : Cond.code yX6_refuse cX6_refuse 2 (some .boolean) ∈ Gw := inG 594 rfl rfl
set_option maxRecDepth 100000 in
theorem cd_X5_kindHere : Cond.code yX5_kindHere cX5_kindHere 1 (some .int) ∈ Gw := inG 599 rfl rfl
set_option maxRecDepth 100000 in
theorem cd_X6_takeSigned : Cond.code yX6_takeSigned cX6_takeSigned 3 (some .boolean) ∈ Gw := inG 609 rfl rfl
set_option maxRecDepth 100000 in
theorem cd_X6_isSign : Cond.code yX6_isSign cX6_isSign 2 (some .boolean) ∈ Gw := inG 613 rfl rfl
set_option maxRecDepth 100000 in
theorem cd_X6_takeNumber : Cond.code yX6_takeNumber cX6_takeNumber 3 (some .boolean) ∈ Gw := inG 617 rfl rfl
set_option maxRecDepth 100000 in
theorem cd_X6_holdsNumber : Cond.code yX6_holdsNumber cX6_holdsNumber 5 (some .boolean) ∈ Gw := inG 621 rfl rfl
set_option maxRecDepth 100000 in
theorem cd_X5_readGrown : Cond.code yX5_readGrown cX5_readGrown 2 (some .boolean) ∈ Gw := inG 626 rfl rfl
set_option maxRecDepth 100000 in
theorem cd_X5_readLimps : Cond.code yX5_readLimps cX5_readLimps 2 (some .boolean) ∈ Gw := inG 633 rfl rfl
set_option maxRecDepth 100000 in
theorem cd_X5_readSwing : Cond.code yX5_readSwing cX5_readSwing 1 (some .boolean) ∈ Gw := inG 638 rfl rfl
set_option maxRecDepth 100000 in
theorem cd_X5_readCloud : Cond.code yX5_readCloud cX5_readCloud 3 (some .boolean) ∈ Gw := inG 643 rfl rfl
set_option maxRecDepth 100000 in
theorem cd_X4_addCloud : Cond.code yX4_addCloud cX4_addCloud 4 none ∈ Gw := inG 647 rfl rfl
set_option maxRecDepth 100000 in
theorem cd_X6_takeSign : Cond.code yX6_takeSign cX6_takeSign 2 (some .boolean) ∈ Gw := inG 651 rfl rfl
set_option maxRecDepth 100000 in
theorem cd_X8_refuseText : Cond.code yX8_refuseText cX8_refuseText 1 (some .int) ∈ Gw := inG 655 rfl rfl
set_option maxRecDepth 100000 in
theorem cd_X3_clear : Cond.code yX3_clear cX3_clear 1 none ∈ Gw := inG 659 rfl rfl
set_option maxRecDepth 100000 in
theorem cd_X8_law : Cond.code yX8_law cX8_law 3 (some .int) ∈ Gw := inG 667 rfl rfl
set_option maxRecDepth 100000 in
theorem cd_X2_readInto : Cond.code yX2_readInto cX2_readInto 4 (some .boolean) ∈ Gw := inG 671 rfl rfl
set_option maxRecDepth 100000 in
theorem cd_X1_clear : Cond.code yX1_clear cX1_clear 1 none ∈ Gw := inG 675 rfl rfl
set_option maxRecDepth 100000 in
theorem cd_X2_readTime : Cond.code yX2_readTime cX2_readTime 2 (some .int) ∈ Gw := inG 679 rfl rfl
set_option maxRecDepth 100000 in
theorem cd_X2_canBegin : Cond.code yX2_canBegin cX2_canBegin 2 (some .boolean) ∈ Gw := inG 683 rfl rfl
set_option maxRecDepth 100000 in
theorem cd_X6_isAnyWord : Cond.code yX6_isAnyWord cX6_isAnyWord 1 (some .boolean) ∈ Gw := inG 687 rfl rfl
set_option maxRecDepth 100000 in
theorem cd_X2_readDial : Cond.code yX2_readDial cX2_readDial 2 (some .int) ∈ Gw := inG 694 rfl rfl
set_option maxRecDepth 100000 in
theorem cd_X2_open : Cond.code yX2_open cX2_open 2 (some .int) ∈ Gw := inG 698 rfl rfl
set_option maxRecDepth 100000 in
theorem cd_X1_addNode : Cond.code yX1_addNode cX1_addNode 3 (some .int) ∈ Gw := inG 703 rfl rfl
set_option maxRecDepth 100000 in
theorem cd_X1_setValue : Cond.code yX1_setValue cX1_setValue 3 none ∈ Gw := inG 708 rfl rfl
set_option maxRecDepth 100000 in
theorem cd_X1_isNode : Cond.code yX1_isNode cX1_isNode 2 (some .boolean) ∈ Gw := inG 712 rfl rfl
set_option maxRecDepth 100000 in
theorem cd_X2_readMiddle : Cond.code yX2_readMiddle cX2_readMiddle 4 (some .int) ∈ Gw := inG 717 rfl rfl
set_option maxRecDepth 100000 in
theorem cd_X2_takeOther : Cond.code yX2_takeOther cX2_takeOther 3 (some .int) ∈ Gw := inG 722 rfl rfl
set_option maxRecDepth 100000 in
theorem cd_X2_readFirst : Cond.code yX2_readFirst cX2_readFirst 6 (some .int) ∈ Gw := inG 729 rfl rfl
set_option maxRecDepth 100000 in
theorem cd_X2_addPart : Cond.code yX2_addPart cX2_addPart 4 (some .boolean) ∈ Gw := inG 733 rfl rfl
set_option maxRecDepth 100000 in
theorem cd_X1_addPart : Cond.code yX1_addPart cX1_addPart 4 none ∈ Gw := inG 737 rfl rfl
set_option maxRecDepth 100000 in
theorem cd_X2_readCouple : Cond.code yX2_readCouple cX2_readCouple 6 (some .int) ∈ Gw := inG 742 rfl rfl
set_option maxRecDepth 100000 in
theorem cd_X2_readLate : Cond.code yX2_readLate cX2_readLate 3 (some .int) ∈ Gw := inG 747 rfl rfl
set_option maxRecDepth 100000 in
theorem cd_X2_readIf : Cond.code yX2_readIf cX2_readIf 6 (some .int) ∈ Gw := inG 753 rfl rfl
set_option maxRecDepth 100000 in
theorem cd_X2_readTest : Cond.code yX2_readTest cX2_readTest 2 (some .int) ∈ Gw := inG 757 rfl rfl
set_option maxRecDepth 100000 in
theorem cd_X2_readNot : Cond.code yX2_readNot cX2_readNot 3 (some .int) ∈ Gw := inG 762 rfl rfl
set_option maxRecDepth 100000 in
theorem cd_X2_readDark : Cond.code yX2_readDark cX2_readDark 3 (some .int) ∈ Gw := inG 767 rfl rfl
set_option maxRecDepth 100000 in
theorem cd_X2_readMonth : Cond.code yX2_readMonth cX2_readMonth 2 (some .int) ∈ Gw := inG 772 rfl rfl
set_option maxRecDepth 100000 in
theorem cd_X6_takeWord : Cond.code yX6_takeWord cX6_takeWord 2 (some .boolean) ∈ Gw := inG 778 rfl rfl
set_option maxRecDepth 100000 in
theorem cd_X8_lawful : Cond.code yX8_lawful cX8_lawful 3 (some .int) ∈ Gw := inG 790 rfl rfl
set_option maxRecDepth 100000 in
theorem cd_X8_needDay : Cond.code yX8_needDay cX8_needDay 1 none ∈ Gw := inG 793 rfl rfl
set_option maxRecDepth 100000 in
theorem cd_X8_needMinute : Cond.code yX8_needMinute cX8_needMinute 1 none ∈ Gw := inG 812 rfl rfl
set_option maxRecDepth 100000 in
theorem cd_X8_needLaw : Cond.code yX8_needLaw cX8_needLaw 1 none ∈ Gw := inG 817 rfl rfl
set_option maxRecDepth 100000 in
theorem cd_X8_lawTells : Cond.code yX8_lawTells cX8_lawTells 3 (some .int) ∈ Gw := inG 822 rfl rfl
set_option maxRecDepth 100000 in
theorem cd_X8_fillTolds : Cond.code yX8_fillTolds cX8_fillTolds 4 none ∈ Gw := inG 826 rfl rfl
set_option maxRecDepth 100000 in
theorem cd_X8_toldNow : Cond.code yX8_toldNow cX8_toldNow 4 (some .int) ∈ Gw := inG 830 rfl rfl
set_option maxRecDepth 100000 in
theorem cd_X8_turnOn : Cond.code yX8_turnOn cX8_turnOn 3 (some .int) ∈ Gw := inG 834 rfl rfl
set_option maxRecDepth 100000 in
theorem cd_X3_turnBy : Cond.code yX3_turnBy cX3_turnBy 5 (some .int) ∈ Gw := inG 838 rfl rfl
set_option maxRecDepth 100000 in
theorem cd_X4_toldBy : Cond.code yX4_toldBy cX4_toldBy 8 (some .int) ∈ Gw := inG 842 rfl rfl
set_option maxRecDepth 100000 in
theorem cd_X4_plainlyTold : Cond.code yX4_plainlyTold cX4_plainlyTold 8 (some .int) ∈ Gw := inG 846 rfl rfl
set_option maxRecDepth 100000 in
theorem cd_X4_isGrown : Cond.code yX4_isGrown cX4_isGrown 3 (some .boolean) ∈ Gw := inG 850 rfl rfl
set_option maxRecDepth 100000 in
theorem cd_X4_moonAngle : Cond.code yX4_moonAngle cX4_moonAngle 4 (some .int) ∈ Gw := inG 854 rfl rfl
set_option maxRecDepth 100000 in
theorem cd_X4_hasMoon : Cond.code yX4_hasMoon cX4_hasMoon 1 (some .boolean) ∈ Gw := inG 857 rfl rfl
set_option maxRecDepth 100000 in
theorem cd_X4_ageOf : Cond.code yX4_ageOf cX4_ageOf 1 (some .int) ∈ Gw := inG 860 rfl rfl
set_option maxRecDepth 100000 in
theorem cd_X4_noonOf : Cond.code yX4_noonOf cX4_noonOf 2 (some .int) ∈ Gw := inG 864 rfl rfl
set_option maxRecDepth 100000 in
theorem cd_J9_abs_0f7a4 : Cond.code yJ9_abs_0f7a4 cJ9_abs_0f7a4 1 (some .int) ∈ Gw := inG 867 rfl rfl
set_option maxRecDepth 100000 in
theorem cd_X4_halfOf : Cond.code yX4_halfOf cX4_halfOf 3 (some .int) ∈ Gw := inG 871 rfl rfl
set_option maxRecDepth 100000 in
theorem cd_X4_moonNoonOf : Cond.code yX4_moonNoonOf cX4_moonNoonOf 1 (some .int) ∈ Gw := inG 875 rfl rfl
set_option maxRecDepth 100000 in
theorem cd_X8_around : Cond.code yX8_around cX8_around 1 (some .int) ∈ Gw := inG 878 rfl rfl
set_option maxRecDepth 100000 in
theorem cd_J9_floorMod_7cf53 : Cond.code yJ9_floorMod_7cf53 cJ9_floorMod_7cf53 3 (some .int) ∈ Gw := inG 881 rfl rfl
set_option maxRecDepth 100000 in
theorem cd_X4_sunAngle : Cond.code yX4_sunAngle cX4_sunAngle 5 (some .int) ∈ Gw := inG 885 rfl rfl
set_option maxRecDepth 100000 in
theorem cd_X4_isClouded : Cond.code yX4_isClouded cX4_isClouded 5 (some .boolean) ∈ Gw := inG 889 rfl rfl
set_option maxRecDepth 100000 in
theorem cd_X4_hasTilt : Cond.code yX4_hasTilt cX4_hasTilt 1 (some .boolean) ∈ Gw := inG 892 rfl rfl
set_option maxRecDepth 100000 in
theorem cd_X1_tellsBy : Cond.code yX1_tellsBy cX1_tellsBy 3 (some .int) ∈ Gw := inG 897 rfl rfl
set_option maxRecDepth 100000 in
theorem cd_X1_timeAt : Cond.code yX1_timeAt cX1_timeAt 3 (some .int) ∈ Gw := inG 901 rfl rfl
set_option maxRecDepth 100000 in
theorem cd_X1_toldBy : Cond.code yX1_toldBy cX1_toldBy 2 (some .int) ∈ Gw := inG 905 rfl rfl
set_option maxRecDepth 100000 in
theorem cd_X8_middleOf : Cond.code yX8_middleOf cX8_middleOf 6 (some .int) ∈ Gw := inG 908 rfl rfl
set_option maxRecDepth 100000 in
theorem cd_X1_firstAt : Cond.code yX1_firstAt cX1_firstAt 6 (some .int) ∈ Gw := inG 912 rfl rfl
set_option maxRecDepth 100000 in
theorem cd_X1_partAt : Cond.code yX1_partAt cX1_partAt 5 (some .int) ∈ Gw := inG 916 rfl rfl
set_option maxRecDepth 100000 in
theorem cd_X1_meanAt : Cond.code yX1_meanAt cX1_meanAt 5 (some .int) ∈ Gw := inG 920 rfl rfl
set_option maxRecDepth 100000 in
theorem cd_X1_laterAt : Cond.code yX1_laterAt cX1_laterAt 4 (some .int) ∈ Gw := inG 924 rfl rfl
set_option maxRecDepth 100000 in
theorem cd_X1_chosenAt : Cond.code yX1_chosenAt cX1_chosenAt 4 (some .int) ∈ Gw := inG 929 rfl rfl
set_option maxRecDepth 100000 in
theorem cd_X1_testAt : Cond.code yX1_testAt cX1_testAt 3 (some .boolean) ∈ Gw := inG 933 rfl rfl
set_option maxRecDepth 100000 in
theorem cd_X1_isBefore : Cond.code yX1_isBefore cX1_isBefore 5 (some .boolean) ∈ Gw := inG 937 rfl rfl
set_option maxRecDepth 100000 in
theorem cd_X8_judged : Cond.code yX8_judged cX8_judged 6 (some .int) ∈ Gw := inG 944 rfl rfl
set_option maxRecDepth 100000 in
theorem cd_X8_needWhat : Cond.code yX8_needWhat cX8_needWhat 2 none ∈ Gw := inG 947 rfl rfl
set_option maxRecDepth 100000 in
theorem cd_X7_clear : Cond.code yX7_clear cX7_clear 1 none ∈ Gw := inG 952 rfl rfl
set_option maxRecDepth 100000 in
theorem cd_X7_add : Cond.code yX7_add cX7_add 5 none ∈ Gw := inG 956 rfl rfl
set_option maxRecDepth 100000 in
theorem cd_X8_wrongBy : Cond.code yX8_wrongBy cX8_wrongBy 3 (some .int) ∈ Gw := inG 959 rfl rfl
set_option maxRecDepth 100000 in
theorem cd_X8_isBeaten : Cond.code yX8_isBeaten cX8_isBeaten 5 (some .boolean) ∈ Gw := inG 965 rfl rfl
set_option maxRecDepth 100000 in
theorem cd_X8_count : Cond.code yX8_count cX8_count 2 (some .int) ∈ Gw := inG 973 rfl rfl
set_option maxRecDepth 100000 in
theorem cd_X8_dial : Cond.code yX8_dial cX8_dial 3 (some .int) ∈ Gw := inG 981 rfl rfl
set_option maxRecDepth 100000 in
theorem cd_X8_needDial : Cond.code yX8_needDial cX8_needDial 2 none ∈ Gw := inG 985 rfl rfl
set_option maxRecDepth 100000 in
theorem cd_X8_day : Cond.code yX8_day cX8_day 3 (some .int) ∈ Gw := inG 993 rfl rfl
set_option maxRecDepth 100000 in
theorem cd_X8_tells : Cond.code yX8_tells cX8_tells 4 (some .int) ∈ Gw := inG 1002 rfl rfl
set_option maxRecDepth 100000 in
theorem cd_X8_turn : Cond.code yX8_turn cX8_turn 3 (some .int) ∈ Gw := inG 1009 rfl rfl
set_option maxRecDepth 100000 in
theorem cd_X8_read : Cond.code yX8_read cX8_read 5 (some .int) ∈ Gw := inG 1016 rfl rfl
set_option maxRecDepth 100000 in
theorem cd_X3_addReading : Cond.code yX3_addReading cX3_addReading 5 (some .int) ∈ Gw := inG 1020 rfl rfl
set_option maxRecDepth 100000 in
theorem cd_X8_faults : Cond.code yX8_faults cX8_faults 3 (some .int) ∈ Gw := inG 1027 rfl rfl
set_option maxRecDepth 100000 in
theorem cd_X0_weigh : Cond.code yX0_weigh cX0_weigh 6 none ∈ Gw := inG 1031 rfl rfl
set_option maxRecDepth 100000 in
theorem cd_X3_firstReadingOf : Cond.code yX3_firstReadingOf cX3_firstReadingOf 3 (some .int) ∈ Gw := inG 1035 rfl rfl
set_option maxRecDepth 100000 in
theorem cd_X0_weighTilt : Cond.code yX0_weighTilt cX0_weighTilt 9 none ∈ Gw := inG 1039 rfl rfl
set_option maxRecDepth 100000 in
theorem cd_X0_tellsAllReadings : Cond.code yX0_tellsAllReadings cX0_tellsAllReadings 6 (some .boolean) ∈ Gw := inG 1045 rfl rfl
set_option maxRecDepth 100000 in
theorem cd_X0_leastTurn : Cond.code yX0_leastTurn cX0_leastTurn 3 (some .int) ∈ Gw := inG 1051 rfl rfl
set_option maxRecDepth 100000 in
theorem cd_X0_isEmpty : Cond.code yX0_isEmpty cX0_isEmpty 2 (some .boolean) ∈ Gw := inG 1055 rfl rfl
set_option maxRecDepth 100000 in
theorem cd_X0_greatestTurn : Cond.code yX0_greatestTurn cX0_greatestTurn 3 (some .int) ∈ Gw := inG 1060 rfl rfl
set_option maxRecDepth 100000 in
theorem cd_X0_leastTilt : Cond.code yX0_leastTilt cX0_leastTilt 2 (some .int) ∈ Gw := inG 1065 rfl rfl
set_option maxRecDepth 100000 in
theorem cd_X0_greatestTilt : Cond.code yX0_greatestTilt cX0_greatestTilt 2 (some .int) ∈ Gw := inG 1069 rfl rfl
set_option maxRecDepth 100000 in
theorem cd_X8_next : Cond.code yX8_next cX8_next 8 (some .int) ∈ Gw := inG 1076 rfl rfl
set_option maxRecDepth 100000 in
theorem cd_X0_greatestGroup : Cond.code yX0_greatestGroup cX0_greatestGroup 8 (some .int) ∈ Gw := inG 1080 rfl rfl
set_option maxRecDepth 100000 in
theorem cd_X0_couplesOfTurn : Cond.code yX0_couplesOfTurn cX0_couplesOfTurn 4 (some .int) ∈ Gw := inG 1084 rfl rfl
set_option maxRecDepth 100000 in
theorem cd_X0_addStep : Cond.code yX0_addStep cX0_addStep 4 none ∈ Gw := inG 1089 rfl rfl
set_option maxRecDepth 100000 in
theorem cd_X0_highestStep : Cond.code yX0_highestStep cX0_highestStep 4 (some .int) ∈ Gw := inG 1093 rfl rfl
set_option maxRecDepth 100000 in
theorem cd_X8_see : Cond.code yX8_see cX8_see 3 (some .int) ∈ Gw := inG 1100 rfl rfl
set_option maxRecDepth 100000 in
theorem cd_X8_minutes : Cond.code yX8_minutes cX8_minutes 3 (some .int) ∈ Gw := inG 1107 rfl rfl
set_option maxRecDepth 100000 in
theorem cd_X8_addFitting : Cond.code yX8_addFitting cX8_addFitting 5 none ∈ Gw := inG 1111 rfl rfl
set_option maxRecDepth 100000 in
theorem cd_X7_addAllMinutes : Cond.code yX7_addAllMinutes cX7_addAllMinutes 1 none ∈ Gw := inG 1115 rfl rfl
set_option maxRecDepth 100000 in
theorem cd_X4_findMoments : Cond.code yX4_findMoments cX4_findMoments 14 (some .int) ∈ Gw := inG 1119 rfl rfl
set_option maxRecDepth 100000 in
theorem cd_X4_minuteAt : Cond.code yX4_minuteAt cX4_minuteAt 4 (some .int) ∈ Gw := inG 1123 rfl rfl
set_option maxRecDepth 100000 in
theorem cd_X8_allTellAsSeen : Cond.code yX8_allTellAsSeen cX8_allTellAsSeen 5 (some .boolean) ∈ Gw := inG 1128 rfl rfl
set_option maxRecDepth 100000 in
theorem cd_X7_addMinute : Cond.code yX7_addMinute cX7_addMinute 2 none ∈ Gw := inG 1132 rfl rfl
set_option maxRecDepth 100000 in
theorem cd_X8_days : Cond.code yX8_days cX8_days 6 (some .int) ∈ Gw := inG 1141 rfl rfl
set_option maxRecDepth 100000 in
theorem cd_X8_late : Cond.code yX8_late cX8_late 5 (some .int) ∈ Gw := inG 1148 rfl rfl
set_option maxRecDepth 100000 in
theorem cd_X8_lateOn : Cond.code yX8_lateOn cX8_lateOn 7 (some .int) ∈ Gw := inG 1152 rfl rfl
set_option maxRecDepth 100000 in
theorem cd_X8_firstMoment : Cond.code yX8_firstMoment cX8_firstMoment 7 (some .int) ∈ Gw := inG 1156 rfl rfl
set_option maxRecDepth 100000 in
theorem cd_X8_meet : Cond.code yX8_meet cX8_meet 10 (some .int) ∈ Gw := inG 1163 rfl rfl
set_option maxRecDepth 100000 in
theorem cd_X8_mend : Cond.code yX8_mend cX8_mend 5 (some .int) ∈ Gw := inG 1170 rfl rfl
set_option maxRecDepth 100000 in
theorem cd_X3_addMend : Cond.code yX3_addMend cX3_addMend 4 (some .int) ∈ Gw := inG 1174 rfl rfl
set_option maxRecDepth 100000 in
theorem cd_X8_best : Cond.code yX8_best cX8_best 6 (some .int) ∈ Gw := inG 1181 rfl rfl
set_option maxRecDepth 100000 in
theorem cd_X7_clearTurns : Cond.code yX7_clearTurns cX7_clearTurns 1 none ∈ Gw := inG 1187 rfl rfl
set_option maxRecDepth 100000 in
theorem cd_X8_addRightTurns : Cond.code yX8_addRightTurns cX8_addRightTurns 7 none ∈ Gw := inG 1192 rfl rfl
set_option maxRecDepth 100000 in
theorem cd_X7_addTurns : Cond.code yX7_addTurns cX7_addTurns 5 none ∈ Gw := inG 1198 rfl rfl
set_option maxRecDepth 100000 in
theorem cd_X7_bestTurn : Cond.code yX7_bestTurn cX7_bestTurn 6 (some .int) ∈ Gw := inG 1202 rfl rfl
set_option maxRecDepth 100000 in
theorem cd_X8_year : Cond.code yX8_year cX8_year 4 (some .int) ∈ Gw := inG 1210 rfl rfl
set_option maxRecDepth 100000 in
theorem cd_X8_tallyYear : Cond.code yX8_tallyYear cX8_tallyYear 4 none ∈ Gw := inG 1214 rfl rfl
set_option maxRecDepth 100000 in
theorem cd_X8_live : Cond.code yX8_live cX8_live 7 (some .int) ∈ Gw := inG 1221 rfl rfl
set_option maxRecDepth 100000 in
theorem cd_X8_middle : Cond.code yX8_middle cX8_middle 4 (some .int) ∈ Gw := inG 1228 rfl rfl
set_option maxRecDepth 100000 in
theorem cd_X8_together : Cond.code yX8_together cX8_together 8 (some .int) ∈ Gw := inG 1237 rfl rfl
set_option maxRecDepth 100000 in
theorem cd_X7_clearGroups : Cond.code yX7_clearGroups cX7_clearGroups 1 none ∈ Gw := inG 1241 rfl rfl
set_option maxRecDepth 100000 in
theorem cd_X8_litDials : Cond.code yX8_litDials cX8_litDials 6 (some .int) ∈ Gw := inG 1245 rfl rfl
set_option maxRecDepth 100000 in
theorem cd_X7_addGroup : Cond.code yX7_addGroup cX7_addGroup 2 none ∈ Gw := inG 1249 rfl rfl
set_option maxRecDepth 100000 in
theorem cd_X7_minutesOfBoth : Cond.code yX7_minutesOfBoth cX7_minutesOfBoth 6 (some .int) ∈ Gw := inG 1253 rfl rfl
set_option maxRecDepth 100000 in
theorem cd_X8_takes : Cond.code yX8_takes cX8_takes 5 (some .int) ∈ Gw := inG 1260 rfl rfl
set_option maxRecDepth 100000 in
theorem cd_X8_takenOn : Cond.code yX8_takenOn cX8_takenOn 3 (some .int) ∈ Gw := inG 1264 rfl rfl
set_option maxRecDepth 100000 in
theorem cd_X4_litMinutes : Cond.code yX4_litMinutes cX4_litMinutes 3 (some .int) ∈ Gw := inG 1268 rfl rfl
set_option maxRecDepth 100000 in
theorem cd_X4_moonMinutes : Cond.code yX4_moonMinutes cX4_moonMinutes 6 (some .int) ∈ Gw := inG 1272 rfl rfl
set_option maxRecDepth 100000 in
theorem cd_X4_shared : Cond.code yX4_shared cX4_shared 4 (some .int) ∈ Gw := inG 1275 rfl rfl
set_option maxRecDepth 100000 in
theorem cd_X4_sunMinutes : Cond.code yX4_sunMinutes cX4_sunMinutes 9 (some .int) ∈ Gw := inG 1281 rfl rfl
set_option maxRecDepth 100000 in
theorem cd_X9_init : Cond.code yX9_init cX9_init 1 none ∈ Gw := inG 1286 rfl rfl
set_option maxRecDepth 100000 in
theorem cd_X9_thrown : Cond.code yX9_thrown cX9_thrown 1 (some .int) ∈ Gw := inG 1467 rfl rfl
set_option maxRecDepth 100000 in
theorem cd_X9_feed : Cond.code yX9_feed cX9_feed 6 (some .int) ∈ Gw := inG 1471 rfl rfl
set_option maxRecDepth 100000 in
theorem cd_X9_lays : Cond.code yX9_lays cX9_lays 3 none ∈ Gw := inG 1475 rfl rfl
set_option maxRecDepth 100000 in
theorem cd_X9_port : Cond.code yX9_port cX9_port 3 (some .int) ∈ Gw := inG 1479 rfl rfl
set_option maxRecDepth 100000 in
theorem cd_X9_right : Cond.code yX9_right cX9_right 3 (some .boolean) ∈ Gw := inG 1483 rfl rfl
set_option maxRecDepth 100000 in
theorem cd_X9_steps : Cond.code yX9_steps cX9_steps 2 none ∈ Gw := inG 1487 rfl rfl
set_option maxRecDepth 100000 in
theorem cd_X9_byteAt : Cond.code yX9_byteAt cX9_byteAt 2 (some .int) ∈ Gw := inG 1491 rfl rfl
set_option maxRecDepth 100000 in
theorem cd_X9_isLetter : Cond.code yX9_isLetter cX9_isLetter 1 (some .boolean) ∈ Gw := inG 1494 rfl rfl
set_option maxRecDepth 100000 in
theorem cd_X9_isDigit : Cond.code yX9_isDigit cX9_isDigit 1 (some .boolean) ∈ Gw := inG 1497 rfl rfl
set_option maxRecDepth 100000 in
theorem cd_X9_isGood : Cond.code yX9_isGood cX9_isGood 1 (some .boolean) ∈ Gw := inG 1501 rfl rfl
set_option maxRecDepth 100000 in
theorem cd_X9_line : Cond.code yX9_line cX9_line 2 none ∈ Gw := inG 1505 rfl rfl
set_option maxRecDepth 100000 in
theorem cd_X9_is : Cond.code yX9_is cX9_is 2 (some .boolean) ∈ Gw := inG 1509 rfl rfl
set_option maxRecDepth 100000 in
theorem cd_X9_letters : Cond.code yX9_letters cX9_letters 1 (some .long) ∈ Gw := inG 1512 rfl rfl
set_option maxRecDepth 100000 in
theorem cd_X9_spelled : Cond.code yX9_spelled cX9_spelled 9 (some .long) ∈ Gw := inG 1515 rfl rfl
set_option maxRecDepth 100000 in
theorem cd_X9_readsDial : Cond.code yX9_readsDial cX9_readsDial 4 none ∈ Gw := inG 1520 rfl rfl
set_option maxRecDepth 100000 in
theorem cd_X9_wrong : Cond.code yX9_wrong cX9_wrong 2 none ∈ Gw := inG 1524 rfl rfl
set_option maxRecDepth 100000 in
theorem cd_X9_need : Cond.code yX9_need cX9_need 2 none ∈ Gw := inG 1528 rfl rfl
set_option maxRecDepth 100000 in
theorem cd_X9_signed : Cond.code yX9_signed cX9_signed 4 (some .int) ∈ Gw := inG 1532 rfl rfl
set_option maxRecDepth 100000 in
theorem cd_X9_number : Cond.code yX9_number cX9_number 4 (some .int) ∈ Gw := inG 1536 rfl rfl
set_option maxRecDepth 100000 in
theorem cd_X9_readsCloud : Cond.code yX9_readsCloud cX9_readsCloud 2 none ∈ Gw := inG 1540 rfl rfl
set_option maxRecDepth 100000 in
theorem cd_X9_copies : Cond.code yX9_copies cX9_copies 4 none ∈ Gw := inG 1544 rfl rfl
set_option maxRecDepth 100000 in
theorem cd_X9_fault : Cond.code yX9_fault cX9_fault 1 (some .int) ∈ Gw := inG 1548 rfl rfl
set_option maxRecDepth 100000 in
theorem cd_X9_count : Cond.code yX9_count cX9_count 2 (some .int) ∈ Gw := inG 1552 rfl rfl
set_option maxRecDepth 100000 in
theorem cd_X9_within : Cond.code yX9_within cX9_within 3 (some .boolean) ∈ Gw := inG 1555 rfl rfl
set_option maxRecDepth 100000 in
theorem cd_X9_dial : Cond.code yX9_dial cX9_dial 3 (some .int) ∈ Gw := inG 1559 rfl rfl
set_option maxRecDepth 100000 in
theorem cd_X9_isDial : Cond.code yX9_isDial cX9_isDial 2 (some .boolean) ∈ Gw := inG 1563 rfl rfl
set_option maxRecDepth 100000 in
theorem cd_X9_isWhat : Cond.code yX9_isWhat cX9_isWhat 3 (some .boolean) ∈ Gw := inG 1567 rfl rfl
set_option maxRecDepth 100000 in
theorem cd_X9_day : Cond.code yX9_day cX9_day 3 (some .int) ∈ Gw := inG 1571 rfl rfl
set_option maxRecDepth 100000 in
theorem cd_X9_isDay : Cond.code yX9_isDay cX9_isDay 2 (some .boolean) ∈ Gw := inG 1575 rfl rfl
set_option maxRecDepth 100000 in
theorem cd_X9_noon : Cond.code yX9_noon cX9_noon 2 (some .int) ∈ Gw := inG 1579 rfl rfl
set_option maxRecDepth 100000 in
theorem cd_X9_half : Cond.code yX9_half cX9_half 3 (some .int) ∈ Gw := inG 1583 rfl rfl
set_option maxRecDepth 100000 in
theorem cd_X9_off : Cond.code yX9_off cX9_off 2 (some .int) ∈ Gw := inG 1586 rfl rfl
set_option maxRecDepth 100000 in
theorem cd_X9_tells : Cond.code yX9_tells cX9_tells 4 (some .int) ∈ Gw := inG 1590 rfl rfl
set_option maxRecDepth 100000 in
theorem cd_X9_isMinute : Cond.code yX9_isMinute cX9_isMinute 2 (some .boolean) ∈ Gw := inG 1594 rfl rfl
set_option maxRecDepth 100000 in
theorem cd_X9_tellsNow : Cond.code yX9_tellsNow cX9_tellsNow 4 (some .int) ∈ Gw := inG 1598 rfl rfl
set_option maxRecDepth 100000 in
theorem cd_X9_turnOf : Cond.code yX9_turnOf cX9_turnOf 4 (some .int) ∈ Gw := inG 1602 rfl rfl
set_option maxRecDepth 100000 in
theorem cd_X9_tellsBy : Cond.code yX9_tellsBy cX9_tellsBy 11 (some .int) ∈ Gw := inG 1606 rfl rfl
set_option maxRecDepth 100000 in
theorem cd_X9_round : Cond.code yX9_round cX9_round 2 (some .int) ∈ Gw := inG 1609 rfl rfl
set_option maxRecDepth 100000 in
theorem cd_X9_lights : Cond.code yX9_lights cX9_lights 4 none ∈ Gw := inG 1613 rfl rfl
set_option maxRecDepth 100000 in
theorem cd_X9_turn : Cond.code yX9_turn cX9_turn 3 (some .int) ∈ Gw := inG 1617 rfl rfl
set_option maxRecDepth 100000 in
theorem cd_X9_read : Cond.code yX9_read cX9_read 6 (some .int) ∈ Gw := inG 1621 rfl rfl
set_option maxRecDepth 100000 in
theorem cd_X9_refuses : Cond.code yX9_refuses cX9_refuses 2 (some .int) ∈ Gw := inG 1625 rfl rfl
set_option maxRecDepth 100000 in
theorem cd_X9_unread : Cond.code yX9_unread cX9_unread 1 (some .int) ∈ Gw := inG 1629 rfl rfl
set_option maxRecDepth 100000 in
theorem cd_X9_faults : Cond.code yX9_faults cX9_faults 7 (some .int) ∈ Gw := inG 1633 rfl rfl
set_option maxRecDepth 100000 in
theorem cd_X9_seeks : Cond.code yX9_seeks cX9_seeks 3 none ∈ Gw := inG 1637 rfl rfl
set_option maxRecDepth 100000 in
theorem cd_X9_fits : Cond.code yX9_fits cX9_fits 5 (some .boolean) ∈ Gw := inG 1641 rfl rfl
set_option maxRecDepth 100000 in
theorem cd_X9_next : Cond.code yX9_next cX9_next 8 (some .int) ∈ Gw := inG 1645 rfl rfl
set_option maxRecDepth 100000 in
theorem cd_X9_greatest : Cond.code yX9_greatest cX9_greatest 7 (some .int) ∈ Gw := inG 1649 rfl rfl
set_option maxRecDepth 100000 in
theorem cd_X9_see : Cond.code yX9_see cX9_see 4 (some .int) ∈ Gw := inG 1653 rfl rfl
set_option maxRecDepth 100000 in
theorem cd_X9_forget : Cond.code yX9_forget cX9_forget 2 (some .int) ∈ Gw := inG 1657 rfl rfl
set_option maxRecDepth 100000 in
theorem cd_X9_minutes : Cond.code yX9_minutes cX9_minutes 7 (some .int) ∈ Gw := inG 1661 rfl rfl
set_option maxRecDepth 100000 in
theorem cd_X9_isSeen : Cond.code yX9_isSeen cX9_isSeen 4 (some .boolean) ∈ Gw := inG 1665 rfl rfl
set_option maxRecDepth 100000 in
theorem cd_X9_days : Cond.code yX9_days cX9_days 5 (some .int) ∈ Gw := inG 1669 rfl rfl
set_option maxRecDepth 100000 in
theorem cd_X9_late : Cond.code yX9_late cX9_late 5 (some .int) ∈ Gw := inG 1673 rfl rfl
set_option maxRecDepth 100000 in
theorem cd_X9_lateOn : Cond.code yX9_lateOn cX9_lateOn 7 (some .int) ∈ Gw := inG 1677 rfl rfl
set_option maxRecDepth 100000 in
theorem cd_X9_firstOf : Cond.code yX9_firstOf cX9_firstOf 5 (some .int) ∈ Gw := inG 1681 rfl rfl
set_option maxRecDepth 100000 in
theorem cd_X9_meet : Cond.code yX9_meet cX9_meet 10 (some .int) ∈ Gw := inG 1685 rfl rfl
set_option maxRecDepth 100000 in
theorem cd_X9_mend : Cond.code yX9_mend cX9_mend 4 (some .int) ∈ Gw := inG 1689 rfl rfl
set_option maxRecDepth 100000 in
theorem cd_X9_undo : Cond.code yX9_undo cX9_undo 1 (some .int) ∈ Gw := inG 1693 rfl rfl
set_option maxRecDepth 100000 in
theorem cd_X9_best : Cond.code yX9_best cX9_best 8 (some .int) ∈ Gw := inG 1697 rfl rfl
set_option maxRecDepth 100000 in
theorem cd_X9_wrongBy : Cond.code yX9_wrongBy cX9_wrongBy 3 (some .int) ∈ Gw := inG 1700 rfl rfl
set_option maxRecDepth 100000 in
theorem cd_X9_year : Cond.code yX9_year cX9_year 4 (some .int) ∈ Gw := inG 1704 rfl rfl
set_option maxRecDepth 100000 in
theorem cd_X9_yearOf : Cond.code yX9_yearOf cX9_yearOf 5 none ∈ Gw := inG 1708 rfl rfl
set_option maxRecDepth 100000 in
theorem cd_X9_live : Cond.code yX9_live cX9_live 6 (some .int) ∈ Gw := inG 1712 rfl rfl
set_option maxRecDepth 100000 in
theorem cd_X9_middle : Cond.code yX9_middle cX9_middle 4 (some .int) ∈ Gw := inG 1716 rfl rfl
set_option maxRecDepth 100000 in
theorem cd_X9_middleOf : Cond.code yX9_middleOf cX9_middleOf 8 (some .int) ∈ Gw := inG 1720 rfl rfl
set_option maxRecDepth 100000 in
theorem cd_X9_together : Cond.code yX9_together cX9_together 9 (some .int) ∈ Gw := inG 1724 rfl rfl
set_option maxRecDepth 100000 in
theorem cd_X9_takes : Cond.code yX9_takes cX9_takes 6 (some .int) ∈ Gw := inG 1728 rfl rfl
set_option maxRecDepth 100000 in
theorem cd_X9_law : Cond.code yX9_law cX9_law 3 (some .int) ∈ Gw := inG 1732 rfl rfl
set_option maxRecDepth 100000 in
theorem cd_X9_begins : Cond.code yX9_begins cX9_begins 4 (some .boolean) ∈ Gw := inG 1736 rfl rfl
set_option maxRecDepth 100000 in
theorem cd_X9_puts : Cond.code yX9_puts cX9_puts 2 none ∈ Gw := inG 1740 rfl rfl
set_option maxRecDepth 100000 in
theorem cd_X9_some : Cond.code yX9_some cX9_some 4 none ∈ Gw := inG 1744 rfl rfl
set_option maxRecDepth 100000 in
theorem cd_X9_isSign : Cond.code yX9_isSign cX9_isSign 2 (some .boolean) ∈ Gw := inG 1748 rfl rfl
set_option maxRecDepth 100000 in
theorem cd_X9_opens : Cond.code yX9_opens cX9_opens 3 none ∈ Gw := inG 1752 rfl rfl
set_option maxRecDepth 100000 in
theorem cd_X9_goesOn : Cond.code yX9_goesOn cX9_goesOn 4 (some .boolean) ∈ Gw := inG 1756 rfl rfl
set_option maxRecDepth 100000 in
theorem cd_X9_works : Cond.code yX9_works cX9_works 3 none ∈ Gw := inG 1760 rfl rfl
set_option maxRecDepth 100000 in
theorem cd_X9_wantsTest : Cond.code yX9_wantsTest cX9_wantsTest 2 (some .boolean) ∈ Gw := inG 1764 rfl rfl
set_option maxRecDepth 100000 in
theorem cd_X9_lawful : Cond.code yX9_lawful cX9_lawful 3 (some .int) ∈ Gw := inG 1768 rfl rfl
set_option maxRecDepth 100000 in
theorem cd_X9_toldBy : Cond.code yX9_toldBy cX9_toldBy 9 (some .int) ∈ Gw := inG 1772 rfl rfl
set_option maxRecDepth 100000 in
theorem cd_X9_judged : Cond.code yX9_judged cX9_judged 14 (some .int) ∈ Gw := inG 1776 rfl rfl
set_option maxRecDepth 100000 in
theorem cd_X9_image : Cond.code yX9_image cX9_image 1 none ∈ Gw := inG 1780 rfl rfl
set_option maxRecDepth 100000 in
theorem cd_X9_restore : Cond.code yX9_restore cX9_restore 1 (some .boolean) ∈ Gw := inG 1784 rfl rfl
theorem im0_X8_init : Cond.instanceMethod yX8_init ∈ Gw := inG 26 (by decide +kernel) rfl
theorem im0_X6_init : Cond.instanceMethod yX6_init ∈ Gw := inG 34 (by decide +kernel) rfl
theorem im0_X5_init : Cond.instanceMethod yX5_init ∈ Gw := inG 71 (by decide +kernel) rfl
theorem im0_X2_init : Cond.instanceMethod yX2_init ∈ Gw := inG 90 (by decide +kernel) rfl
theorem im0_X4_init : Cond.instanceMethod yX4_init ∈ Gw := inG 106 (by decide +kernel) rfl
theorem im0_X1_init : Cond.instanceMethod yX1_init ∈ Gw := inG 171 (by decide +kernel) rfl
theorem im0_X3_init : Cond.instanceMethod yX3_init ∈ Gw := inG 202 (by decide +kernel) rfl
theorem sm_J7_fill_53178 : Cond.static yJ7_fill_53178 ∈ Gw := inG 206 (by decide +kernel) rfl
theorem im0_X0_init : Cond.instanceMethod yX0_init ∈ Gw := inG 254 (by decide +kernel) rfl
theorem im0_X7_init : Cond.instanceMethod yX7_init ∈ Gw := inG 274 (by decide +kernel) rfl
theorem im_X8_feed : Cond.instanceMethod yX8_feed ∈ Gw ∧ Cond.selects yX8_feed.cls yX8_feed yX8_feed ∈ Gw := ⟨inG 377 (by decide +kernel) rfl, inG 378 (by decide +kernel) rfl⟩
theorem im_X8_putBytes : Cond.instanceMethod yX8_putBytes ∈ Gw ∧ Cond.selects yX8_putBytes.cls yX8_putBytes yX8_putBytes ∈ Gw := ⟨inG 382 (by decide +kernel) rfl, inGs 0 (by decide +kernel) rfl⟩
theorem im_X8_fault : Cond.instanceMethod yX8_fault ∈ Gw ∧ Cond.selects yX8_fault.cls yX8_fault yX8_fault ∈ Gw := ⟨inG 385 (by decide +kernel) rfl, inG 386 (by decide +kernel) rfl⟩
theorem im_X8_unread : Cond.instanceMethod yX8_unread ∈ Gw ∧ Cond.selects yX8_unread.cls yX8_unread yX8_unread ∈ Gw := ⟨inG 389 (by decide +kernel) rfl, inG 390 (by decide +kernel) rfl⟩
theorem im_X8_forget : Cond.instanceMethod yX8_forget ∈ Gw ∧ Cond.selects yX8_forget.cls yX8_forget yX8_forget ∈ Gw := ⟨inG 393 (by decide +kernel) rfl, inG 394 (by decide +kernel) rfl⟩
theorem im_X3_clearSeen : Cond.instanceMethod yX3_clearSeen ∈ Gw ∧ Cond.selects yX3_clearSeen.cls yX3_clearSeen yX3_clearSeen ∈ Gw := ⟨inG 397 (by decide +kernel) rfl, inG 398 (by decide +kernel) rfl⟩
theorem im_X8_undo : Cond.instanceMethod yX8_undo ∈ Gw ∧ Cond.selects yX8_undo.cls yX8_undo yX8_undo ∈ Gw := ⟨inG 401 (by decide +kernel) rfl, inG 402 (by decide +kernel) rfl⟩
theorem im_X8_image : Cond.instanceMethod yX8_image ∈ Gw ∧ Cond.selects yX8_image.cls yX8_image yX8_image ∈ Gw := ⟨inG 405 (by decide +kernel) rfl, inG 406 (by decide +kernel) rfl⟩
theorem im_X3_copyFrom : Cond.instanceMethod yX3_copyFrom ∈ Gw ∧ Cond.selects yX3_copyFrom.cls yX3_copyFrom yX3_copyFrom ∈ Gw := ⟨inG 409 (by decide +kernel) rfl, inG 410 (by decide +kernel) rfl⟩
theorem im_X8_restore : Cond.instanceMethod yX8_restore ∈ Gw ∧ Cond.selects yX8_restore.cls yX8_restore yX8_restore ∈ Gw := ⟨inG 416 (by decide +kernel) rfl, inG 417 (by decide +kernel) rfl⟩
theorem im_X8_port : Cond.instanceMethod yX8_port ∈ Gw ∧ Cond.selects yX8_port.cls yX8_port yX8_port ∈ Gw := ⟨inG 424 (by decide +kernel) rfl, inG 425 (by decide +kernel) rfl⟩
theorem im_X8_needTaped : Cond.instanceMethod yX8_needTaped ∈ Gw ∧ Cond.selects yX8_needTaped.cls yX8_needTaped yX8_needTaped ∈ Gw := ⟨inG 429 (by decide +kernel) rfl, inGs 1 (by decide +kernel) rfl⟩
theorem im_X6_begin : Cond.instanceMethod yX6_begin ∈ Gw ∧ Cond.selects yX6_begin.cls yX6_begin yX6_begin ∈ Gw := ⟨inG 498 (by decide +kernel) rfl, inG 499 (by decide +kernel) rfl⟩
theorem sm_J9_min_7cf53 : Cond.static yJ9_min_7cf53 ∈ Gw := inG 502 (by decide +kernel) rfl
theorem sm_J9_max_7cf53 : Cond.static yJ9_max_7cf53 ∈ Gw := inG 505 (by decide +kernel) rfl
theorem im_X6_advance : Cond.instanceMethod yX6_advance ∈ Gw ∧ Cond.selects yX6_advance.cls yX6_advance yX6_advance ∈ Gw := ⟨inG 508 (by decide +kernel) rfl, inG 509 (by decide +kernel) rfl⟩
theorem sm_X6_isLetter : Cond.static yX6_isLetter ∈ Gw := inG 512 (by decide +kernel) rfl
theorem sm_X6_isDigit : Cond.static yX6_isDigit ∈ Gw := inG 515 (by decide +kernel) rfl
theorem im_X5_readInto : Cond.instanceMethod yX5_readInto ∈ Gw ∧ Cond.selects yX5_readInto.cls yX5_readInto yX5_readInto ∈ Gw := ⟨inG 518 (by decide +kernel) rfl, inG 519 (by decide +kernel) rfl⟩
theorem im_X4_clear : Cond.instanceMethod yX4_clear ∈ Gw ∧ Cond.selects yX4_clear.cls yX4_clear yX4_clear ∈ Gw := ⟨inG 522 (by decide +kernel) rfl, inG 523 (by decide +kernel) rfl⟩
theorem im_X6_isEnd : Cond.instanceMethod yX6_isEnd ∈ Gw ∧ Cond.selects yX6_isEnd.cls yX6_isEnd yX6_isEnd ∈ Gw := ⟨inG 527 (by decide +kernel) rfl, inG 528 (by decide +kernel) rfl⟩
theorem im_X5_readLine : Cond.instanceMethod yX5_readLine ∈ Gw ∧ Cond.selects yX5_readLine.cls yX5_readLine yX5_readLine ∈ Gw := ⟨inG 532 (by decide +kernel) rfl, inGs 3 (by decide +kernel) rfl⟩
theorem im_X6_isWord : Cond.instanceMethod yX6_isWord ∈ Gw ∧ Cond.selects yX6_isWord.cls yX6_isWord yX6_isWord ∈ Gw := ⟨inG 536 (by decide +kernel) rfl, inG 537 (by decide +kernel) rfl⟩
theorem im_J0_length_8abf5 : Cond.instanceMethod yJ0_length_8abf5 ∈ Gw ∧ Cond.selects yJ0_length_8abf5.cls yJ0_length_8abf5 yJ0_length_8abf5 ∈ Gw := ⟨inG 540 (by decide +kernel) rfl, inG 541 (by decide +kernel) rfl⟩
theorem im_J0_coder_7d493 : Cond.instanceMethod yJ0_coder_7d493 ∈ Gw ∧ Cond.selects yJ0_coder_7d493.cls yJ0_coder_7d493 yJ0_coder_7d493 ∈ Gw := ⟨inG 544 (by decide +kernel) rfl, inG 545 (by decide +kernel) rfl⟩
theorem im_J0_charAt_5068e : Cond.instanceMethod yJ0_charAt_5068e ∈ Gw ∧ Cond.selects yJ0_charAt_5068e.cls yJ0_charAt_5068e yJ0_charAt_5068e ∈ Gw := ⟨inG 550 (by decide +kernel) rfl, inG 551 (by decide +kernel) rfl⟩
theorem im_J0_isLatin1_aae02 : Cond.instanceMethod yJ0_isLatin1_aae02 ∈ Gw ∧ Cond.selects yJ0_isLatin1_aae02.cls yJ0_isLatin1_aae02 yJ0_isLatin1_aae02 ∈ Gw := ⟨inG 554 (by decide +kernel) rfl, inG 555 (by decide +kernel) rfl⟩
theorem sm_J1_charAt_3b067 : Cond.static yJ1_charAt_3b067 ∈ Gw := inG 558 (by decide +kernel) rfl
theorem sm_J0_checkIndex_df160 : Cond.static yJ0_checkIndex_df160 ∈ Gw := inG 561 (by decide +kernel) rfl
theorem sm_J3_checkIndex_8e157 : Cond.static yJ3_checkIndex_8e157 ∈ Gw := inG 566 (by decide +kernel) rfl
theorem sm_J2_charAt_3b067 : Cond.static yJ2_charAt_3b067 ∈ Gw := inG 569 (by decide +kernel) rfl
theorem sm_J2_checkIndex_2214a : Cond.static yJ2_checkIndex_2214a ∈ Gw := inG 572 (by decide +kernel) rfl
theorem sm_J2_length_9d52b : Cond.static yJ2_length_9d52b ∈ Gw := inG 575 (by decide +kernel) rfl
theorem sm_J2_getChar_3b067 : Cond.static yJ2_getChar_3b067 ∈ Gw := inG 579 (by decide +kernel) rfl
theorem im_X5_readDial : Cond.instanceMethod yX5_readDial ∈ Gw ∧ Cond.selects yX5_readDial.cls yX5_readDial yX5_readDial ∈ Gw := ⟨inG 589 (by decide +kernel) rfl, inGs 4 (by decide +kernel) rfl⟩
theorem im_X6_refuse : Cond.instanceMethod yX6_refuse ∈ Gw ∧ Cond.selects yX6_refuse.cls yX6_refuse yX6_refuse ∈ Gw := ⟨inG 592 (by decide +kernel) rfl, inG 593 (by decide +kernel) rfl⟩
theorem im_X5_kindHere : Cond.instanceMethod yX5_kindHere ∈ Gw ∧ Cond.selects yX5_kindHere.cls yX5_kindHere yX5_kindHere ∈ Gw := ⟨inG 598 (by decide +kernel) rfl, inGs 5 (by decide +kernel) rfl⟩
theorem im_X6_takeSigned : Cond.instanceMethod yX6_takeSigned ∈ Gw ∧ Cond.selects yX6_takeSigned.cls yX6_takeSigned yX6_takeSigned ∈ Gw := ⟨inG 607 (by decide +kernel) rfl, inG 608 (by decide +kernel) rfl⟩
theorem im_X6_isSign : Cond.instanceMethod yX6_isSign ∈ Gw ∧ Cond.selects yX6_isSign.cls yX6_isSign yX6_isSign ∈ Gw := ⟨inG 611 (by decide +kernel) rfl, inG 612 (by decide +kernel) rfl⟩
theorem im_X6_takeNumber : Cond.instanceMethod yX6_takeNumber ∈ Gw ∧ Cond.selects yX6_takeNumber.cls yX6_takeNumber yX6_takeNumber ∈ Gw := ⟨inG 615 (by decide +kernel) rfl, inG 616 (by decide +kernel) rfl⟩
theorem im_X6_holdsNumber : Cond.instanceMethod yX6_holdsNumber ∈ Gw ∧ Cond.selects yX6_holdsNumber.cls yX6_holdsNumber yX6_holdsNumber ∈ Gw := ⟨inG 619 (by decide +kernel) rfl, inG 620 (by decide +kernel) rfl⟩
theorem im_X5_readGrown : Cond.instanceMethod yX5_readGrown ∈ Gw ∧ Cond.selects yX5_readGrown.cls yX5_readGrown yX5_readGrown ∈ Gw := ⟨inG 625 (by decide +kernel) rfl, inGs 6 (by decide +kernel) rfl⟩
theorem im_X5_readLimps : Cond.instanceMethod yX5_readLimps ∈ Gw ∧ Cond.selects yX5_readLimps.cls yX5_readLimps yX5_readLimps ∈ Gw := ⟨inG 632 (by decide +kernel) rfl, inGs 7 (by decide +kernel) rfl⟩
theorem im_X5_readSwing : Cond.instanceMethod yX5_readSwing ∈ Gw ∧ Cond.selects yX5_readSwing.cls yX5_readSwing yX5_readSwing ∈ Gw := ⟨inG 637 (by decide +kernel) rfl, inGs 8 (by decide +kernel) rfl⟩
theorem im_X5_readCloud : Cond.instanceMethod yX5_readCloud ∈ Gw ∧ Cond.selects yX5_readCloud.cls yX5_readCloud yX5_readCloud ∈ Gw := ⟨inG 642 (by decide +kernel) rfl, inGs 9 (by decide +kernel) rfl⟩
theorem im_X4_addCloud : Cond.instanceMethod yX4_addCloud ∈ Gw ∧ Cond.selects yX4_addCloud.cls yX4_addCloud yX4_addCloud ∈ Gw := ⟨inG 645 (by decide +kernel) rfl, inG 646 (by decide +kernel) rfl⟩
theorem im_X6_takeSign : Cond.instanceMethod yX6_takeSign ∈ Gw ∧ Cond.selects yX6_takeSign.cls yX6_takeSign yX6_takeSign ∈ Gw := ⟨inG 649 (by decide +kernel) rfl, inG 650 (by decide +kernel) rfl⟩
theorem im_X8_refuseText : Cond.instanceMethod yX8_refuseText ∈ Gw ∧ Cond.selects yX8_refuseText.cls yX8_refuseText yX8_refuseText ∈ Gw := ⟨inG 654 (by decide +kernel) rfl, inGs 10 (by decide +kernel) rfl⟩
theorem im_X3_clear : Cond.instanceMethod yX3_clear ∈ Gw ∧ Cond.selects yX3_clear.cls yX3_clear yX3_clear ∈ Gw := ⟨inG 657 (by decide +kernel) rfl, inG 658 (by decide +kernel) rfl⟩
theorem im_X8_law : Cond.instanceMethod yX8_law ∈ Gw ∧ Cond.selects yX8_law.cls yX8_law yX8_law ∈ Gw := ⟨inG 665 (by decide +kernel) rfl, inG 666 (by decide +kernel) rfl⟩
theorem im_X2_readInto : Cond.instanceMethod yX2_readInto ∈ Gw ∧ Cond.selects yX2_readInto.cls yX2_readInto yX2_readInto ∈ Gw := ⟨inG 669 (by decide +kernel) rfl, inG 670 (by decide +kernel) rfl⟩
theorem im_X1_clear : Cond.instanceMethod yX1_clear ∈ Gw ∧ Cond.selects yX1_clear.cls yX1_clear yX1_clear ∈ Gw := ⟨inG 673 (by decide +kernel) rfl, inG 674 (by decide +kernel) rfl⟩
theorem im_X2_readTime : Cond.instanceMethod yX2_readTime ∈ Gw ∧ Cond.selects yX2_readTime.cls yX2_readTime yX2_readTime ∈ Gw := ⟨inG 678 (by decide +kernel) rfl, inGs 11 (by decide +kernel) rfl⟩
theorem im_X2_canBegin : Cond.instanceMethod yX2_canBegin ∈ Gw ∧ Cond.selects yX2_canBegin.cls yX2_canBegin yX2_canBegin ∈ Gw := ⟨inG 682 (by decide +kernel) rfl, inGs 12 (by decide +kernel) rfl⟩
theorem im_X6_isAnyWord : Cond.instanceMethod yX6_isAnyWord ∈ Gw ∧ Cond.selects yX6_isAnyWord.cls yX6_isAnyWord yX6_isAnyWord ∈ Gw := ⟨inG 685 (by decide +kernel) rfl, inG 686 (by decide +kernel) rfl⟩
theorem im_X2_readDial : Cond.instanceMethod yX2_readDial ∈ Gw ∧ Cond.selects yX2_readDial.cls yX2_readDial yX2_readDial ∈ Gw := ⟨inG 693 (by decide +kernel) rfl, inGs 13 (by decide +kernel) rfl⟩
theorem im_X2_open : Cond.instanceMethod yX2_open ∈ Gw ∧ Cond.selects yX2_open.cls yX2_open yX2_open ∈ Gw := ⟨inG 697 (by decide +kernel) rfl, inGs 14 (by decide +kernel) rfl⟩
theorem im_X1_addNode : Cond.instanceMethod yX1_addNode ∈ Gw ∧ Cond.selects yX1_addNode.cls yX1_addNode yX1_addNode ∈ Gw := ⟨inG 701 (by decide +kernel) rfl, inG 702 (by decide +kernel) rfl⟩
theorem im_X1_setValue : Cond.instanceMethod yX1_setValue ∈ Gw ∧ Cond.selects yX1_setValue.cls yX1_setValue yX1_setValue ∈ Gw := ⟨inG 706 (by decide +kernel) rfl, inG 707 (by decide +kernel) rfl⟩
theorem im_X1_isNode : Cond.instanceMethod yX1_isNode ∈ Gw ∧ Cond.selects yX1_isNode.cls yX1_isNode yX1_isNode ∈ Gw := ⟨inG 711 (by decide +kernel) rfl, inGs 15 (by decide +kernel) rfl⟩
theorem im_X2_readMiddle : Cond.instanceMethod yX2_readMiddle ∈ Gw ∧ Cond.selects yX2_readMiddle.cls yX2_readMiddle yX2_readMiddle ∈ Gw := ⟨inG 716 (by decide +kernel) rfl, inGs 16 (by decide +kernel) rfl⟩
theorem im_X2_takeOther : Cond.instanceMethod yX2_takeOther ∈ Gw ∧ Cond.selects yX2_takeOther.cls yX2_takeOther yX2_takeOther ∈ Gw := ⟨inG 721 (by decide +kernel) rfl, inGs 17 (by decide +kernel) rfl⟩
theorem im_X2_readFirst : Cond.instanceMethod yX2_readFirst ∈ Gw ∧ Cond.selects yX2_readFirst.cls yX2_readFirst yX2_readFirst ∈ Gw := ⟨inG 728 (by decide +kernel) rfl, inGs 18 (by decide +kernel) rfl⟩
theorem im_X2_addPart : Cond.instanceMethod yX2_addPart ∈ Gw ∧ Cond.selects yX2_addPart.cls yX2_addPart yX2_addPart ∈ Gw := ⟨inG 732 (by decide +kernel) rfl, inGs 19 (by decide +kernel) rfl⟩
theorem im_X1_addPart : Cond.instanceMethod yX1_addPart ∈ Gw ∧ Cond.selects yX1_addPart.cls yX1_addPart yX1_addPart ∈ Gw := ⟨inG 735 (by decide +kernel) rfl, inG 736 (by decide +kernel) rfl⟩
theorem im_X2_readCouple : Cond.instanceMethod yX2_readCouple ∈ Gw ∧ Cond.selects yX2_readCouple.cls yX2_readCouple yX2_readCouple ∈ Gw := ⟨inG 741 (by decide +kernel) rfl, inGs 20 (by decide +kernel) rfl⟩
theorem im_X2_readLate : Cond.instanceMethod yX2_readLate ∈ Gw ∧ Cond.selects yX2_readLate.cls yX2_readLate yX2_readLate ∈ Gw := ⟨inG 746 (by decide +kernel) rfl, inGs 21 (by decide +kernel) rfl⟩
theorem im_X2_readIf : Cond.instanceMethod yX2_readIf ∈ Gw ∧ Cond.selects yX2_readIf.cls yX2_readIf yX2_readIf ∈ Gw := ⟨inG 752 (by decide +kernel) rfl, inGs 22 (by decide +kernel) rfl⟩
theorem im_X2_readTest : Cond.instanceMethod yX2_readTest ∈ Gw ∧ Cond.selects yX2_readTest.cls yX2_readTest yX2_readTest ∈ Gw := ⟨inG 756 (by decide +kernel) rfl, inGs 23 (by decide +kernel) rfl⟩
theorem im_X2_readNot : Cond.instanceMethod yX2_readNot ∈ Gw ∧ Cond.selects yX2_readNot.cls yX2_readNot yX2_readNot ∈ Gw := ⟨inG 761 (by decide +kernel) rfl, inGs 24 (by decide +kernel) rfl⟩
theorem im_X2_readDark : Cond.instanceMethod yX2_readDark ∈ Gw ∧ Cond.selects yX2_readDark.cls yX2_readDark yX2_readDark ∈ Gw := ⟨inG 766 (by decide +kernel) rfl, inGs 25 (by decide +kernel) rfl⟩
theorem im_X2_readMonth : Cond.instanceMethod yX2_readMonth ∈ Gw ∧ Cond.selects yX2_readMonth.cls yX2_readMonth yX2_readMonth ∈ Gw := ⟨inG 771 (by decide +kernel) rfl, inGs 26 (by decide +kernel) rfl⟩
theorem im_X6_takeWord : Cond.instanceMethod yX6_takeWord ∈ Gw ∧ Cond.selects yX6_takeWord.cls yX6_takeWord yX6_takeWord ∈ Gw := ⟨inG 776 (by decide +kernel) rfl, inG 777 (by decide +kernel) rfl⟩
theorem im_X8_lawful : Cond.instanceMethod yX8_lawful ∈ Gw ∧ Cond.selects yX8_lawful.cls yX8_lawful yX8_lawful ∈ Gw := ⟨inG 788 (by decide +kernel) rfl, inG 789 (by decide +kernel) rfl⟩
theorem sm_X8_needDay : Cond.static yX8_needDay ∈ Gw := inG 792 (by decide +kernel) rfl
theorem sm_X8_needMinute : Cond.static yX8_needMinute ∈ Gw := inG 811 (by decide +kernel) rfl
theorem im_X8_needLaw : Cond.instanceMethod yX8_needLaw ∈ Gw ∧ Cond.selects yX8_needLaw.cls yX8_needLaw yX8_needLaw ∈ Gw := ⟨inG 816 (by decide +kernel) rfl, inGs 27 (by decide +kernel) rfl⟩
theorem im_X8_lawTells : Cond.instanceMethod yX8_lawTells ∈ Gw ∧ Cond.selects yX8_lawTells.cls yX8_lawTells yX8_lawTells ∈ Gw := ⟨inG 821 (by decide +kernel) rfl, inGs 28 (by decide +kernel) rfl⟩
theorem im_X8_fillTolds : Cond.instanceMethod yX8_fillTolds ∈ Gw ∧ Cond.selects yX8_fillTolds.cls yX8_fillTolds yX8_fillTolds ∈ Gw := ⟨inG 825 (by decide +kernel) rfl, inGs 29 (by decide +kernel) rfl⟩
theorem im_X8_toldNow : Cond.instanceMethod yX8_toldNow ∈ Gw ∧ Cond.selects yX8_toldNow.cls yX8_toldNow yX8_toldNow ∈ Gw := ⟨inG 829 (by decide +kernel) rfl, inGs 30 (by decide +kernel) rfl⟩
theorem im_X8_turnOn : Cond.instanceMethod yX8_turnOn ∈ Gw ∧ Cond.selects yX8_turnOn.cls yX8_turnOn yX8_turnOn ∈ Gw := ⟨inG 833 (by decide +kernel) rfl, inGs 31 (by decide +kernel) rfl⟩
theorem im_X3_turnBy : Cond.instanceMethod yX3_turnBy ∈ Gw ∧ Cond.selects yX3_turnBy.cls yX3_turnBy yX3_turnBy ∈ Gw := ⟨inG 836 (by decide +kernel) rfl, inG 837 (by decide +kernel) rfl⟩
theorem im_X4_toldBy : Cond.instanceMethod yX4_toldBy ∈ Gw ∧ Cond.selects yX4_toldBy.cls yX4_toldBy yX4_toldBy ∈ Gw := ⟨inG 840 (by decide +kernel) rfl, inG 841 (by decide +kernel) rfl⟩
theorem im_X4_plainlyTold : Cond.instanceMethod yX4_plainlyTold ∈ Gw ∧ Cond.selects yX4_plainlyTold.cls yX4_plainlyTold yX4_plainlyTold ∈ Gw := ⟨inG 844 (by decide +kernel) rfl, inG 845 (by decide +kernel) rfl⟩
theorem im_X4_isGrown : Cond.instanceMethod yX4_isGrown ∈ Gw ∧ Cond.selects yX4_isGrown.cls yX4_isGrown yX4_isGrown ∈ Gw := ⟨inG 849 (by decide +kernel) rfl, inGs 32 (by decide +kernel) rfl⟩
theorem im_X4_moonAngle : Cond.instanceMethod yX4_moonAngle ∈ Gw ∧ Cond.selects yX4_moonAngle.cls yX4_moonAngle yX4_moonAngle ∈ Gw := ⟨inG 853 (by decide +kernel) rfl, inGs 33 (by decide +kernel) rfl⟩
theorem sm_X4_hasMoon : Cond.static yX4_hasMoon ∈ Gw := inG 856 (by decide +kernel) rfl
theorem sm_X4_ageOf : Cond.static yX4_ageOf ∈ Gw := inG 859 (by decide +kernel) rfl
theorem im_X4_noonOf : Cond.instanceMethod yX4_noonOf ∈ Gw ∧ Cond.selects yX4_noonOf.cls yX4_noonOf yX4_noonOf ∈ Gw := ⟨inG 862 (by decide +kernel) rfl, inG 863 (by decide +kernel) rfl⟩
theorem sm_J9_abs_0f7a4 : Cond.static yJ9_abs_0f7a4 ∈ Gw := inG 866 (by decide +kernel) rfl
theorem im_X4_halfOf : Cond.instanceMethod yX4_halfOf ∈ Gw ∧ Cond.selects yX4_halfOf.cls yX4_halfOf yX4_halfOf ∈ Gw := ⟨inG 869 (by decide +kernel) rfl, inG 870 (by decide +kernel) rfl⟩
theorem sm_X4_moonNoonOf : Cond.static yX4_moonNoonOf ∈ Gw := inG 874 (by decide +kernel) rfl
theorem sm_X8_around : Cond.static yX8_around ∈ Gw := inG 877 (by decide +kernel) rfl
theorem sm_J9_floorMod_7cf53 : Cond.static yJ9_floorMod_7cf53 ∈ Gw := inG 880 (by decide +kernel) rfl
theorem im_X4_sunAngle : Cond.instanceMethod yX4_sunAngle ∈ Gw ∧ Cond.selects yX4_sunAngle.cls yX4_sunAngle yX4_sunAngle ∈ Gw := ⟨inG 884 (by decide +kernel) rfl, inGs 34 (by decide +kernel) rfl⟩
theorem im_X4_isClouded : Cond.instanceMethod yX4_isClouded ∈ Gw ∧ Cond.selects yX4_isClouded.cls yX4_isClouded yX4_isClouded ∈ Gw := ⟨inG 888 (by decide +kernel) rfl, inGs 35 (by decide +kernel) rfl⟩
theorem sm_X4_hasTilt : Cond.static yX4_hasTilt ∈ Gw := inG 891 (by decide +kernel) rfl
theorem im_X1_tellsBy : Cond.instanceMethod yX1_tellsBy ∈ Gw ∧ Cond.selects yX1_tellsBy.cls yX1_tellsBy yX1_tellsBy ∈ Gw := ⟨inG 895 (by decide +kernel) rfl, inG 896 (by decide +kernel) rfl⟩
theorem im_X1_timeAt : Cond.instanceMethod yX1_timeAt ∈ Gw ∧ Cond.selects yX1_timeAt.cls yX1_timeAt yX1_timeAt ∈ Gw := ⟨inG 900 (by decide +kernel) rfl, inGs 36 (by decide +kernel) rfl⟩
theorem im_X1_toldBy : Cond.instanceMethod yX1_toldBy ∈ Gw ∧ Cond.selects yX1_toldBy.cls yX1_toldBy yX1_toldBy ∈ Gw := ⟨inG 904 (by decide +kernel) rfl, inGs 37 (by decide +kernel) rfl⟩
theorem sm_X8_middleOf : Cond.static yX8_middleOf ∈ Gw := inG 907 (by decide +kernel) rfl
theorem im_X1_firstAt : Cond.instanceMethod yX1_firstAt ∈ Gw ∧ Cond.selects yX1_firstAt.cls yX1_firstAt yX1_firstAt ∈ Gw := ⟨inG 911 (by decide +kernel) rfl, inGs 38 (by decide +kernel) rfl⟩
theorem im_X1_partAt : Cond.instanceMethod yX1_partAt ∈ Gw ∧ Cond.selects yX1_partAt.cls yX1_partAt yX1_partAt ∈ Gw := ⟨inG 915 (by decide +kernel) rfl, inGs 39 (by decide +kernel) rfl⟩
theorem im_X1_meanAt : Cond.instanceMethod yX1_meanAt ∈ Gw ∧ Cond.selects yX1_meanAt.cls yX1_meanAt yX1_meanAt ∈ Gw := ⟨inG 919 (by decide +kernel) rfl, inGs 40 (by decide +kernel) rfl⟩
theorem im_X1_laterAt : Cond.instanceMethod yX1_laterAt ∈ Gw ∧ Cond.selects yX1_laterAt.cls yX1_laterAt yX1_laterAt ∈ Gw := ⟨inG 923 (by decide +kernel) rfl, inGs 41 (by decide +kernel) rfl⟩
theorem im_X1_chosenAt : Cond.instanceMethod yX1_chosenAt ∈ Gw ∧ Cond.selects yX1_chosenAt.cls yX1_chosenAt yX1_chosenAt ∈ Gw := ⟨inG 928 (by decide +kernel) rfl, inGs 42 (by decide +kernel) rfl⟩
theorem im_X1_testAt : Cond.instanceMethod yX1_testAt ∈ Gw ∧ Cond.selects yX1_testAt.cls yX1_testAt yX1_testAt ∈ Gw := ⟨inG 932 (by decide +kernel) rfl, inGs 43 (by decide +kernel) rfl⟩
theorem im_X1_isBefore : Cond.instanceMethod yX1_isBefore ∈ Gw ∧ Cond.selects yX1_isBefore.cls yX1_isBefore yX1_isBefore ∈ Gw := ⟨inG 936 (by decide +kernel) rfl, inGs 44 (by decide +kernel) rfl⟩
theorem im_X8_judged : Cond.instanceMethod yX8_judged ∈ Gw ∧ Cond.selects yX8_judged.cls yX8_judged yX8_judged ∈ Gw := ⟨inG 942 (by decide +kernel) rfl, inG 943 (by decide +kernel) rfl⟩
theorem sm_X8_needWhat : Cond.static yX8_needWhat ∈ Gw := inG 946 (by decide +kernel) rfl
theorem im_X7_clear : Cond.instanceMethod yX7_clear ∈ Gw ∧ Cond.selects yX7_clear.cls yX7_clear yX7_clear ∈ Gw := ⟨inG 950 (by decide +kernel) rfl, inG 951 (by decide +kernel) rfl⟩
theorem im_X7_add : Cond.instanceMethod yX7_add ∈ Gw ∧ Cond.selects yX7_add.cls yX7_add yX7_add ∈ Gw := ⟨inG 954 (by decide +kernel) rfl, inG 955 (by decide +kernel) rfl⟩
theorem sm_X8_wrongBy : Cond.static yX8_wrongBy ∈ Gw := inG 958 (by decide +kernel) rfl
theorem im_X8_isBeaten : Cond.instanceMethod yX8_isBeaten ∈ Gw ∧ Cond.selects yX8_isBeaten.cls yX8_isBeaten yX8_isBeaten ∈ Gw := ⟨inG 964 (by decide +kernel) rfl, inGs 45 (by decide +kernel) rfl⟩
theorem im_X8_count : Cond.instanceMethod yX8_count ∈ Gw ∧ Cond.selects yX8_count.cls yX8_count yX8_count ∈ Gw := ⟨inG 971 (by decide +kernel) rfl, inG 972 (by decide +kernel) rfl⟩
theorem im_X8_dial : Cond.instanceMethod yX8_dial ∈ Gw ∧ Cond.selects yX8_dial.cls yX8_dial yX8_dial ∈ Gw := ⟨inG 979 (by decide +kernel) rfl, inG 980 (by decide +kernel) rfl⟩
theorem im_X8_needDial : Cond.instanceMethod yX8_needDial ∈ Gw ∧ Cond.selects yX8_needDial.cls yX8_needDial yX8_needDial ∈ Gw := ⟨inG 984 (by decide +kernel) rfl, inGs 46 (by decide +kernel) rfl⟩
theorem im_X8_day : Cond.instanceMethod yX8_day ∈ Gw ∧ Cond.selects yX8_day.cls yX8_day yX8_day ∈ Gw := ⟨inG 991 (by decide +kernel) rfl, inG 992 (by decide +kernel) rfl⟩
theorem im_X8_tells : Cond.instanceMethod yX8_tells ∈ Gw ∧ Cond.selects yX8_tells.cls yX8_tells yX8_tells ∈ Gw := ⟨inG 1000 (by decide +kernel) rfl, inG 1001 (by decide +kernel) rfl⟩
theorem im_X8_turn : Cond.instanceMethod yX8_turn ∈ Gw ∧ Cond.selects yX8_turn.cls yX8_turn yX8_turn ∈ Gw := ⟨inG 1007 (by decide +kernel) rfl, inG 1008 (by decide +kernel) rfl⟩
theorem im_X8_read : Cond.instanceMethod yX8_read ∈ Gw ∧ Cond.selects yX8_read.cls yX8_read yX8_read ∈ Gw := ⟨inG 1014 (by decide +kernel) rfl, inG 1015 (by decide +kernel) rfl⟩
theorem im_X3_addReading : Cond.instanceMethod yX3_addReading ∈ Gw ∧ Cond.selects yX3_addReading.cls yX3_addReading yX3_addReading ∈ Gw := ⟨inG 1018 (by decide +kernel) rfl, inG 1019 (by decide +kernel) rfl⟩
theorem im_X8_faults : Cond.instanceMethod yX8_faults ∈ Gw ∧ Cond.selects yX8_faults.cls yX8_faults yX8_faults ∈ Gw := ⟨inG 1025 (by decide +kernel) rfl, inG 1026 (by decide +kernel) rfl⟩
theorem im_X0_weigh : Cond.instanceMethod yX0_weigh ∈ Gw ∧ Cond.selects yX0_weigh.cls yX0_weigh yX0_weigh ∈ Gw := ⟨inG 1029 (by decide +kernel) rfl, inG 1030 (by decide +kernel) rfl⟩
theorem im_X3_firstReadingOf : Cond.instanceMethod yX3_firstReadingOf ∈ Gw ∧ Cond.selects yX3_firstReadingOf.cls yX3_firstReadingOf yX3_firstReadingOf ∈ Gw := ⟨inG 1033 (by decide +kernel) rfl, inG 1034 (by decide +kernel) rfl⟩
theorem im_X0_weighTilt : Cond.instanceMethod yX0_weighTilt ∈ Gw ∧ Cond.selects yX0_weighTilt.cls yX0_weighTilt yX0_weighTilt ∈ Gw := ⟨inG 1038 (by decide +kernel) rfl, inGs 47 (by decide +kernel) rfl⟩
theorem sm_X0_tellsAllReadings : Cond.static yX0_tellsAllReadings ∈ Gw := inG 1044 (by decide +kernel) rfl
theorem im_X0_leastTurn : Cond.instanceMethod yX0_leastTurn ∈ Gw ∧ Cond.selects yX0_leastTurn.cls yX0_leastTurn yX0_leastTurn ∈ Gw := ⟨inG 1049 (by decide +kernel) rfl, inG 1050 (by decide +kernel) rfl⟩
theorem im_X0_isEmpty : Cond.instanceMethod yX0_isEmpty ∈ Gw ∧ Cond.selects yX0_isEmpty.cls yX0_isEmpty yX0_isEmpty ∈ Gw := ⟨inG 1054 (by decide +kernel) rfl, inGs 48 (by decide +kernel) rfl⟩
theorem im_X0_greatestTurn : Cond.instanceMethod yX0_greatestTurn ∈ Gw ∧ Cond.selects yX0_greatestTurn.cls yX0_greatestTurn yX0_greatestTurn ∈ Gw := ⟨inG 1058 (by decide +kernel) rfl, inG 1059 (by decide +kernel) rfl⟩
theorem im_X0_leastTilt : Cond.instanceMethod yX0_leastTilt ∈ Gw ∧ Cond.selects yX0_leastTilt.cls yX0_leastTilt yX0_leastTilt ∈ Gw := ⟨inG 1063 (by decide +kernel) rfl, inG 1064 (by decide +kernel) rfl⟩
theorem im_X0_greatestTilt : Cond.instanceMethod yX0_greatestTilt ∈ Gw ∧ Cond.selects yX0_greatestTilt.cls yX0_greatestTilt yX0_greatestTilt ∈ Gw := ⟨inG 1067 (by decide +kernel) rfl, inG 1068 (by decide +kernel) rfl⟩
theorem im_X8_next : Cond.instanceMethod yX8_next ∈ Gw ∧ Cond.selects yX8_next.cls yX8_next yX8_next ∈ Gw := ⟨inG 1074 (by decide +kernel) rfl, inG 1075 (by decide +kernel) rfl⟩
theorem im_X0_greatestGroup : Cond.instanceMethod yX0_greatestGroup ∈ Gw ∧ Cond.selects yX0_greatestGroup.cls yX0_greatestGroup yX0_greatestGroup ∈ Gw := ⟨inG 1078 (by decide +kernel) rfl, inG 1079 (by decide +kernel) rfl⟩
theorem im_X0_couplesOfTurn : Cond.instanceMethod yX0_couplesOfTurn ∈ Gw ∧ Cond.selects yX0_couplesOfTurn.cls yX0_couplesOfTurn yX0_couplesOfTurn ∈ Gw := ⟨inG 1083 (by decide +kernel) rfl, inGs 49 (by decide +kernel) rfl⟩
theorem im_X0_addStep : Cond.instanceMethod yX0_addStep ∈ Gw ∧ Cond.selects yX0_addStep.cls yX0_addStep yX0_addStep ∈ Gw := ⟨inG 1088 (by decide +kernel) rfl, inGs 50 (by decide +kernel) rfl⟩
theorem im_X0_highestStep : Cond.instanceMethod yX0_highestStep ∈ Gw ∧ Cond.selects yX0_highestStep.cls yX0_highestStep yX0_highestStep ∈ Gw := ⟨inG 1092 (by decide +kernel) rfl, inGs 51 (by decide +kernel) rfl⟩
theorem im_X8_see : Cond.instanceMethod yX8_see ∈ Gw ∧ Cond.selects yX8_see.cls yX8_see yX8_see ∈ Gw := ⟨inG 1098 (by decide +kernel) rfl, inG 1099 (by decide +kernel) rfl⟩
theorem im_X8_minutes : Cond.instanceMethod yX8_minutes ∈ Gw ∧ Cond.selects yX8_minutes.cls yX8_minutes yX8_minutes ∈ Gw := ⟨inG 1105 (by decide +kernel) rfl, inG 1106 (by decide +kernel) rfl⟩
theorem im_X8_addFitting : Cond.instanceMethod yX8_addFitting ∈ Gw ∧ Cond.selects yX8_addFitting.cls yX8_addFitting yX8_addFitting ∈ Gw := ⟨inG 1110 (by decide +kernel) rfl, inGs 52 (by decide +kernel) rfl⟩
theorem im_X7_addAllMinutes : Cond.instanceMethod yX7_addAllMinutes ∈ Gw ∧ Cond.selects yX7_addAllMinutes.cls yX7_addAllMinutes yX7_addAllMinutes ∈ Gw := ⟨inG 1113 (by decide +kernel) rfl, inG 1114 (by decide +kernel) rfl⟩
theorem im_X4_findMoments : Cond.instanceMethod yX4_findMoments ∈ Gw ∧ Cond.selects yX4_findMoments.cls yX4_findMoments yX4_findMoments ∈ Gw := ⟨inG 1117 (by decide +kernel) rfl, inG 1118 (by decide +kernel) rfl⟩
theorem im_X4_minuteAt : Cond.instanceMethod yX4_minuteAt ∈ Gw ∧ Cond.selects yX4_minuteAt.cls yX4_minuteAt yX4_minuteAt ∈ Gw := ⟨inG 1122 (by decide +kernel) rfl, inGs 53 (by decide +kernel) rfl⟩
theorem im_X8_allTellAsSeen : Cond.instanceMethod yX8_allTellAsSeen ∈ Gw ∧ Cond.selects yX8_allTellAsSeen.cls yX8_allTellAsSeen yX8_allTellAsSeen ∈ Gw := ⟨inG 1127 (by decide +kernel) rfl, inGs 54 (by decide +kernel) rfl⟩
theorem im_X7_addMinute : Cond.instanceMethod yX7_addMinute ∈ Gw ∧ Cond.selects yX7_addMinute.cls yX7_addMinute yX7_addMinute ∈ Gw := ⟨inG 1130 (by decide +kernel) rfl, inG 1131 (by decide +kernel) rfl⟩
theorem im_X8_days : Cond.instanceMethod yX8_days ∈ Gw ∧ Cond.selects yX8_days.cls yX8_days yX8_days ∈ Gw := ⟨inG 1139 (by decide +kernel) rfl, inG 1140 (by decide +kernel) rfl⟩
theorem im_X8_late : Cond.instanceMethod yX8_late ∈ Gw ∧ Cond.selects yX8_late.cls yX8_late yX8_late ∈ Gw := ⟨inG 1146 (by decide +kernel) rfl, inG 1147 (by decide +kernel) rfl⟩
theorem im_X8_lateOn : Cond.instanceMethod yX8_lateOn ∈ Gw ∧ Cond.selects yX8_lateOn.cls yX8_lateOn yX8_lateOn ∈ Gw := ⟨inG 1151 (by decide +kernel) rfl, inGs 55 (by decide +kernel) rfl⟩
theorem im_X8_firstMoment : Cond.instanceMethod yX8_firstMoment ∈ Gw ∧ Cond.selects yX8_firstMoment.cls yX8_firstMoment yX8_firstMoment ∈ Gw := ⟨inG 1155 (by decide +kernel) rfl, inGs 56 (by decide +kernel) rfl⟩
theorem im_X8_meet : Cond.instanceMethod yX8_meet ∈ Gw ∧ Cond.selects yX8_meet.cls yX8_meet yX8_meet ∈ Gw := ⟨inG 1161 (by decide +kernel) rfl, inG 1162 (by decide +kernel) rfl⟩
theorem im_X8_mend : Cond.instanceMethod yX8_mend ∈ Gw ∧ Cond.selects yX8_mend.cls yX8_mend yX8_mend ∈ Gw := ⟨inG 1168 (by decide +kernel) rfl, inG 1169 (by decide +kernel) rfl⟩
theorem im_X3_addMend : Cond.instanceMethod yX3_addMend ∈ Gw ∧ Cond.selects yX3_addMend.cls yX3_addMend yX3_addMend ∈ Gw := ⟨inG 1172 (by decide +kernel) rfl, inG 1173 (by decide +kernel) rfl⟩
theorem im_X8_best : Cond.instanceMethod yX8_best ∈ Gw ∧ Cond.selects yX8_best.cls yX8_best yX8_best ∈ Gw := ⟨inG 1179 (by decide +kernel) rfl, inG 1180 (by decide +kernel) rfl⟩
theorem im_X7_clearTurns : Cond.instanceMethod yX7_clearTurns ∈ Gw ∧ Cond.selects yX7_clearTurns.cls yX7_clearTurns yX7_clearTurns ∈ Gw := ⟨inG 1185 (by decide +kernel) rfl, inG 1186 (by decide +kernel) rfl⟩
theorem im_X8_addRightTurns : Cond.instanceMethod yX8_addRightTurns ∈ Gw ∧ Cond.selects yX8_addRightTurns.cls yX8_addRightTurns yX8_addRightTurns ∈ Gw := ⟨inG 1191 (by decide +kernel) rfl, inGs 57 (by decide +kernel) rfl⟩
theorem im_X7_addTurns : Cond.instanceMethod yX7_addTurns ∈ Gw ∧ Cond.selects yX7_addTurns.cls yX7_addTurns yX7_addTurns ∈ Gw := ⟨inG 1196 (by decide +kernel) rfl, inG 1197 (by decide +kernel) rfl⟩
theorem im_X7_bestTurn : Cond.instanceMethod yX7_bestTurn ∈ Gw ∧ Cond.selects yX7_bestTurn.cls yX7_bestTurn yX7_bestTurn ∈ Gw := ⟨inG 1200 (by decide +kernel) rfl, inG 1201 (by decide +kernel) rfl⟩
theorem im_X8_year : Cond.instanceMethod yX8_year ∈ Gw ∧ Cond.selects yX8_year.cls yX8_year yX8_year ∈ Gw := ⟨inG 1208 (by decide +kernel) rfl, inG 1209 (by decide +kernel) rfl⟩
theorem im_X8_tallyYear : Cond.instanceMethod yX8_tallyYear ∈ Gw ∧ Cond.selects yX8_tallyYear.cls yX8_tallyYear yX8_tallyYear ∈ Gw := ⟨inG 1213 (by decide +kernel) rfl, inGs 58 (by decide +kernel) rfl⟩
theorem im_X8_live : Cond.instanceMethod yX8_live ∈ Gw ∧ Cond.selects yX8_live.cls yX8_live yX8_live ∈ Gw := ⟨inG 1219 (by decide +kernel) rfl, inG 1220 (by decide +kernel) rfl⟩
theorem im_X8_middle : Cond.instanceMethod yX8_middle ∈ Gw ∧ Cond.selects yX8_middle.cls yX8_middle yX8_middle ∈ Gw := ⟨inG 1226 (by decide +kernel) rfl, inG 1227 (by decide +kernel) rfl⟩
theorem im_X8_together : Cond.instanceMethod yX8_together ∈ Gw ∧ Cond.selects yX8_together.cls yX8_together yX8_together ∈ Gw := ⟨inG 1235 (by decide +kernel) rfl, inG 1236 (by decide +kernel) rfl⟩
theorem im_X7_clearGroups : Cond.instanceMethod yX7_clearGroups ∈ Gw ∧ Cond.selects yX7_clearGroups.cls yX7_clearGroups yX7_clearGroups ∈ Gw := ⟨inG 1239 (by decide +kernel) rfl, inG 1240 (by decide +kernel) rfl⟩
theorem im_X8_litDials : Cond.instanceMethod yX8_litDials ∈ Gw ∧ Cond.selects yX8_litDials.cls yX8_litDials yX8_litDials ∈ Gw := ⟨inG 1244 (by decide +kernel) rfl, inGs 59 (by decide +kernel) rfl⟩
theorem im_X7_addGroup : Cond.instanceMethod yX7_addGroup ∈ Gw ∧ Cond.selects yX7_addGroup.cls yX7_addGroup yX7_addGroup ∈ Gw := ⟨inG 1247 (by decide +kernel) rfl, inG 1248 (by decide +kernel) rfl⟩
theorem im_X7_minutesOfBoth : Cond.instanceMethod yX7_minutesOfBoth ∈ Gw ∧ Cond.selects yX7_minutesOfBoth.cls yX7_minutesOfBoth yX7_minutesOfBoth ∈ Gw := ⟨inG 1251 (by decide +kernel) rfl, inG 1252 (by decide +kernel) rfl⟩
theorem im_X8_takes : Cond.instanceMethod yX8_takes ∈ Gw ∧ Cond.selects yX8_takes.cls yX8_takes yX8_takes ∈ Gw := ⟨inG 1258 (by decide +kernel) rfl, inG 1259 (by decide +kernel) rfl⟩
theorem im_X8_takenOn : Cond.instanceMethod yX8_takenOn ∈ Gw ∧ Cond.selects yX8_takenOn.cls yX8_takenOn yX8_takenOn ∈ Gw := ⟨inG 1263 (by decide +kernel) rfl, inGs 60 (by decide +kernel) rfl⟩
theorem im_X4_litMinutes : Cond.instanceMethod yX4_litMinutes ∈ Gw ∧ Cond.selects yX4_litMinutes.cls yX4_litMinutes yX4_litMinutes ∈ Gw := ⟨inG 1266 (by decide +kernel) rfl, inG 1267 (by decide +kernel) rfl⟩
theorem im_X4_moonMinutes : Cond.instanceMethod yX4_moonMinutes ∈ Gw ∧ Cond.selects yX4_moonMinutes.cls yX4_moonMinutes yX4_moonMinutes ∈ Gw := ⟨inG 1271 (by decide +kernel) rfl, inGs 61 (by decide +kernel) rfl⟩
theorem sm_X4_shared : Cond.static yX4_shared ∈ Gw := inG 1274 (by decide +kernel) rfl
theorem im_X4_sunMinutes : Cond.instanceMethod yX4_sunMinutes ∈ Gw ∧ Cond.selects yX4_sunMinutes.cls yX4_sunMinutes yX4_sunMinutes ∈ Gw := ⟨inG 1280 (by decide +kernel) rfl, inGs 62 (by decide +kernel) rfl⟩
theorem im0_X9_init : Cond.instanceMethod yX9_init ∈ Gw := inG 1285 (by decide +kernel) rfl
theorem im_X9_thrown : Cond.instanceMethod yX9_thrown ∈ Gw ∧ Cond.selects yX9_thrown.cls yX9_thrown yX9_thrown ∈ Gw := ⟨inG 1465 (by decide +kernel) rfl, inG 1466 (by decide +kernel) rfl⟩
theorem im_X9_feed : Cond.instanceMethod yX9_feed ∈ Gw ∧ Cond.selects yX9_feed.cls yX9_feed yX9_feed ∈ Gw := ⟨inG 1469 (by decide +kernel) rfl, inG 1470 (by decide +kernel) rfl⟩
theorem im_X9_lays : Cond.instanceMethod yX9_lays ∈ Gw ∧ Cond.selects yX9_lays.cls yX9_lays yX9_lays ∈ Gw := ⟨inG 1474 (by decide +kernel) rfl, inGs 63 (by decide +kernel) rfl⟩
theorem im_X9_port : Cond.instanceMethod yX9_port ∈ Gw ∧ Cond.selects yX9_port.cls yX9_port yX9_port ∈ Gw := ⟨inG 1477 (by decide +kernel) rfl, inG 1478 (by decide +kernel) rfl⟩
theorem im_X9_right : Cond.instanceMethod yX9_right ∈ Gw ∧ Cond.selects yX9_right.cls yX9_right yX9_right ∈ Gw := ⟨inG 1482 (by decide +kernel) rfl, inGs 64 (by decide +kernel) rfl⟩
theorem im_X9_steps : Cond.instanceMethod yX9_steps ∈ Gw ∧ Cond.selects yX9_steps.cls yX9_steps yX9_steps ∈ Gw := ⟨inG 1486 (by decide +kernel) rfl, inGs 65 (by decide +kernel) rfl⟩
theorem im_X9_byteAt : Cond.instanceMethod yX9_byteAt ∈ Gw ∧ Cond.selects yX9_byteAt.cls yX9_byteAt yX9_byteAt ∈ Gw := ⟨inG 1490 (by decide +kernel) rfl, inGs 66 (by decide +kernel) rfl⟩
theorem sm_X9_isLetter : Cond.static yX9_isLetter ∈ Gw := inG 1493 (by decide +kernel) rfl
theorem sm_X9_isDigit : Cond.static yX9_isDigit ∈ Gw := inG 1496 (by decide +kernel) rfl
theorem im_X9_isGood : Cond.instanceMethod yX9_isGood ∈ Gw ∧ Cond.selects yX9_isGood.cls yX9_isGood yX9_isGood ∈ Gw := ⟨inG 1500 (by decide +kernel) rfl, inGs 67 (by decide +kernel) rfl⟩
theorem im_X9_line : Cond.instanceMethod yX9_line ∈ Gw ∧ Cond.selects yX9_line.cls yX9_line yX9_line ∈ Gw := ⟨inG 1504 (by decide +kernel) rfl, inGs 68 (by decide +kernel) rfl⟩
theorem im_X9_is : Cond.instanceMethod yX9_is ∈ Gw ∧ Cond.selects yX9_is.cls yX9_is yX9_is ∈ Gw := ⟨inG 1508 (by decide +kernel) rfl, inGs 69 (by decide +kernel) rfl⟩
theorem sm_X9_letters : Cond.static yX9_letters ∈ Gw := inG 1511 (by decide +kernel) rfl
theorem sm_X9_spelled : Cond.static yX9_spelled ∈ Gw := inG 1514 (by decide +kernel) rfl
theorem im_X9_readsDial : Cond.instanceMethod yX9_readsDial ∈ Gw ∧ Cond.selects yX9_readsDial.cls yX9_readsDial yX9_readsDial ∈ Gw := ⟨inG 1519 (by decide +kernel) rfl, inGs 70 (by decide +kernel) rfl⟩
theorem im_X9_wrong : Cond.instanceMethod yX9_wrong ∈ Gw ∧ Cond.selects yX9_wrong.cls yX9_wrong yX9_wrong ∈ Gw := ⟨inG 1523 (by decide +kernel) rfl, inGs 71 (by decide +kernel) rfl⟩
theorem im_X9_need : Cond.instanceMethod yX9_need ∈ Gw ∧ Cond.selects yX9_need.cls yX9_need yX9_need ∈ Gw := ⟨inG 1527 (by decide +kernel) rfl, inGs 72 (by decide +kernel) rfl⟩
theorem im_X9_signed : Cond.instanceMethod yX9_signed ∈ Gw ∧ Cond.selects yX9_signed.cls yX9_signed yX9_signed ∈ Gw := ⟨inG 1531 (by decide +kernel) rfl, inGs 73 (by decide +kernel) rfl⟩
theorem im_X9_number : Cond.instanceMethod yX9_number ∈ Gw ∧ Cond.selects yX9_number.cls yX9_number yX9_number ∈ Gw := ⟨inG 1535 (by decide +kernel) rfl, inGs 74 (by decide +kernel) rfl⟩
theorem im_X9_readsCloud : Cond.instanceMethod yX9_readsCloud ∈ Gw ∧ Cond.selects yX9_readsCloud.cls yX9_readsCloud yX9_readsCloud ∈ Gw := ⟨inG 1539 (by decide +kernel) rfl, inGs 75 (by decide +kernel) rfl⟩
theorem im_X9_copies : Cond.instanceMethod yX9_copies ∈ Gw ∧ Cond.selects yX9_copies.cls yX9_copies yX9_copies ∈ Gw := ⟨inG 1543 (by decide +kernel) rfl, inGs 76 (by decide +kernel) rfl⟩
theorem im_X9_fault : Cond.instanceMethod yX9_fault ∈ Gw ∧ Cond.selects yX9_fault.cls yX9_fault yX9_fault ∈ Gw := ⟨inG 1546 (by decide +kernel) rfl, inG 1547 (by decide +kernel) rfl⟩
theorem im_X9_count : Cond.instanceMethod yX9_count ∈ Gw ∧ Cond.selects yX9_count.cls yX9_count yX9_count ∈ Gw := ⟨inG 1550 (by decide +kernel) rfl, inG 1551 (by decide +kernel) rfl⟩
theorem sm_X9_within : Cond.static yX9_within ∈ Gw := inG 1554 (by decide +kernel) rfl
theorem im_X9_dial : Cond.instanceMethod yX9_dial ∈ Gw ∧ Cond.selects yX9_dial.cls yX9_dial yX9_dial ∈ Gw := ⟨inG 1557 (by decide +kernel) rfl, inG 1558 (by decide +kernel) rfl⟩
theorem im_X9_isDial : Cond.instanceMethod yX9_isDial ∈ Gw ∧ Cond.selects yX9_isDial.cls yX9_isDial yX9_isDial ∈ Gw := ⟨inG 1562 (by decide +kernel) rfl, inGs 77 (by decide +kernel) rfl⟩
theorem im_X9_isWhat : Cond.instanceMethod yX9_isWhat ∈ Gw ∧ Cond.selects yX9_isWhat.cls yX9_isWhat yX9_isWhat ∈ Gw := ⟨inG 1566 (by decide +kernel) rfl, inGs 78 (by decide +kernel) rfl⟩
theorem im_X9_day : Cond.instanceMethod yX9_day ∈ Gw ∧ Cond.selects yX9_day.cls yX9_day yX9_day ∈ Gw := ⟨inG 1569 (by decide +kernel) rfl, inG 1570 (by decide +kernel) rfl⟩
theorem im_X9_isDay : Cond.instanceMethod yX9_isDay ∈ Gw ∧ Cond.selects yX9_isDay.cls yX9_isDay yX9_isDay ∈ Gw := ⟨inG 1574 (by decide +kernel) rfl, inGs 79 (by decide +kernel) rfl⟩
theorem im_X9_noon : Cond.instanceMethod yX9_noon ∈ Gw ∧ Cond.selects yX9_noon.cls yX9_noon yX9_noon ∈ Gw := ⟨inG 1578 (by decide +kernel) rfl, inGs 80 (by decide +kernel) rfl⟩
theorem im_X9_half : Cond.instanceMethod yX9_half ∈ Gw ∧ Cond.selects yX9_half.cls yX9_half yX9_half ∈ Gw := ⟨inG 1582 (by decide +kernel) rfl, inGs 81 (by decide +kernel) rfl⟩
theorem sm_X9_off : Cond.static yX9_off ∈ Gw := inG 1585 (by decide +kernel) rfl
theorem im_X9_tells : Cond.instanceMethod yX9_tells ∈ Gw ∧ Cond.selects yX9_tells.cls yX9_tells yX9_tells ∈ Gw := ⟨inG 1588 (by decide +kernel) rfl, inG 1589 (by decide +kernel) rfl⟩
theorem im_X9_isMinute : Cond.instanceMethod yX9_isMinute ∈ Gw ∧ Cond.selects yX9_isMinute.cls yX9_isMinute yX9_isMinute ∈ Gw := ⟨inG 1593 (by decide +kernel) rfl, inGs 82 (by decide +kernel) rfl⟩
theorem im_X9_tellsNow : Cond.instanceMethod yX9_tellsNow ∈ Gw ∧ Cond.selects yX9_tellsNow.cls yX9_tellsNow yX9_tellsNow ∈ Gw := ⟨inG 1597 (by decide +kernel) rfl, inGs 83 (by decide +kernel) rfl⟩
theorem im_X9_turnOf : Cond.instanceMethod yX9_turnOf ∈ Gw ∧ Cond.selects yX9_turnOf.cls yX9_turnOf yX9_turnOf ∈ Gw := ⟨inG 1601 (by decide +kernel) rfl, inGs 84 (by decide +kernel) rfl⟩
theorem im_X9_tellsBy : Cond.instanceMethod yX9_tellsBy ∈ Gw ∧ Cond.selects yX9_tellsBy.cls yX9_tellsBy yX9_tellsBy ∈ Gw := ⟨inG 1605 (by decide +kernel) rfl, inGs 85 (by decide +kernel) rfl⟩
theorem sm_X9_round : Cond.static yX9_round ∈ Gw := inG 1608 (by decide +kernel) rfl
theorem im_X9_lights : Cond.instanceMethod yX9_lights ∈ Gw ∧ Cond.selects yX9_lights.cls yX9_lights yX9_lights ∈ Gw := ⟨inG 1612 (by decide +kernel) rfl, inGs 86 (by decide +kernel) rfl⟩
theorem im_X9_turn : Cond.instanceMethod yX9_turn ∈ Gw ∧ Cond.selects yX9_turn.cls yX9_turn yX9_turn ∈ Gw := ⟨inG 1615 (by decide +kernel) rfl, inG 1616 (by decide +kernel) rfl⟩
theorem im_X9_read : Cond.instanceMethod yX9_read ∈ Gw ∧ Cond.selects yX9_read.cls yX9_read yX9_read ∈ Gw := ⟨inG 1619 (by decide +kernel) rfl, inG 1620 (by decide +kernel) rfl⟩
theorem im_X9_refuses : Cond.instanceMethod yX9_refuses ∈ Gw ∧ Cond.selects yX9_refuses.cls yX9_refuses yX9_refuses ∈ Gw := ⟨inG 1624 (by decide +kernel) rfl, inGs 87 (by decide +kernel) rfl⟩
theorem im_X9_unread : Cond.instanceMethod yX9_unread ∈ Gw ∧ Cond.selects yX9_unread.cls yX9_unread yX9_unread ∈ Gw := ⟨inG 1627 (by decide +kernel) rfl, inG 1628 (by decide +kernel) rfl⟩
theorem im_X9_faults : Cond.instanceMethod yX9_faults ∈ Gw ∧ Cond.selects yX9_faults.cls yX9_faults yX9_faults ∈ Gw := ⟨inG 1631 (by decide +kernel) rfl, inG 1632 (by decide +kernel) rfl⟩
theorem im_X9_seeks : Cond.instanceMethod yX9_seeks ∈ Gw ∧ Cond.selects yX9_seeks.cls yX9_seeks yX9_seeks ∈ Gw := ⟨inG 1636 (by decide +kernel) rfl, inGs 88 (by decide +kernel) rfl⟩
theorem im_X9_fits : Cond.instanceMethod yX9_fits ∈ Gw ∧ Cond.selects yX9_fits.cls yX9_fits yX9_fits ∈ Gw := ⟨inG 1640 (by decide +kernel) rfl, inGs 89 (by decide +kernel) rfl⟩
theorem im_X9_next : Cond.instanceMethod yX9_next ∈ Gw ∧ Cond.selects yX9_next.cls yX9_next yX9_next ∈ Gw := ⟨inG 1643 (by decide +kernel) rfl, inG 1644 (by decide +kernel) rfl⟩
theorem im_X9_greatest : Cond.instanceMethod yX9_greatest ∈ Gw ∧ Cond.selects yX9_greatest.cls yX9_greatest yX9_greatest ∈ Gw := ⟨inG 1648 (by decide +kernel) rfl, inGs 90 (by decide +kernel) rfl⟩
theorem im_X9_see : Cond.instanceMethod yX9_see ∈ Gw ∧ Cond.selects yX9_see.cls yX9_see yX9_see ∈ Gw := ⟨inG 1651 (by decide +kernel) rfl, inG 1652 (by decide +kernel) rfl⟩
theorem im_X9_forget : Cond.instanceMethod yX9_forget ∈ Gw ∧ Cond.selects yX9_forget.cls yX9_forget yX9_forget ∈ Gw := ⟨inG 1655 (by decide +kernel) rfl, inG 1656 (by decide +kernel) rfl⟩
theorem im_X9_minutes : Cond.instanceMethod yX9_minutes ∈ Gw ∧ Cond.selects yX9_minutes.cls yX9_minutes yX9_minutes ∈ Gw := ⟨inG 1659 (by decide +kernel) rfl, inG 1660 (by decide +kernel) rfl⟩
theorem im_X9_isSeen : Cond.instanceMethod yX9_isSeen ∈ Gw ∧ Cond.selects yX9_isSeen.cls yX9_isSeen yX9_isSeen ∈ Gw := ⟨inG 1664 (by decide +kernel) rfl, inGs 91 (by decide +kernel) rfl⟩
theorem im_X9_days : Cond.instanceMethod yX9_days ∈ Gw ∧ Cond.selects yX9_days.cls yX9_days yX9_days ∈ Gw := ⟨inG 1667 (by decide +kernel) rfl, inG 1668 (by decide +kernel) rfl⟩
theorem im_X9_late : Cond.instanceMethod yX9_late ∈ Gw ∧ Cond.selects yX9_late.cls yX9_late yX9_late ∈ Gw := ⟨inG 1671 (by decide +kernel) rfl, inG 1672 (by decide +kernel) rfl⟩
theorem im_X9_lateOn : Cond.instanceMethod yX9_lateOn ∈ Gw ∧ Cond.selects yX9_lateOn.cls yX9_lateOn yX9_lateOn ∈ Gw := ⟨inG 1676 (by decide +kernel) rfl, inGs 92 (by decide +kernel) rfl⟩
theorem im_X9_firstOf : Cond.instanceMethod yX9_firstOf ∈ Gw ∧ Cond.selects yX9_firstOf.cls yX9_firstOf yX9_firstOf ∈ Gw := ⟨inG 1680 (by decide +kernel) rfl, inGs 93 (by decide +kernel) rfl⟩
theorem im_X9_meet : Cond.instanceMethod yX9_meet ∈ Gw ∧ Cond.selects yX9_meet.cls yX9_meet yX9_meet ∈ Gw := ⟨inG 1683 (by decide +kernel) rfl, inG 1684 (by decide +kernel) rfl⟩
theorem im_X9_mend : Cond.instanceMethod yX9_mend ∈ Gw ∧ Cond.selects yX9_mend.cls yX9_mend yX9_mend ∈ Gw := ⟨inG 1687 (by decide +kernel) rfl, inG 1688 (by decide +kernel) rfl⟩
theorem im_X9_undo : Cond.instanceMethod yX9_undo ∈ Gw ∧ Cond.selects yX9_undo.cls yX9_undo yX9_undo ∈ Gw := ⟨inG 1691 (by decide +kernel) rfl, inG 1692 (by decide +kernel) rfl⟩
theorem im_X9_best : Cond.instanceMethod yX9_best ∈ Gw ∧ Cond.selects yX9_best.cls yX9_best yX9_best ∈ Gw := ⟨inG 1695 (by decide +kernel) rfl, inG 1696 (by decide +kernel) rfl⟩
theorem sm_X9_wrongBy : Cond.static yX9_wrongBy ∈ Gw := inG 1699 (by decide +kernel) rfl
theorem im_X9_year : Cond.instanceMethod yX9_year ∈ Gw ∧ Cond.selects yX9_year.cls yX9_year yX9_year ∈ Gw := ⟨inG 1702 (by decide +kernel) rfl, inG 1703 (by decide +kernel) rfl⟩
theorem im_X9_yearOf : Cond.instanceMethod yX9_yearOf ∈ Gw ∧ Cond.selects yX9_yearOf.cls yX9_yearOf yX9_yearOf ∈ Gw := ⟨inG 1707 (by decide +kernel) rfl, inGs 94 (by decide +kernel) rfl⟩
theorem im_X9_live : Cond.instanceMethod yX9_live ∈ Gw ∧ Cond.selects yX9_live.cls yX9_live yX9_live ∈ Gw := ⟨inG 1710 (by decide +kernel) rfl, inG 1711 (by decide +kernel) rfl⟩
theorem im_X9_middle : Cond.instanceMethod yX9_middle ∈ Gw ∧ Cond.selects yX9_middle.cls yX9_middle yX9_middle ∈ Gw := ⟨inG 1714 (by decide +kernel) rfl, inG 1715 (by decide +kernel) rfl⟩
theorem im_X9_middleOf : Cond.instanceMethod yX9_middleOf ∈ Gw ∧ Cond.selects yX9_middleOf.cls yX9_middleOf yX9_middleOf ∈ Gw := ⟨inG 1719 (by decide +kernel) rfl, inGs 95 (by decide +kernel) rfl⟩
theorem im_X9_together : Cond.instanceMethod yX9_together ∈ Gw ∧ Cond.selects yX9_together.cls yX9_together yX9_together ∈ Gw := ⟨inG 1722 (by decide +kernel) rfl, inG 1723 (by decide +kernel) rfl⟩
theorem im_X9_takes : Cond.instanceMethod yX9_takes ∈ Gw ∧ Cond.selects yX9_takes.cls yX9_takes yX9_takes ∈ Gw := ⟨inG 1726 (by decide +kernel) rfl, inG 1727 (by decide +kernel) rfl⟩
theorem im_X9_law : Cond.instanceMethod yX9_law ∈ Gw ∧ Cond.selects yX9_law.cls yX9_law yX9_law ∈ Gw := ⟨inG 1730 (by decide +kernel) rfl, inG 1731 (by decide +kernel) rfl⟩
theorem im_X9_begins : Cond.instanceMethod yX9_begins ∈ Gw ∧ Cond.selects yX9_begins.cls yX9_begins yX9_begins ∈ Gw := ⟨inG 1735 (by decide +kernel) rfl, inGs 96 (by decide +kernel) rfl⟩
theorem im_X9_puts : Cond.instanceMethod yX9_puts ∈ Gw ∧ Cond.selects yX9_puts.cls yX9_puts yX9_puts ∈ Gw := ⟨inG 1739 (by decide +kernel) rfl, inGs 97 (by decide +kernel) rfl⟩
theorem im_X9_some : Cond.instanceMethod yX9_some ∈ Gw ∧ Cond.selects yX9_some.cls yX9_some yX9_some ∈ Gw := ⟨inG 1743 (by decide +kernel) rfl, inGs 98 (by decide +kernel) rfl⟩
theorem im_X9_isSign : Cond.instanceMethod yX9_isSign ∈ Gw ∧ Cond.selects yX9_isSign.cls yX9_isSign yX9_isSign ∈ Gw := ⟨inG 1747 (by decide +kernel) rfl, inGs 99 (by decide +kernel) rfl⟩
theorem im_X9_opens : Cond.instanceMethod yX9_opens ∈ Gw ∧ Cond.selects yX9_opens.cls yX9_opens yX9_opens ∈ Gw := ⟨inG 1751 (by decide +kernel) rfl, inGs 100 (by decide +kernel) rfl⟩
theorem im_X9_goesOn : Cond.instanceMethod yX9_goesOn ∈ Gw ∧ Cond.selects yX9_goesOn.cls yX9_goesOn yX9_goesOn ∈ Gw := ⟨inG 1755 (by decide +kernel) rfl, inGs 101 (by decide +kernel) rfl⟩
theorem im_X9_works : Cond.instanceMethod yX9_works ∈ Gw ∧ Cond.selects yX9_works.cls yX9_works yX9_works ∈ Gw := ⟨inG 1759 (by decide +kernel) rfl, inGs 102 (by decide +kernel) rfl⟩
theorem im_X9_wantsTest : Cond.instanceMethod yX9_wantsTest ∈ Gw ∧ Cond.selects yX9_wantsTest.cls yX9_wantsTest yX9_wantsTest ∈ Gw := ⟨inG 1763 (by decide +kernel) rfl, inGs 103 (by decide +kernel) rfl⟩
theorem im_X9_lawful : Cond.instanceMethod yX9_lawful ∈ Gw ∧ Cond.selects yX9_lawful.cls yX9_lawful yX9_lawful ∈ Gw := ⟨inG 1766 (by decide +kernel) rfl, inG 1767 (by decide +kernel) rfl⟩
theorem im_X9_toldBy : Cond.instanceMethod yX9_toldBy ∈ Gw ∧ Cond.selects yX9_toldBy.cls yX9_toldBy yX9_toldBy ∈ Gw := ⟨inG 1771 (by decide +kernel) rfl, inGs 104 (by decide +kernel) rfl⟩
theorem im_X9_judged : Cond.instanceMethod yX9_judged ∈ Gw ∧ Cond.selects yX9_judged.cls yX9_judged yX9_judged ∈ Gw := ⟨inG 1774 (by decide +kernel) rfl, inG 1775 (by decide +kernel) rfl⟩
theorem im_X9_image : Cond.instanceMethod yX9_image ∈ Gw ∧ Cond.selects yX9_image.cls yX9_image yX9_image ∈ Gw := ⟨inG 1778 (by decide +kernel) rfl, inG 1779 (by decide +kernel) rfl⟩
theorem im_X9_restore : Cond.instanceMethod yX9_restore ∈ Gw ∧ Cond.selects yX9_restore.cls yX9_restore yX9_restore ∈ Gw := ⟨inG 1782 (by decide +kernel) rfl, inG 1783 (by decide +kernel) rfl⟩
theorem ini_L : Cond.initialized RL ∈ Gw := inG 0 (by decide +kernel) rfl
theorem ini_X8 : Cond.initialized RX8 ∈ Gw := inG 1 (by decide +kernel) rfl
theorem ini_X6 : Cond.initialized RX6 ∈ Gw := inG 2 (by decide +kernel) rfl
theorem ini_X5 : Cond.initialized RX5 ∈ Gw := inG 3 (by decide +kernel) rfl
theorem ini_X2 : Cond.initialized RX2 ∈ Gw := inG 4 (by decide +kernel) rfl
theorem ini_X4 : Cond.initialized RX4 ∈ Gw := inG 5 (by decide +kernel) rfl
theorem ini_X1 : Cond.initialized RX1 ∈ Gw := inG 6 (by decide +kernel) rfl
theorem ini_X3 : Cond.initialized RX3 ∈ Gw := inG 7 (by decide +kernel) rfl
theorem ini_J7 : Cond.initialized RJ7 ∈ Gw := inG 8 (by decide +kernel) rfl
theorem ini_X0 : Cond.initialized RX0 ∈ Gw := inG 9 (by decide +kernel) rfl
theorem ini_X7 : Cond.initialized RX7 ∈ Gw := inG 10 (by decide +kernel) rfl
theorem ini_X9 : Cond.initialized RX9 ∈ Gw := inG 11 (by decide +kernel) rfl
theorem ini_J9 : Cond.initialized RJ9 ∈ Gw := inG 16 (by decide +kernel) rfl
theorem ini_J0 : Cond.initialized RJ0 ∈ Gw := inG 17 (by decide +kernel) rfl
theorem ini_J1 : Cond.initialized RJ1 ∈ Gw := inG 18 (by decide +kernel) rfl
theorem ini_J3 : Cond.initialized RJ3 ∈ Gw := inG 19 (by decide +kernel) rfl
theorem ini_J2 : Cond.initialized RJ2 ∈ Gw := inG 20 (by decide +kernel) rfl
theorem ini_J10 : Cond.initialized RJ10 ∈ Gw := inG 22 (by decide +kernel) rfl
theorem cs_L_90 : CS RL 90 yX8_init cX8_init 1 none 0 := ⟨inG 25 (by decide +kernel) rfl, cd_X8_init, ini_X8, ⟨by decide +kernel, by decide +kernel, by decide +kernel⟩, by decide⟩
theorem cs_X8_71 : CS RX8 71 yX3_init cX3_init 1 none 0 := ⟨inG 201 (by decide +kernel) rfl, cd_X3_init, ini_X3, ⟨by decide +kernel, by decide +kernel, by decide +kernel⟩, by decide⟩
theorem cs_X3_46 : CS RX3 46 yJ7_fill_53178 cJ7_fill_53178 4 none 2 := ⟨inG 205 (by decide +kernel) rfl, cd_J7_fill_53178, ini_J7, ⟨by decide +kernel, by decide +kernel, by decide +kernel⟩, by decide⟩
theorem cs_L_94 : CS RL 94 yX8_feed cX8_feed 6 (some .int) 5 := ⟨inG 376 (by decide +kernel) rfl, cd_X8_feed, ini_X8, ⟨by decide +kernel, by decide +kernel, by decide +kernel⟩, by decide⟩
theorem cs_X8_105 : CS RX8 105 yX8_putBytes cX8_putBytes 3 none 1 := ⟨inG 380 (by decide +kernel) rfl, cd_X8_putBytes, ini_X8, ⟨by decide +kernel, by decide +kernel, by decide +kernel⟩, by decide⟩
theorem cs_L_118 : CS RL 118 yX8_fault cX8_fault 1 (some .int) 0 := ⟨inG 384 (by decide +kernel) rfl, cd_X8_fault, ini_X8, ⟨by decide +kernel, by decide +kernel, by decide +kernel⟩, by decide⟩
theorem cs_L_142 : CS RL 142 yX8_unread cX8_unread 1 (some .int) 0 := ⟨inG 388 (by decide +kernel) rfl, cd_X8_unread, ini_X8, ⟨by decide +kernel, by decide +kernel, by decide +kernel⟩, by decide⟩
theorem cs_L_155 : CS RL 155 yX8_forget cX8_forget 2 (some .int) 0 := ⟨inG 392 (by decide +kernel) rfl, cd_X8_forget, ini_X8, ⟨by decide +kernel, by decide +kernel, by decide +kernel⟩, by decide⟩
theorem cs_X8_283 : CS RX8 283 yX3_clearSeen cX3_clearSeen 1 none 0 := ⟨inG 396 (by decide +kernel) rfl, cd_X3_clearSeen, ini_X3, ⟨by decide +kernel, by decide +kernel, by decide +kernel⟩, by decide⟩
theorem cs_L_175 : CS RL 175 yX8_undo cX8_undo 1 (some .int) 0 := ⟨inG 400 (by decide +kernel) rfl, cd_X8_undo, ini_X8, ⟨by decide +kernel, by decide +kernel, by decide +kernel⟩, by decide⟩
theorem cs_L_197 : CS RL 197 yX8_image cX8_image 1 none 0 := ⟨inG 404 (by decide +kernel) rfl, cd_X8_image, ini_X8, ⟨by decide +kernel, by decide +kernel, by decide +kernel⟩, by decide⟩
theorem cs_X8_378 : CS RX8 378 yX3_copyFrom cX3_copyFrom 2 none 1 := ⟨inG 408 (by decide +kernel) rfl, cd_X3_copyFrom, ini_X3, ⟨by decide +kernel, by decide +kernel, by decide +kernel⟩, by decide⟩
theorem cs_L_201 : CS RL 201 yX8_restore cX8_restore 1 (some .boolean) 0 := ⟨inG 415 (by decide +kernel) rfl, cd_X8_restore, ini_X8, ⟨by decide +kernel, by decide +kernel, by decide +kernel⟩, by decide⟩
theorem cs_L_7 : CS RL 7 yX8_port cX8_port 3 (some .int) 1 := ⟨inG 423 (by decide +kernel) rfl, cd_X8_port, ini_X8, ⟨by decide +kernel, by decide +kernel, by decide +kernel⟩, by decide⟩
theorem cs_X8_109 : CS RX8 109 yX8_needTaped cX8_needTaped 2 none 1 := ⟨inG 427 (by decide +kernel) rfl, cd_X8_needTaped, ini_X8, ⟨by decide +kernel, by decide +kernel, by decide +kernel⟩, by decide⟩
theorem cs_X8_112 : CS RX8 112 yX6_begin cX6_begin 3 none 2 := ⟨inG 497 (by decide +kernel) rfl, cd_X6_begin, ini_X6, ⟨by decide +kernel, by decide +kernel, by decide +kernel⟩, by decide⟩
theorem cs_X6_37 : CS RX6 37 yJ9_min_7cf53 cJ9_min_7cf53 2 (some .int) 2 := ⟨inG 501 (by decide +kernel) rfl, cd_J9_min_7cf53, ini_J9, ⟨by decide +kernel, by decide +kernel, by decide +kernel⟩, by decide⟩
theorem cs_X6_43 : CS RX6 43 yJ9_max_7cf53 cJ9_max_7cf53 2 (some .int) 2 := ⟨inG 504 (by decide +kernel) rfl, cd_J9_max_7cf53, ini_J9, ⟨by decide +kernel, by decide +kernel, by decide +kernel⟩, by decide⟩
theorem cs_X6_46 : CS RX6 46 yX6_advance cX6_advance 1 none 0 := ⟨inG 507 (by decide +kernel) rfl, cd_X6_advance, ini_X6, ⟨by decide +kernel, by decide +kernel, by decide +kernel⟩, by decide⟩
theorem cs_X6_49 : CS RX6 49 yX6_isLetter cX6_isLetter 1 (some .boolean) 1 := ⟨inG 511 (by decide +kernel) rfl, cd_X6_isLetter, ini_X6, ⟨by decide +kernel, by decide +kernel, by decide +kernel⟩, by decide⟩
theorem cs_X6_53 : CS RX6 53 yX6_isDigit cX6_isDigit 1 (some .boolean) 1 := ⟨inG 514 (by decide +kernel) rfl, cd_X6_isDigit, ini_X6, ⟨by decide +kernel, by decide +kernel, by decide +kernel⟩, by decide⟩
theorem cs_X8_116 : CS RX8 116 yX5_readInto cX5_readInto 4 (some .boolean) 2 := ⟨inG 517 (by decide +kernel) rfl, cd_X5_readInto, ini_X5, ⟨by decide +kernel, by decide +kernel, by decide +kernel⟩, by decide⟩
theorem cs_X5_26 : CS RX5 26 yX4_clear cX4_clear 1 none 0 := ⟨inG 521 (by decide +kernel) rfl, cd_X4_clear, ini_X4, ⟨by decide +kernel, by decide +kernel, by decide +kernel⟩, by decide⟩
theorem cs_X4_54 : CS RX4 54 yJ7_fill_53178 cJ7_fill_53178 4 none 2 := ⟨inG 525 (by decide +kernel) rfl, cd_J7_fill_53178, ini_J7, ⟨by decide +kernel, by decide +kernel, by decide +kernel⟩, by decide⟩
theorem cs_X5_31 : CS RX5 31 yX6_isEnd cX6_isEnd 1 (some .boolean) 0 := ⟨inG 526 (by decide +kernel) rfl, cd_X6_isEnd, ini_X6, ⟨by decide +kernel, by decide +kernel, by decide +kernel⟩, by decide⟩
theorem cs_X5_37 : CS RX5 37 yX5_readLine cX5_readLine 1 (some .boolean) 0 := ⟨inG 530 (by decide +kernel) rfl, cd_X5_readLine, ini_X5, ⟨by decide +kernel, by decide +kernel, by decide +kernel⟩, by decide⟩
theorem cs_X5_46 : CS RX5 46 yX6_isWord cX6_isWord 3 (some .boolean) 1 := ⟨inG 535 (by decide +kernel) rfl, cd_X6_isWord, ini_X6, ⟨by decide +kernel, by decide +kernel, by decide +kernel⟩, by decide⟩
theorem cs_X6_56 : CS RX6 56 yJ0_length_8abf5 cJ0_length_8abf5 1 (some .int) 0 := ⟨inG 539 (by decide +kernel) rfl, cd_J0_length_8abf5, ini_J0, ⟨by decide +kernel, by decide +kernel, by decide +kernel⟩, by decide⟩
theorem cs_J0_335 : CS RJ0 335 yJ0_coder_7d493 cJ0_coder_7d493 1 (some .byte) 0 := ⟨inG 543 (by decide +kernel) rfl, cd_J0_coder_7d493, ini_J0, ⟨by decide +kernel, by decide +kernel, by decide +kernel⟩, by decide⟩
theorem cs_X6_61 : CS RX6 61 yJ0_charAt_5068e cJ0_charAt_5068e 2 (some .char) 1 := ⟨inG 549 (by decide +kernel) rfl, cd_J0_charAt_5068e, ini_J0, ⟨by decide +kernel, by decide +kernel, by decide +kernel⟩, by decide⟩
theorem cs_J0_492 : CS RJ0 492 yJ0_isLatin1_aae02 cJ0_isLatin1_aae02 1 (some .boolean) 0 := ⟨inG 553 (by decide +kernel) rfl, cd_J0_isLatin1_aae02, ini_J0, ⟨by decide +kernel, by decide +kernel, by decide +kernel⟩, by decide⟩
theorem cs_J0_495 : CS RJ0 495 yJ1_charAt_3b067 cJ1_charAt_3b067 2 (some .char) 2 := ⟨inG 557 (by decide +kernel) rfl, cd_J1_charAt_3b067, ini_J1, ⟨by decide +kernel, by decide +kernel, by decide +kernel⟩, by decide⟩
theorem cs_J1_9 : CS RJ1 9 yJ0_checkIndex_df160 cJ0_checkIndex_df160 2 none 2 := ⟨inG 560 (by decide +kernel) rfl, cd_J0_checkIndex_df160, ini_J0, ⟨by decide +kernel, by decide +kernel, by decide +kernel⟩, by decide⟩
theorem cs_J0_1059 : CS RJ0 1059 yJ3_checkIndex_8e157 cJ3_checkIndex_8e157 3 (some .int) 3 := ⟨inG 565 (by decide +kernel) rfl, cd_J3_checkIndex_8e157, ini_J3, ⟨by decide +kernel, by decide +kernel, by decide +kernel⟩, by decide⟩
theorem cs_J0_498 : CS RJ0 498 yJ2_charAt_3b067 cJ2_charAt_3b067 2 (some .char) 2 := ⟨inG 568 (by decide +kernel) rfl, cd_J2_charAt_3b067, ini_J2, ⟨by decide +kernel, by decide +kernel, by decide +kernel⟩, by decide⟩
theorem cs_J2_67 : CS RJ2 67 yJ2_checkIndex_2214a cJ2_checkIndex_2214a 2 none 2 := ⟨inG 571 (by decide +kernel) rfl, cd_J2_checkIndex_2214a, ini_J2, ⟨by decide +kernel, by decide +kernel, by decide +kernel⟩, by decide⟩
theorem cs_J2_48 : CS RJ2 48 yJ2_length_9d52b cJ2_length_9d52b 1 (some .int) 1 := ⟨inG 574 (by decide +kernel) rfl, cd_J2_length_9d52b, ini_J2, ⟨by decide +kernel, by decide +kernel, by decide +kernel⟩, by decide⟩
theorem cs_J2_414 : CS RJ2 414 yJ0_checkIndex_df160 cJ0_checkIndex_df160 2 none 2 := ⟨inG 577 (by decide +kernel) rfl, cd_J0_checkIndex_df160, ini_J0, ⟨by decide +kernel, by decide +kernel, by decide +kernel⟩, by decide⟩
theorem cs_J2_71 : CS RJ2 71 yJ2_getChar_3b067 cJ2_getChar_3b067 2 (some .char) 2 := ⟨inG 578 (by decide +kernel) rfl, cd_J2_getChar_3b067, ini_J2, ⟨by decide +kernel, by decide +kernel, by decide +kernel⟩, by decide⟩
theorem cs_X5_50 : CS RX5 50 yX5_readDial cX5_readDial 3 (some .boolean) 0 := ⟨inG 587 (by decide +kernel) rfl, cd_X5_readDial, ini_X5, ⟨by decide +kernel, by decide +kernel, by decide +kernel⟩, by decide⟩
theorem cs_X5_68 : CS RX5 68 yX6_refuse cX6_refuse 2 (some .boolean) 1 := ⟨inG 591 (by decide +kernel) rfl, cd_X6_refuse, ini_X6, ⟨by decide +kernel, by decide +kernel, by decide +kernel⟩, by decide⟩
theorem cs_X5_76 : CS RX5 76 yX6_advance cX6_advance 1 none 0 := ⟨inG 595 (by decide +kernel) rfl, cd_X6_advance, ini_X6, ⟨by decide +kernel, by decide +kernel, by decide +kernel⟩, by decide⟩
theorem cs_X5_79 : CS RX5 79 yX5_kindHere cX5_kindHere 1 (some .int) 0 := ⟨inG 596 (by decide +kernel) rfl, cd_X5_kindHere, ini_X5, ⟨by decide +kernel, by decide +kernel, by decide +kernel⟩, by decide⟩
theorem cs_X5_87 : CS RX5 87 yX6_takeSigned cX6_takeSigned 3 (some .boolean) 1 := ⟨inG 606 (by decide +kernel) rfl, cd_X6_takeSigned, ini_X6, ⟨by decide +kernel, by decide +kernel, by decide +kernel⟩, by decide⟩
theorem cs_X6_73 : CS RX6 73 yX6_isSign cX6_isSign 2 (some .boolean) 1 := ⟨inG 610 (by decide +kernel) rfl, cd_X6_isSign, ini_X6, ⟨by decide +kernel, by decide +kernel, by decide +kernel⟩, by decide⟩
theorem cs_X6_77 : CS RX6 77 yX6_takeNumber cX6_takeNumber 3 (some .boolean) 2 := ⟨inG 614 (by decide +kernel) rfl, cd_X6_takeNumber, ini_X6, ⟨by decide +kernel, by decide +kernel, by decide +kernel⟩, by decide⟩
theorem cs_X6_81 : CS RX6 81 yX6_holdsNumber cX6_holdsNumber 5 (some .boolean) 2 := ⟨inG 618 (by decide +kernel) rfl, cd_X6_holdsNumber, ini_X6, ⟨by decide +kernel, by decide +kernel, by decide +kernel⟩, by decide⟩
theorem cs_X6_69 : CS RX6 69 yX6_refuse cX6_refuse 2 (some .boolean) 1 := ⟨inG 622 (by decide +kernel) rfl, cd_X6_refuse, ini_X6, ⟨by decide +kernel, by decide +kernel, by decide +kernel⟩, by decide⟩
theorem cs_X5_102 : CS RX5 102 yX5_readGrown cX5_readGrown 2 (some .boolean) 1 := ⟨inG 623 (by decide +kernel) rfl, cd_X5_readGrown, ini_X5, ⟨by decide +kernel, by decide +kernel, by decide +kernel⟩, by decide⟩
theorem cs_X5_109 : CS RX5 109 yX6_takeNumber cX6_takeNumber 3 (some .boolean) 2 := ⟨inG 628 (by decide +kernel) rfl, cd_X6_takeNumber, ini_X6, ⟨by decide +kernel, by decide +kernel, by decide +kernel⟩, by decide⟩
theorem cs_X5_55 : CS RX5 55 yX5_readLimps cX5_readLimps 2 (some .boolean) 0 := ⟨inG 630 (by decide +kernel) rfl, cd_X5_readLimps, ini_X5, ⟨by decide +kernel, by decide +kernel, by decide +kernel⟩, by decide⟩
theorem cs_X5_60 : CS RX5 60 yX5_readSwing cX5_readSwing 1 (some .boolean) 0 := ⟨inG 635 (by decide +kernel) rfl, cd_X5_readSwing, ini_X5, ⟨by decide +kernel, by decide +kernel, by decide +kernel⟩, by decide⟩
theorem cs_X5_65 : CS RX5 65 yX5_readCloud cX5_readCloud 3 (some .boolean) 0 := ⟨inG 640 (by decide +kernel) rfl, cd_X5_readCloud, ini_X5, ⟨by decide +kernel, by decide +kernel, by decide +kernel⟩, by decide⟩
theorem cs_X5_132 : CS RX5 132 yX4_addCloud cX4_addCloud 4 none 3 := ⟨inG 644 (by decide +kernel) rfl, cd_X4_addCloud, ini_X4, ⟨by decide +kernel, by decide +kernel, by decide +kernel⟩, by decide⟩
theorem cs_X5_40 : CS RX5 40 yX6_takeSign cX6_takeSign 2 (some .boolean) 1 := ⟨inG 648 (by decide +kernel) rfl, cd_X6_takeSign, ini_X6, ⟨by decide +kernel, by decide +kernel, by decide +kernel⟩, by decide⟩
theorem cs_X8_120 : CS RX8 120 yX8_refuseText cX8_refuseText 1 (some .int) 0 := ⟨inG 652 (by decide +kernel) rfl, cd_X8_refuseText, ini_X8, ⟨by decide +kernel, by decide +kernel, by decide +kernel⟩, by decide⟩
theorem cs_X8_124 : CS RX8 124 yX3_clear cX3_clear 1 none 0 := ⟨inG 656 (by decide +kernel) rfl, cd_X3_clear, ini_X3, ⟨by decide +kernel, by decide +kernel, by decide +kernel⟩, by decide⟩
theorem cs_X3_52 : CS RX3 52 yX3_clearSeen cX3_clearSeen 1 none 0 := ⟨inG 660 (by decide +kernel) rfl, cd_X3_clearSeen, ini_X3, ⟨by decide +kernel, by decide +kernel, by decide +kernel⟩, by decide⟩
theorem cs_L_15 : CS RL 15 yX8_law cX8_law 3 (some .int) 1 := ⟨inG 664 (by decide +kernel) rfl, cd_X8_law, ini_X8, ⟨by decide +kernel, by decide +kernel, by decide +kernel⟩, by decide⟩
theorem cs_X8_130 : CS RX8 130 yX2_readInto cX2_readInto 4 (some .boolean) 3 := ⟨inG 668 (by decide +kernel) rfl, cd_X2_readInto, ini_X2, ⟨by decide +kernel, by decide +kernel, by decide +kernel⟩, by decide⟩
theorem cs_X2_23 : CS RX2 23 yX1_clear cX1_clear 1 none 0 := ⟨inG 672 (by decide +kernel) rfl, cd_X1_clear, ini_X1, ⟨by decide +kernel, by decide +kernel, by decide +kernel⟩, by decide⟩
theorem cs_X2_28 : CS RX2 28 yX2_readTime cX2_readTime 2 (some .int) 1 := ⟨inG 676 (by decide +kernel) rfl, cd_X2_readTime, ini_X2, ⟨by decide +kernel, by decide +kernel, by decide +kernel⟩, by decide⟩
theorem cs_X2_45 : CS RX2 45 yX2_canBegin cX2_canBegin 2 (some .boolean) 1 := ⟨inG 680 (by decide +kernel) rfl, cd_X2_canBegin, ini_X2, ⟨by decide +kernel, by decide +kernel, by decide +kernel⟩, by decide⟩
theorem cs_X2_42 : CS RX2 42 yX6_isAnyWord cX6_isAnyWord 1 (some .boolean) 0 := ⟨inG 684 (by decide +kernel) rfl, cd_X6_isAnyWord, ini_X6, ⟨by decide +kernel, by decide +kernel, by decide +kernel⟩, by decide⟩
theorem cs_X2_38 : CS RX2 38 yX6_refuse cX6_refuse 2 (some .boolean) 1 := ⟨inG 688 (by decide +kernel) rfl, cd_X6_refuse, ini_X6, ⟨by decide +kernel, by decide +kernel, by decide +kernel⟩, by decide⟩
theorem cs_X2_50 : CS RX2 50 yX6_isWord cX6_isWord 3 (some .boolean) 1 := ⟨inG 690 (by decide +kernel) rfl, cd_X6_isWord, ini_X6, ⟨by decide +kernel, by decide +kernel, by decide +kernel⟩, by decide⟩
theorem cs_X2_54 : CS RX2 54 yX2_readDial cX2_readDial 2 (some .int) 0 := ⟨inG 691 (by decide +kernel) rfl, cd_X2_readDial, ini_X2, ⟨by decide +kernel, by decide +kernel, by decide +kernel⟩, by decide⟩
theorem cs_X2_111 : CS RX2 111 yX2_open cX2_open 2 (some .int) 1 := ⟨inG 695 (by decide +kernel) rfl, cd_X2_open, ini_X2, ⟨by decide +kernel, by decide +kernel, by decide +kernel⟩, by decide⟩
theorem cs_X2_101 : CS RX2 101 yX6_advance cX6_advance 1 none 0 := ⟨inG 699 (by decide +kernel) rfl, cd_X6_advance, ini_X6, ⟨by decide +kernel, by decide +kernel, by decide +kernel⟩, by decide⟩
theorem cs_X2_104 : CS RX2 104 yX1_addNode cX1_addNode 3 (some .int) 1 := ⟨inG 700 (by decide +kernel) rfl, cd_X1_addNode, ini_X1, ⟨by decide +kernel, by decide +kernel, by decide +kernel⟩, by decide⟩
theorem cs_X2_114 : CS RX2 114 yX6_takeNumber cX6_takeNumber 3 (some .boolean) 2 := ⟨inG 704 (by decide +kernel) rfl, cd_X6_takeNumber, ini_X6, ⟨by decide +kernel, by decide +kernel, by decide +kernel⟩, by decide⟩
theorem cs_X2_121 : CS RX2 121 yX1_setValue cX1_setValue 3 none 2 := ⟨inG 705 (by decide +kernel) rfl, cd_X1_setValue, ini_X1, ⟨by decide +kernel, by decide +kernel, by decide +kernel⟩, by decide⟩
theorem cs_X1_37 : CS RX1 37 yX1_isNode cX1_isNode 2 (some .boolean) 1 := ⟨inG 709 (by decide +kernel) rfl, cd_X1_isNode, ini_X1, ⟨by decide +kernel, by decide +kernel, by decide +kernel⟩, by decide⟩
theorem cs_X2_60 : CS RX2 60 yX2_readMiddle cX2_readMiddle 4 (some .int) 0 := ⟨inG 714 (by decide +kernel) rfl, cd_X2_readMiddle, ini_X2, ⟨by decide +kernel, by decide +kernel, by decide +kernel⟩, by decide⟩
theorem cs_X2_125 : CS RX2 125 yX6_takeSign cX6_takeSign 2 (some .boolean) 1 := ⟨inG 718 (by decide +kernel) rfl, cd_X6_takeSign, ini_X6, ⟨by decide +kernel, by decide +kernel, by decide +kernel⟩, by decide⟩
theorem cs_X2_129 : CS RX2 129 yX2_takeOther cX2_takeOther 3 (some .int) 1 := ⟨inG 719 (by decide +kernel) rfl, cd_X2_takeOther, ini_X2, ⟨by decide +kernel, by decide +kernel, by decide +kernel⟩, by decide⟩
theorem cs_X2_135 : CS RX2 135 yX6_holdsNumber cX6_holdsNumber 5 (some .boolean) 2 := ⟨inG 723 (by decide +kernel) rfl, cd_X6_holdsNumber, ini_X6, ⟨by decide +kernel, by decide +kernel, by decide +kernel⟩, by decide⟩
theorem cs_X2_132 : CS RX2 132 yX6_isSign cX6_isSign 2 (some .boolean) 1 := ⟨inG 724 (by decide +kernel) rfl, cd_X6_isSign, ini_X6, ⟨by decide +kernel, by decide +kernel, by decide +kernel⟩, by decide⟩
theorem cs_X2_65 : CS RX2 65 yX2_readFirst cX2_readFirst 6 (some .int) 1 := ⟨inG 726 (by decide +kernel) rfl, cd_X2_readFirst, ini_X2, ⟨by decide +kernel, by decide +kernel, by decide +kernel⟩, by decide⟩
theorem cs_X2_138 : CS RX2 138 yX2_addPart cX2_addPart 4 (some .boolean) 3 := ⟨inG 730 (by decide +kernel) rfl, cd_X2_addPart, ini_X2, ⟨by decide +kernel, by decide +kernel, by decide +kernel⟩, by decide⟩
theorem cs_X2_107 : CS RX2 107 yX1_addPart cX1_addPart 4 none 3 := ⟨inG 734 (by decide +kernel) rfl, cd_X1_addPart, ini_X1, ⟨by decide +kernel, by decide +kernel, by decide +kernel⟩, by decide⟩
theorem cs_X2_70 : CS RX2 70 yX2_readCouple cX2_readCouple 6 (some .int) 2 := ⟨inG 739 (by decide +kernel) rfl, cd_X2_readCouple, ini_X2, ⟨by decide +kernel, by decide +kernel, by decide +kernel⟩, by decide⟩
theorem cs_X2_76 : CS RX2 76 yX2_readLate cX2_readLate 3 (some .int) 1 := ⟨inG 744 (by decide +kernel) rfl, cd_X2_readLate, ini_X2, ⟨by decide +kernel, by decide +kernel, by decide +kernel⟩, by decide⟩
theorem cs_X2_141 : CS RX2 141 yX6_takeSigned cX6_takeSigned 3 (some .boolean) 1 := ⟨inG 748 (by decide +kernel) rfl, cd_X6_takeSigned, ini_X6, ⟨by decide +kernel, by decide +kernel, by decide +kernel⟩, by decide⟩
theorem cs_X2_81 : CS RX2 81 yX2_readIf cX2_readIf 6 (some .int) 1 := ⟨inG 750 (by decide +kernel) rfl, cd_X2_readIf, ini_X2, ⟨by decide +kernel, by decide +kernel, by decide +kernel⟩, by decide⟩
theorem cs_X2_144 : CS RX2 144 yX2_readTest cX2_readTest 2 (some .int) 1 := ⟨inG 754 (by decide +kernel) rfl, cd_X2_readTest, ini_X2, ⟨by decide +kernel, by decide +kernel, by decide +kernel⟩, by decide⟩
theorem cs_X2_86 : CS RX2 86 yX2_readNot cX2_readNot 3 (some .int) 1 := ⟨inG 759 (by decide +kernel) rfl, cd_X2_readNot, ini_X2, ⟨by decide +kernel, by decide +kernel, by decide +kernel⟩, by decide⟩
theorem cs_X2_91 : CS RX2 91 yX2_readDark cX2_readDark 3 (some .int) 1 := ⟨inG 764 (by decide +kernel) rfl, cd_X2_readDark, ini_X2, ⟨by decide +kernel, by decide +kernel, by decide +kernel⟩, by decide⟩
theorem cs_X2_96 : CS RX2 96 yX2_readMonth cX2_readMonth 2 (some .int) 0 := ⟨inG 769 (by decide +kernel) rfl, cd_X2_readMonth, ini_X2, ⟨by decide +kernel, by decide +kernel, by decide +kernel⟩, by decide⟩
theorem cs_X2_149 : CS RX2 149 yX6_takeWord cX6_takeWord 2 (some .boolean) 1 := ⟨inG 775 (by decide +kernel) rfl, cd_X6_takeWord, ini_X6, ⟨by decide +kernel, by decide +kernel, by decide +kernel⟩, by decide⟩
theorem cs_X6_65 : CS RX6 65 yX6_isWord cX6_isWord 3 (some .boolean) 1 := ⟨inG 779 (by decide +kernel) rfl, cd_X6_isWord, ini_X6, ⟨by decide +kernel, by decide +kernel, by decide +kernel⟩, by decide⟩
theorem cs_X2_32 : CS RX2 32 yX6_isEnd cX6_isEnd 1 (some .boolean) 0 := ⟨inG 782 (by decide +kernel) rfl, cd_X6_isEnd, ini_X6, ⟨by decide +kernel, by decide +kernel, by decide +kernel⟩, by decide⟩
theorem cs_L_18 : CS RL 18 yX8_lawful cX8_lawful 3 (some .int) 2 := ⟨inG 787 (by decide +kernel) rfl, cd_X8_lawful, ini_X8, ⟨by decide +kernel, by decide +kernel, by decide +kernel⟩, by decide⟩
theorem cs_X8_139 : CS RX8 139 yX8_needDay cX8_needDay 1 none 1 := ⟨inG 791 (by decide +kernel) rfl, cd_X8_needDay, ini_X8, ⟨by decide +kernel, by decide +kernel, by decide +kernel⟩, by decide⟩
theorem cs_X8_142 : CS RX8 142 yX8_needMinute cX8_needMinute 1 none 1 := ⟨inG 810 (by decide +kernel) rfl, cd_X8_needMinute, ini_X8, ⟨by decide +kernel, by decide +kernel, by decide +kernel⟩, by decide⟩
theorem cs_X8_145 : CS RX8 145 yX8_needLaw cX8_needLaw 1 none 0 := ⟨inG 814 (by decide +kernel) rfl, cd_X8_needLaw, ini_X8, ⟨by decide +kernel, by decide +kernel, by decide +kernel⟩, by decide⟩
theorem cs_X8_148 : CS RX8 148 yX8_lawTells cX8_lawTells 3 (some .int) 2 := ⟨inG 819 (by decide +kernel) rfl, cd_X8_lawTells, ini_X8, ⟨by decide +kernel, by decide +kernel, by decide +kernel⟩, by decide⟩
theorem cs_X8_152 : CS RX8 152 yX8_fillTolds cX8_fillTolds 4 none 2 := ⟨inG 823 (by decide +kernel) rfl, cd_X8_fillTolds, ini_X8, ⟨by decide +kernel, by decide +kernel, by decide +kernel⟩, by decide⟩
theorem cs_X8_234 : CS RX8 234 yX8_toldNow cX8_toldNow 4 (some .int) 3 := ⟨inG 827 (by decide +kernel) rfl, cd_X8_toldNow, ini_X8, ⟨by decide +kernel, by decide +kernel, by decide +kernel⟩, by decide⟩
theorem cs_X8_238 : CS RX8 238 yX8_turnOn cX8_turnOn 3 (some .int) 2 := ⟨inG 831 (by decide +kernel) rfl, cd_X8_turnOn, ini_X8, ⟨by decide +kernel, by decide +kernel, by decide +kernel⟩, by decide⟩
theorem cs_X8_245 : CS RX8 245 yX3_turnBy cX3_turnBy 5 (some .int) 3 := ⟨inG 835 (by decide +kernel) rfl, cd_X3_turnBy, ini_X3, ⟨by decide +kernel, by decide +kernel, by decide +kernel⟩, by decide⟩
theorem cs_X8_241 : CS RX8 241 yX4_toldBy cX4_toldBy 8 (some .int) 5 := ⟨inG 839 (by decide +kernel) rfl, cd_X4_toldBy, ini_X4, ⟨by decide +kernel, by decide +kernel, by decide +kernel⟩, by decide⟩
theorem cs_X4_69 : CS RX4 69 yX4_plainlyTold cX4_plainlyTold 8 (some .int) 4 := ⟨inG 843 (by decide +kernel) rfl, cd_X4_plainlyTold, ini_X4, ⟨by decide +kernel, by decide +kernel, by decide +kernel⟩, by decide⟩
theorem cs_X4_77 : CS RX4 77 yX4_isGrown cX4_isGrown 3 (some .boolean) 2 := ⟨inG 847 (by decide +kernel) rfl, cd_X4_isGrown, ini_X4, ⟨by decide +kernel, by decide +kernel, by decide +kernel⟩, by decide⟩
theorem cs_X4_81 : CS RX4 81 yX4_moonAngle cX4_moonAngle 4 (some .int) 2 := ⟨inG 851 (by decide +kernel) rfl, cd_X4_moonAngle, ini_X4, ⟨by decide +kernel, by decide +kernel, by decide +kernel⟩, by decide⟩
theorem cs_X4_102 : CS RX4 102 yX4_hasMoon cX4_hasMoon 1 (some .boolean) 1 := ⟨inG 855 (by decide +kernel) rfl, cd_X4_hasMoon, ini_X4, ⟨by decide +kernel, by decide +kernel, by decide +kernel⟩, by decide⟩
theorem cs_X4_66 : CS RX4 66 yX4_ageOf cX4_ageOf 1 (some .int) 1 := ⟨inG 858 (by decide +kernel) rfl, cd_X4_ageOf, ini_X4, ⟨by decide +kernel, by decide +kernel, by decide +kernel⟩, by decide⟩
theorem cs_X4_93 : CS RX4 93 yX4_noonOf cX4_noonOf 2 (some .int) 1 := ⟨inG 861 (by decide +kernel) rfl, cd_X4_noonOf, ini_X4, ⟨by decide +kernel, by decide +kernel, by decide +kernel⟩, by decide⟩
theorem cs_X4_60 : CS RX4 60 yJ9_abs_0f7a4 cJ9_abs_0f7a4 1 (some .int) 1 := ⟨inG 865 (by decide +kernel) rfl, cd_J9_abs_0f7a4, ini_J9, ⟨by decide +kernel, by decide +kernel, by decide +kernel⟩, by decide⟩
theorem cs_X4_96 : CS RX4 96 yX4_halfOf cX4_halfOf 3 (some .int) 1 := ⟨inG 868 (by decide +kernel) rfl, cd_X4_halfOf, ini_X4, ⟨by decide +kernel, by decide +kernel, by decide +kernel⟩, by decide⟩
theorem cs_X4_105 : CS RX4 105 yX4_moonNoonOf cX4_moonNoonOf 1 (some .int) 1 := ⟨inG 873 (by decide +kernel) rfl, cd_X4_moonNoonOf, ini_X4, ⟨by decide +kernel, by decide +kernel, by decide +kernel⟩, by decide⟩
theorem cs_X8_397 : CS RX8 397 yJ9_floorMod_7cf53 cJ9_floorMod_7cf53 3 (some .int) 2 := ⟨inG 879 (by decide +kernel) rfl, cd_J9_floorMod_7cf53, ini_J9, ⟨by decide +kernel, by decide +kernel, by decide +kernel⟩, by decide⟩
theorem cs_X4_84 : CS RX4 84 yX4_sunAngle cX4_sunAngle 5 (some .int) 3 := ⟨inG 882 (by decide +kernel) rfl, cd_X4_sunAngle, ini_X4, ⟨by decide +kernel, by decide +kernel, by decide +kernel⟩, by decide⟩
theorem cs_X4_99 : CS RX4 99 yX4_isClouded cX4_isClouded 5 (some .boolean) 2 := ⟨inG 886 (by decide +kernel) rfl, cd_X4_isClouded, ini_X4, ⟨by decide +kernel, by decide +kernel, by decide +kernel⟩, by decide⟩
theorem cs_X4_89 : CS RX4 89 yX4_hasTilt cX4_hasTilt 1 (some .boolean) 1 := ⟨inG 890 (by decide +kernel) rfl, cd_X4_hasTilt, ini_X4, ⟨by decide +kernel, by decide +kernel, by decide +kernel⟩, by decide⟩
theorem cs_X4_73 : CS RX4 73 yJ9_floorMod_7cf53 cJ9_floorMod_7cf53 3 (some .int) 2 := ⟨inG 893 (by decide +kernel) rfl, cd_J9_floorMod_7cf53, ini_J9, ⟨by decide +kernel, by decide +kernel, by decide +kernel⟩, by decide⟩
theorem cs_X8_156 : CS RX8 156 yX1_tellsBy cX1_tellsBy 3 (some .int) 2 := ⟨inG 894 (by decide +kernel) rfl, cd_X1_tellsBy, ini_X1, ⟨by decide +kernel, by decide +kernel, by decide +kernel⟩, by decide⟩
theorem cs_X1_41 : CS RX1 41 yX1_timeAt cX1_timeAt 3 (some .int) 2 := ⟨inG 898 (by decide +kernel) rfl, cd_X1_timeAt, ini_X1, ⟨by decide +kernel, by decide +kernel, by decide +kernel⟩, by decide⟩
theorem cs_X1_45 : CS RX1 45 yX1_toldBy cX1_toldBy 2 (some .int) 1 := ⟨inG 902 (by decide +kernel) rfl, cd_X1_toldBy, ini_X1, ⟨by decide +kernel, by decide +kernel, by decide +kernel⟩, by decide⟩
theorem cs_X1_53 : CS RX1 53 yX1_firstAt cX1_firstAt 6 (some .int) 2 := ⟨inG 909 (by decide +kernel) rfl, cd_X1_firstAt, ini_X1, ⟨by decide +kernel, by decide +kernel, by decide +kernel⟩, by decide⟩
theorem cs_X1_65 : CS RX1 65 yX1_partAt cX1_partAt 5 (some .int) 2 := ⟨inG 913 (by decide +kernel) rfl, cd_X1_partAt, ini_X1, ⟨by decide +kernel, by decide +kernel, by decide +kernel⟩, by decide⟩
theorem cs_X1_56 : CS RX1 56 yX1_meanAt cX1_meanAt 5 (some .int) 2 := ⟨inG 917 (by decide +kernel) rfl, cd_X1_meanAt, ini_X1, ⟨by decide +kernel, by decide +kernel, by decide +kernel⟩, by decide⟩
theorem cs_X1_59 : CS RX1 59 yX1_laterAt cX1_laterAt 4 (some .int) 2 := ⟨inG 921 (by decide +kernel) rfl, cd_X1_laterAt, ini_X1, ⟨by decide +kernel, by decide +kernel, by decide +kernel⟩, by decide⟩
theorem cs_X1_68 : CS RX1 68 yJ9_floorMod_7cf53 cJ9_floorMod_7cf53 3 (some .int) 2 := ⟨inG 925 (by decide +kernel) rfl, cd_J9_floorMod_7cf53, ini_J9, ⟨by decide +kernel, by decide +kernel, by decide +kernel⟩, by decide⟩
theorem cs_X1_62 : CS RX1 62 yX1_chosenAt cX1_chosenAt 4 (some .int) 2 := ⟨inG 926 (by decide +kernel) rfl, cd_X1_chosenAt, ini_X1, ⟨by decide +kernel, by decide +kernel, by decide +kernel⟩, by decide⟩
theorem cs_X1_73 : CS RX1 73 yX1_testAt cX1_testAt 3 (some .boolean) 2 := ⟨inG 930 (by decide +kernel) rfl, cd_X1_testAt, ini_X1, ⟨by decide +kernel, by decide +kernel, by decide +kernel⟩, by decide⟩
theorem cs_X1_77 : CS RX1 77 yX1_isBefore cX1_isBefore 5 (some .boolean) 2 := ⟨inG 934 (by decide +kernel) rfl, cd_X1_isBefore, ini_X1, ⟨by decide +kernel, by decide +kernel, by decide +kernel⟩, by decide⟩
theorem cs_L_24 : CS RL 24 yX8_judged cX8_judged 6 (some .int) 2 := ⟨inG 941 (by decide +kernel) rfl, cd_X8_judged, ini_X8, ⟨by decide +kernel, by decide +kernel, by decide +kernel⟩, by decide⟩
theorem cs_X8_160 : CS RX8 160 yX8_needWhat cX8_needWhat 2 none 2 := ⟨inG 945 (by decide +kernel) rfl, cd_X8_needWhat, ini_X8, ⟨by decide +kernel, by decide +kernel, by decide +kernel⟩, by decide⟩
theorem cs_X8_163 : CS RX8 163 yX7_clear cX7_clear 1 none 0 := ⟨inG 949 (by decide +kernel) rfl, cd_X7_clear, ini_X7, ⟨by decide +kernel, by decide +kernel, by decide +kernel⟩, by decide⟩
theorem cs_X8_164 : CS RX8 164 yX7_add cX7_add 5 none 3 := ⟨inG 953 (by decide +kernel) rfl, cd_X7_add, ini_X7, ⟨by decide +kernel, by decide +kernel, by decide +kernel⟩, by decide⟩
theorem cs_X8_317 : CS RX8 317 yJ9_abs_0f7a4 cJ9_abs_0f7a4 1 (some .int) 1 := ⟨inG 960 (by decide +kernel) rfl, cd_J9_abs_0f7a4, ini_J9, ⟨by decide +kernel, by decide +kernel, by decide +kernel⟩, by decide⟩
theorem cs_X8_394 : CS RX8 394 yJ9_min_7cf53 cJ9_min_7cf53 2 (some .int) 2 := ⟨inG 961 (by decide +kernel) rfl, cd_J9_min_7cf53, ini_J9, ⟨by decide +kernel, by decide +kernel, by decide +kernel⟩, by decide⟩
theorem cs_X8_168 : CS RX8 168 yX8_isBeaten cX8_isBeaten 5 (some .boolean) 2 := ⟨inG 962 (by decide +kernel) rfl, cd_X8_isBeaten, ini_X8, ⟨by decide +kernel, by decide +kernel, by decide +kernel⟩, by decide⟩
theorem cs_X8_181 : CS RX8 181 yX8_wrongBy cX8_wrongBy 3 (some .int) 2 := ⟨inG 966 (by decide +kernel) rfl, cd_X8_wrongBy, ini_X8, ⟨by decide +kernel, by decide +kernel, by decide +kernel⟩, by decide⟩
theorem cs_L_27 : CS RL 27 yX8_count cX8_count 2 (some .int) 1 := ⟨inG 970 (by decide +kernel) rfl, cd_X8_count, ini_X8, ⟨by decide +kernel, by decide +kernel, by decide +kernel⟩, by decide⟩
theorem cs_L_30 : CS RL 30 yX8_dial cX8_dial 3 (some .int) 2 := ⟨inG 978 (by decide +kernel) rfl, cd_X8_dial, ini_X8, ⟨by decide +kernel, by decide +kernel, by decide +kernel⟩, by decide⟩
theorem cs_X8_209 : CS RX8 209 yX8_needDial cX8_needDial 2 none 1 := ⟨inG 982 (by decide +kernel) rfl, cd_X8_needDial, ini_X8, ⟨by decide +kernel, by decide +kernel, by decide +kernel⟩, by decide⟩
theorem cs_L_33 : CS RL 33 yX8_day cX8_day 3 (some .int) 2 := ⟨inG 990 (by decide +kernel) rfl, cd_X8_day, ini_X8, ⟨by decide +kernel, by decide +kernel, by decide +kernel⟩, by decide⟩
theorem cs_X8_227 : CS RX8 227 yX4_noonOf cX4_noonOf 2 (some .int) 1 := ⟨inG 994 (by decide +kernel) rfl, cd_X4_noonOf, ini_X4, ⟨by decide +kernel, by decide +kernel, by decide +kernel⟩, by decide⟩
theorem cs_X8_231 : CS RX8 231 yX4_halfOf cX4_halfOf 3 (some .int) 1 := ⟨inG 995 (by decide +kernel) rfl, cd_X4_halfOf, ini_X4, ⟨by decide +kernel, by decide +kernel, by decide +kernel⟩, by decide⟩
theorem cs_L_36 : CS RL 36 yX8_tells cX8_tells 4 (some .int) 3 := ⟨inG 999 (by decide +kernel) rfl, cd_X8_tells, ini_X8, ⟨by decide +kernel, by decide +kernel, by decide +kernel⟩, by decide⟩
theorem cs_L_40 : CS RL 40 yX8_turn cX8_turn 3 (some .int) 2 := ⟨inG 1006 (by decide +kernel) rfl, cd_X8_turn, ini_X8, ⟨by decide +kernel, by decide +kernel, by decide +kernel⟩, by decide⟩
theorem cs_L_43 : CS RL 43 yX8_read cX8_read 5 (some .int) 4 := ⟨inG 1013 (by decide +kernel) rfl, cd_X8_read, ini_X8, ⟨by decide +kernel, by decide +kernel, by decide +kernel⟩, by decide⟩
theorem cs_X8_248 : CS RX8 248 yX3_addReading cX3_addReading 5 (some .int) 4 := ⟨inG 1017 (by decide +kernel) rfl, cd_X3_addReading, ini_X3, ⟨by decide +kernel, by decide +kernel, by decide +kernel⟩, by decide⟩
theorem cs_L_47 : CS RL 47 yX8_faults cX8_faults 3 (some .int) 2 := ⟨inG 1024 (by decide +kernel) rfl, cd_X8_faults, ini_X8, ⟨by decide +kernel, by decide +kernel, by decide +kernel⟩, by decide⟩
theorem cs_X8_252 : CS RX8 252 yX0_weigh cX0_weigh 6 none 3 := ⟨inG 1028 (by decide +kernel) rfl, cd_X0_weigh, ini_X0, ⟨by decide +kernel, by decide +kernel, by decide +kernel⟩, by decide⟩
theorem cs_X0_25 : CS RX0 25 yX3_firstReadingOf cX3_firstReadingOf 3 (some .int) 1 := ⟨inG 1032 (by decide +kernel) rfl, cd_X3_firstReadingOf, ini_X3, ⟨by decide +kernel, by decide +kernel, by decide +kernel⟩, by decide⟩
theorem cs_X0_31 : CS RX0 31 yX0_weighTilt cX0_weighTilt 9 none 4 := ⟨inG 1036 (by decide +kernel) rfl, cd_X0_weighTilt, ini_X0, ⟨by decide +kernel, by decide +kernel, by decide +kernel⟩, by decide⟩
theorem cs_X0_44 : CS RX0 44 yX4_plainlyTold cX4_plainlyTold 8 (some .int) 4 := ⟨inG 1040 (by decide +kernel) rfl, cd_X4_plainlyTold, ini_X4, ⟨by decide +kernel, by decide +kernel, by decide +kernel⟩, by decide⟩
theorem cs_X0_56 : CS RX0 56 yJ9_abs_0f7a4 cJ9_abs_0f7a4 1 (some .int) 1 := ⟨inG 1042 (by decide +kernel) rfl, cd_J9_abs_0f7a4, ini_J9, ⟨by decide +kernel, by decide +kernel, by decide +kernel⟩, by decide⟩
theorem cs_X0_61 : CS RX0 61 yX0_tellsAllReadings cX0_tellsAllReadings 6 (some .boolean) 5 := ⟨inG 1043 (by decide +kernel) rfl, cd_X0_tellsAllReadings, ini_X0, ⟨by decide +kernel, by decide +kernel, by decide +kernel⟩, by decide⟩
theorem cs_X0_68 : CS RX0 68 yX4_toldBy cX4_toldBy 8 (some .int) 5 := ⟨inG 1046 (by decide +kernel) rfl, cd_X4_toldBy, ini_X4, ⟨by decide +kernel, by decide +kernel, by decide +kernel⟩, by decide⟩
theorem cs_X8_264 : CS RX8 264 yX0_leastTurn cX0_leastTurn 3 (some .int) 0 := ⟨inG 1048 (by decide +kernel) rfl, cd_X0_leastTurn, ini_X0, ⟨by decide +kernel, by decide +kernel, by decide +kernel⟩, by decide⟩
theorem cs_X0_72 : CS RX0 72 yX0_isEmpty cX0_isEmpty 2 (some .boolean) 1 := ⟨inG 1052 (by decide +kernel) rfl, cd_X0_isEmpty, ini_X0, ⟨by decide +kernel, by decide +kernel, by decide +kernel⟩, by decide⟩
theorem cs_X0_76 : CS RX0 76 yJ9_min_7cf53 cJ9_min_7cf53 2 (some .int) 2 := ⟨inG 1056 (by decide +kernel) rfl, cd_J9_min_7cf53, ini_J9, ⟨by decide +kernel, by decide +kernel, by decide +kernel⟩, by decide⟩
theorem cs_X8_267 : CS RX8 267 yX0_greatestTurn cX0_greatestTurn 3 (some .int) 0 := ⟨inG 1057 (by decide +kernel) rfl, cd_X0_greatestTurn, ini_X0, ⟨by decide +kernel, by decide +kernel, by decide +kernel⟩, by decide⟩
theorem cs_X0_80 : CS RX0 80 yJ9_max_7cf53 cJ9_max_7cf53 2 (some .int) 2 := ⟨inG 1061 (by decide +kernel) rfl, cd_J9_max_7cf53, ini_J9, ⟨by decide +kernel, by decide +kernel, by decide +kernel⟩, by decide⟩
theorem cs_X8_270 : CS RX8 270 yX0_leastTilt cX0_leastTilt 2 (some .int) 0 := ⟨inG 1062 (by decide +kernel) rfl, cd_X0_leastTilt, ini_X0, ⟨by decide +kernel, by decide +kernel, by decide +kernel⟩, by decide⟩
theorem cs_X8_273 : CS RX8 273 yX0_greatestTilt cX0_greatestTilt 2 (some .int) 0 := ⟨inG 1066 (by decide +kernel) rfl, cd_X0_greatestTilt, ini_X0, ⟨by decide +kernel, by decide +kernel, by decide +kernel⟩, by decide⟩
theorem cs_L_50 : CS RL 50 yX8_next cX8_next 8 (some .int) 3 := ⟨inG 1073 (by decide +kernel) rfl, cd_X8_next, ini_X8, ⟨by decide +kernel, by decide +kernel, by decide +kernel⟩, by decide⟩
theorem cs_X8_276 : CS RX8 276 yX0_greatestGroup cX0_greatestGroup 8 (some .int) 4 := ⟨inG 1077 (by decide +kernel) rfl, cd_X0_greatestGroup, ini_X0, ⟨by decide +kernel, by decide +kernel, by decide +kernel⟩, by decide⟩
theorem cs_X0_86 : CS RX0 86 yX0_couplesOfTurn cX0_couplesOfTurn 4 (some .int) 1 := ⟨inG 1081 (by decide +kernel) rfl, cd_X0_couplesOfTurn, ini_X0, ⟨by decide +kernel, by decide +kernel, by decide +kernel⟩, by decide⟩
theorem cs_X0_89 : CS RX0 89 yJ7_fill_53178 cJ7_fill_53178 4 none 2 := ⟨inG 1085 (by decide +kernel) rfl, cd_J7_fill_53178, ini_J7, ⟨by decide +kernel, by decide +kernel, by decide +kernel⟩, by decide⟩
theorem cs_X0_95 : CS RX0 95 yX0_addStep cX0_addStep 4 none 2 := ⟨inG 1086 (by decide +kernel) rfl, cd_X0_addStep, ini_X0, ⟨by decide +kernel, by decide +kernel, by decide +kernel⟩, by decide⟩
theorem cs_X0_99 : CS RX0 99 yX0_highestStep cX0_highestStep 4 (some .int) 0 := ⟨inG 1090 (by decide +kernel) rfl, cd_X0_highestStep, ini_X0, ⟨by decide +kernel, by decide +kernel, by decide +kernel⟩, by decide⟩
theorem cs_L_53 : CS RL 53 yX8_see cX8_see 3 (some .int) 2 := ⟨inG 1097 (by decide +kernel) rfl, cd_X8_see, ini_X8, ⟨by decide +kernel, by decide +kernel, by decide +kernel⟩, by decide⟩
theorem cs_L_56 : CS RL 56 yX8_minutes cX8_minutes 3 (some .int) 2 := ⟨inG 1104 (by decide +kernel) rfl, cd_X8_minutes, ini_X8, ⟨by decide +kernel, by decide +kernel, by decide +kernel⟩, by decide⟩
theorem cs_X8_286 : CS RX8 286 yX8_addFitting cX8_addFitting 5 none 1 := ⟨inG 1108 (by decide +kernel) rfl, cd_X8_addFitting, ini_X8, ⟨by decide +kernel, by decide +kernel, by decide +kernel⟩, by decide⟩
theorem cs_X8_298 : CS RX8 298 yX7_addAllMinutes cX7_addAllMinutes 1 none 0 := ⟨inG 1112 (by decide +kernel) rfl, cd_X7_addAllMinutes, ini_X7, ⟨by decide +kernel, by decide +kernel, by decide +kernel⟩, by decide⟩
theorem cs_X8_301 : CS RX8 301 yX4_findMoments cX4_findMoments 14 (some .int) 5 := ⟨inG 1116 (by decide +kernel) rfl, cd_X4_findMoments, ini_X4, ⟨by decide +kernel, by decide +kernel, by decide +kernel⟩, by decide⟩
theorem cs_X4_111 : CS RX4 111 yX4_minuteAt cX4_minuteAt 4 (some .int) 3 := ⟨inG 1120 (by decide +kernel) rfl, cd_X4_minuteAt, ini_X4, ⟨by decide +kernel, by decide +kernel, by decide +kernel⟩, by decide⟩
theorem cs_X4_114 : CS RX4 114 yX4_toldBy cX4_toldBy 8 (some .int) 5 := ⟨inG 1124 (by decide +kernel) rfl, cd_X4_toldBy, ini_X4, ⟨by decide +kernel, by decide +kernel, by decide +kernel⟩, by decide⟩
theorem cs_X8_305 : CS RX8 305 yX8_allTellAsSeen cX8_allTellAsSeen 5 (some .boolean) 2 := ⟨inG 1125 (by decide +kernel) rfl, cd_X8_allTellAsSeen, ini_X8, ⟨by decide +kernel, by decide +kernel, by decide +kernel⟩, by decide⟩
theorem cs_X8_308 : CS RX8 308 yX7_addMinute cX7_addMinute 2 none 1 := ⟨inG 1129 (by decide +kernel) rfl, cd_X7_addMinute, ini_X7, ⟨by decide +kernel, by decide +kernel, by decide +kernel⟩, by decide⟩
theorem cs_X7_47 : CS RX7 47 yJ9_min_7cf53 cJ9_min_7cf53 2 (some .int) 2 := ⟨inG 1133 (by decide +kernel) rfl, cd_J9_min_7cf53, ini_J9, ⟨by decide +kernel, by decide +kernel, by decide +kernel⟩, by decide⟩
theorem cs_X7_52 : CS RX7 52 yJ9_max_7cf53 cJ9_max_7cf53 2 (some .int) 2 := ⟨inG 1134 (by decide +kernel) rfl, cd_J9_max_7cf53, ini_J9, ⟨by decide +kernel, by decide +kernel, by decide +kernel⟩, by decide⟩
theorem cs_L_59 : CS RL 59 yX8_days cX8_days 6 (some .int) 1 := ⟨inG 1138 (by decide +kernel) rfl, cd_X8_days, ini_X8, ⟨by decide +kernel, by decide +kernel, by decide +kernel⟩, by decide⟩
theorem cs_L_62 : CS RL 62 yX8_late cX8_late 5 (some .int) 4 := ⟨inG 1145 (by decide +kernel) rfl, cd_X8_late, ini_X8, ⟨by decide +kernel, by decide +kernel, by decide +kernel⟩, by decide⟩
theorem cs_X8_311 : CS RX8 311 yX8_lateOn cX8_lateOn 7 (some .int) 4 := ⟨inG 1149 (by decide +kernel) rfl, cd_X8_lateOn, ini_X8, ⟨by decide +kernel, by decide +kernel, by decide +kernel⟩, by decide⟩
theorem cs_X8_314 : CS RX8 314 yX8_firstMoment cX8_firstMoment 7 (some .int) 3 := ⟨inG 1153 (by decide +kernel) rfl, cd_X8_firstMoment, ini_X8, ⟨by decide +kernel, by decide +kernel, by decide +kernel⟩, by decide⟩
theorem cs_L_65 : CS RL 65 yX8_meet cX8_meet 10 (some .int) 5 := ⟨inG 1160 (by decide +kernel) rfl, cd_X8_meet, ini_X8, ⟨by decide +kernel, by decide +kernel, by decide +kernel⟩, by decide⟩
theorem cs_L_69 : CS RL 69 yX8_mend cX8_mend 5 (some .int) 3 := ⟨inG 1167 (by decide +kernel) rfl, cd_X8_mend, ini_X8, ⟨by decide +kernel, by decide +kernel, by decide +kernel⟩, by decide⟩
theorem cs_X8_322 : CS RX8 322 yX3_addMend cX3_addMend 4 (some .int) 3 := ⟨inG 1171 (by decide +kernel) rfl, cd_X3_addMend, ini_X3, ⟨by decide +kernel, by decide +kernel, by decide +kernel⟩, by decide⟩
theorem cs_L_72 : CS RL 72 yX8_best cX8_best 6 (some .int) 4 := ⟨inG 1178 (by decide +kernel) rfl, cd_X8_best, ini_X8, ⟨by decide +kernel, by decide +kernel, by decide +kernel⟩, by decide⟩
theorem cs_X8_329 : CS RX8 329 yX7_clearTurns cX7_clearTurns 1 none 0 := ⟨inG 1184 (by decide +kernel) rfl, cd_X7_clearTurns, ini_X7, ⟨by decide +kernel, by decide +kernel, by decide +kernel⟩, by decide⟩
theorem cs_X7_55 : CS RX7 55 yJ7_fill_53178 cJ7_fill_53178 4 none 2 := ⟨inG 1188 (by decide +kernel) rfl, cd_J7_fill_53178, ini_J7, ⟨by decide +kernel, by decide +kernel, by decide +kernel⟩, by decide⟩
theorem cs_X8_332 : CS RX8 332 yX8_addRightTurns cX8_addRightTurns 7 none 4 := ⟨inG 1189 (by decide +kernel) rfl, cd_X8_addRightTurns, ini_X8, ⟨by decide +kernel, by decide +kernel, by decide +kernel⟩, by decide⟩
theorem cs_X8_342 : CS RX8 342 yX4_plainlyTold cX4_plainlyTold 8 (some .int) 4 := ⟨inG 1193 (by decide +kernel) rfl, cd_X4_plainlyTold, ini_X4, ⟨by decide +kernel, by decide +kernel, by decide +kernel⟩, by decide⟩
theorem cs_X8_345 : CS RX8 345 yX8_around cX8_around 1 (some .int) 1 := ⟨inG 1194 (by decide +kernel) rfl, cd_X8_around, ini_X8, ⟨by decide +kernel, by decide +kernel, by decide +kernel⟩, by decide⟩
theorem cs_X8_348 : CS RX8 348 yX7_addTurns cX7_addTurns 5 none 2 := ⟨inG 1195 (by decide +kernel) rfl, cd_X7_addTurns, ini_X7, ⟨by decide +kernel, by decide +kernel, by decide +kernel⟩, by decide⟩
theorem cs_X8_336 : CS RX8 336 yX7_bestTurn cX7_bestTurn 6 (some .int) 1 := ⟨inG 1199 (by decide +kernel) rfl, cd_X7_bestTurn, ini_X7, ⟨by decide +kernel, by decide +kernel, by decide +kernel⟩, by decide⟩
theorem cs_X7_61 : CS RX7 61 yJ9_abs_0f7a4 cJ9_abs_0f7a4 1 (some .int) 1 := ⟨inG 1203 (by decide +kernel) rfl, cd_J9_abs_0f7a4, ini_J9, ⟨by decide +kernel, by decide +kernel, by decide +kernel⟩, by decide⟩
theorem cs_L_75 : CS RL 75 yX8_year cX8_year 4 (some .int) 3 := ⟨inG 1207 (by decide +kernel) rfl, cd_X8_year, ini_X8, ⟨by decide +kernel, by decide +kernel, by decide +kernel⟩, by decide⟩
theorem cs_X8_351 : CS RX8 351 yX8_tallyYear cX8_tallyYear 4 none 2 := ⟨inG 1211 (by decide +kernel) rfl, cd_X8_tallyYear, ini_X8, ⟨by decide +kernel, by decide +kernel, by decide +kernel⟩, by decide⟩
theorem cs_L_78 : CS RL 78 yX8_live cX8_live 7 (some .int) 1 := ⟨inG 1218 (by decide +kernel) rfl, cd_X8_live, ini_X8, ⟨by decide +kernel, by decide +kernel, by decide +kernel⟩, by decide⟩
theorem cs_L_81 : CS RL 81 yX8_middle cX8_middle 4 (some .int) 3 := ⟨inG 1225 (by decide +kernel) rfl, cd_X8_middle, ini_X8, ⟨by decide +kernel, by decide +kernel, by decide +kernel⟩, by decide⟩
theorem cs_X8_356 : CS RX8 356 yX8_middleOf cX8_middleOf 6 (some .int) 3 := ⟨inG 1230 (by decide +kernel) rfl, cd_X8_middleOf, ini_X8, ⟨by decide +kernel, by decide +kernel, by decide +kernel⟩, by decide⟩
theorem cs_L_84 : CS RL 84 yX8_together cX8_together 8 (some .int) 2 := ⟨inG 1234 (by decide +kernel) rfl, cd_X8_together, ini_X8, ⟨by decide +kernel, by decide +kernel, by decide +kernel⟩, by decide⟩
theorem cs_X8_360 : CS RX8 360 yX7_clearGroups cX7_clearGroups 1 none 0 := ⟨inG 1238 (by decide +kernel) rfl, cd_X7_clearGroups, ini_X7, ⟨by decide +kernel, by decide +kernel, by decide +kernel⟩, by decide⟩
theorem cs_X8_363 : CS RX8 363 yX8_litDials cX8_litDials 6 (some .int) 2 := ⟨inG 1242 (by decide +kernel) rfl, cd_X8_litDials, ini_X8, ⟨by decide +kernel, by decide +kernel, by decide +kernel⟩, by decide⟩
theorem cs_X8_366 : CS RX8 366 yX7_addGroup cX7_addGroup 2 none 1 := ⟨inG 1246 (by decide +kernel) rfl, cd_X7_addGroup, ini_X7, ⟨by decide +kernel, by decide +kernel, by decide +kernel⟩, by decide⟩
theorem cs_X8_369 : CS RX8 369 yX7_minutesOfBoth cX7_minutesOfBoth 6 (some .int) 2 := ⟨inG 1250 (by decide +kernel) rfl, cd_X7_minutesOfBoth, ini_X7, ⟨by decide +kernel, by decide +kernel, by decide +kernel⟩, by decide⟩
theorem cs_L_87 : CS RL 87 yX8_takes cX8_takes 5 (some .int) 2 := ⟨inG 1257 (by decide +kernel) rfl, cd_X8_takes, ini_X8, ⟨by decide +kernel, by decide +kernel, by decide +kernel⟩, by decide⟩
theorem cs_X8_372 : CS RX8 372 yX8_takenOn cX8_takenOn 3 (some .int) 2 := ⟨inG 1261 (by decide +kernel) rfl, cd_X8_takenOn, ini_X8, ⟨by decide +kernel, by decide +kernel, by decide +kernel⟩, by decide⟩
theorem cs_X8_375 : CS RX8 375 yX4_litMinutes cX4_litMinutes 3 (some .int) 2 := ⟨inG 1265 (by decide +kernel) rfl, cd_X4_litMinutes, ini_X4, ⟨by decide +kernel, by decide +kernel, by decide +kernel⟩, by decide⟩
theorem cs_X4_118 : CS RX4 118 yX4_moonMinutes cX4_moonMinutes 6 (some .int) 1 := ⟨inG 1269 (by decide +kernel) rfl, cd_X4_moonMinutes, ini_X4, ⟨by decide +kernel, by decide +kernel, by decide +kernel⟩, by decide⟩
theorem cs_X4_124 : CS RX4 124 yX4_shared cX4_shared 4 (some .int) 4 := ⟨inG 1273 (by decide +kernel) rfl, cd_X4_shared, ini_X4, ⟨by decide +kernel, by decide +kernel, by decide +kernel⟩, by decide⟩
theorem cs_X4_127 : CS RX4 127 yJ9_min_7cf53 cJ9_min_7cf53 2 (some .int) 2 := ⟨inG 1276 (by decide +kernel) rfl, cd_J9_min_7cf53, ini_J9, ⟨by decide +kernel, by decide +kernel, by decide +kernel⟩, by decide⟩
theorem cs_X4_130 : CS RX4 130 yJ9_max_7cf53 cJ9_max_7cf53 2 (some .int) 2 := ⟨inG 1277 (by decide +kernel) rfl, cd_J9_max_7cf53, ini_J9, ⟨by decide +kernel, by decide +kernel, by decide +kernel⟩, by decide⟩
theorem cs_X4_121 : CS RX4 121 yX4_sunMinutes cX4_sunMinutes 9 (some .int) 2 := ⟨inG 1278 (by decide +kernel) rfl, cd_X4_sunMinutes, ini_X4, ⟨by decide +kernel, by decide +kernel, by decide +kernel⟩, by decide⟩
theorem cs_L_93 : CS RL 93 yX9_init cX9_init 1 none 0 := ⟨inG 1284 (by decide +kernel) rfl, cd_X9_init, ini_X9, ⟨by decide +kernel, by decide +kernel, by decide +kernel⟩, by decide⟩
theorem cs_L_104 : CS RL 104 yX9_thrown cX9_thrown 1 (some .int) 0 := ⟨inG 1464 (by decide +kernel) rfl, cd_X9_thrown, ini_X9, ⟨by decide +kernel, by decide +kernel, by decide +kernel⟩, by decide⟩
theorem cs_L_97 : CS RL 97 yX9_feed cX9_feed 6 (some .int) 5 := ⟨inG 1468 (by decide +kernel) rfl, cd_X9_feed, ini_X9, ⟨by decide +kernel, by decide +kernel, by decide +kernel⟩, by decide⟩
theorem cs_X9_108 : CS RX9 108 yX9_lays cX9_lays 3 none 1 := ⟨inG 1472 (by decide +kernel) rfl, cd_X9_lays, ini_X9, ⟨by decide +kernel, by decide +kernel, by decide +kernel⟩, by decide⟩
theorem cs_L_103 : CS RL 103 yX9_port cX9_port 3 (some .int) 1 := ⟨inG 1476 (by decide +kernel) rfl, cd_X9_port, ini_X9, ⟨by decide +kernel, by decide +kernel, by decide +kernel⟩, by decide⟩
theorem cs_X9_207 : CS RX9 207 yX9_right cX9_right 3 (some .boolean) 2 := ⟨inG 1480 (by decide +kernel) rfl, cd_X9_right, ini_X9, ⟨by decide +kernel, by decide +kernel, by decide +kernel⟩, by decide⟩
theorem cs_X9_165 : CS RX9 165 yX9_steps cX9_steps 2 none 0 := ⟨inG 1484 (by decide +kernel) rfl, cd_X9_steps, ini_X9, ⟨by decide +kernel, by decide +kernel, by decide +kernel⟩, by decide⟩
theorem cs_X9_118 : CS RX9 118 yX9_byteAt cX9_byteAt 2 (some .int) 1 := ⟨inG 1488 (by decide +kernel) rfl, cd_X9_byteAt, ini_X9, ⟨by decide +kernel, by decide +kernel, by decide +kernel⟩, by decide⟩
theorem cs_X9_138 : CS RX9 138 yX9_isLetter cX9_isLetter 1 (some .boolean) 1 := ⟨inG 1492 (by decide +kernel) rfl, cd_X9_isLetter, ini_X9, ⟨by decide +kernel, by decide +kernel, by decide +kernel⟩, by decide⟩
theorem cs_X9_142 : CS RX9 142 yX9_isDigit cX9_isDigit 1 (some .boolean) 1 := ⟨inG 1495 (by decide +kernel) rfl, cd_X9_isDigit, ini_X9, ⟨by decide +kernel, by decide +kernel, by decide +kernel⟩, by decide⟩
theorem cs_X9_161 : CS RX9 161 yX9_isGood cX9_isGood 1 (some .boolean) 0 := ⟨inG 1498 (by decide +kernel) rfl, cd_X9_isGood, ini_X9, ⟨by decide +kernel, by decide +kernel, by decide +kernel⟩, by decide⟩
theorem cs_X9_211 : CS RX9 211 yX9_line cX9_line 2 none 0 := ⟨inG 1502 (by decide +kernel) rfl, cd_X9_line, ini_X9, ⟨by decide +kernel, by decide +kernel, by decide +kernel⟩, by decide⟩
theorem cs_X9_178 : CS RX9 178 yX9_is cX9_is 2 (some .boolean) 1 := ⟨inG 1506 (by decide +kernel) rfl, cd_X9_is, ini_X9, ⟨by decide +kernel, by decide +kernel, by decide +kernel⟩, by decide⟩
theorem cs_X9_154 : CS RX9 154 yX9_letters cX9_letters 1 (some .long) 1 := ⟨inG 1510 (by decide +kernel) rfl, cd_X9_letters, ini_X9, ⟨by decide +kernel, by decide +kernel, by decide +kernel⟩, by decide⟩
theorem cs_X9_150 : CS RX9 150 yX9_spelled cX9_spelled 9 (some .long) 7 := ⟨inG 1513 (by decide +kernel) rfl, cd_X9_spelled, ini_X9, ⟨by decide +kernel, by decide +kernel, by decide +kernel⟩, by decide⟩
theorem cs_X9_191 : CS RX9 191 yX9_readsDial cX9_readsDial 4 none 0 := ⟨inG 1517 (by decide +kernel) rfl, cd_X9_readsDial, ini_X9, ⟨by decide +kernel, by decide +kernel, by decide +kernel⟩, by decide⟩
theorem cs_X9_168 : CS RX9 168 yX9_wrong cX9_wrong 2 none 1 := ⟨inG 1521 (by decide +kernel) rfl, cd_X9_wrong, ini_X9, ⟨by decide +kernel, by decide +kernel, by decide +kernel⟩, by decide⟩
theorem cs_X9_181 : CS RX9 181 yX9_need cX9_need 2 none 1 := ⟨inG 1525 (by decide +kernel) rfl, cd_X9_need, ini_X9, ⟨by decide +kernel, by decide +kernel, by decide +kernel⟩, by decide⟩
theorem cs_X9_185 : CS RX9 185 yX9_signed cX9_signed 4 (some .int) 1 := ⟨inG 1529 (by decide +kernel) rfl, cd_X9_signed, ini_X9, ⟨by decide +kernel, by decide +kernel, by decide +kernel⟩, by decide⟩
theorem cs_X9_171 : CS RX9 171 yX9_number cX9_number 4 (some .int) 2 := ⟨inG 1533 (by decide +kernel) rfl, cd_X9_number, ini_X9, ⟨by decide +kernel, by decide +kernel, by decide +kernel⟩, by decide⟩
theorem cs_X9_194 : CS RX9 194 yX9_readsCloud cX9_readsCloud 2 none 0 := ⟨inG 1537 (by decide +kernel) rfl, cd_X9_readsCloud, ini_X9, ⟨by decide +kernel, by decide +kernel, by decide +kernel⟩, by decide⟩
theorem cs_X9_220 : CS RX9 220 yX9_copies cX9_copies 4 none 2 := ⟨inG 1541 (by decide +kernel) rfl, cd_X9_copies, ini_X9, ⟨by decide +kernel, by decide +kernel, by decide +kernel⟩, by decide⟩
theorem cs_L_121 : CS RL 121 yX9_fault cX9_fault 1 (some .int) 0 := ⟨inG 1545 (by decide +kernel) rfl, cd_X9_fault, ini_X9, ⟨by decide +kernel, by decide +kernel, by decide +kernel⟩, by decide⟩
theorem cs_L_124 : CS RL 124 yX9_count cX9_count 2 (some .int) 1 := ⟨inG 1549 (by decide +kernel) rfl, cd_X9_count, ini_X9, ⟨by decide +kernel, by decide +kernel, by decide +kernel⟩, by decide⟩
theorem cs_X9_239 : CS RX9 239 yX9_within cX9_within 3 (some .boolean) 3 := ⟨inG 1553 (by decide +kernel) rfl, cd_X9_within, ini_X9, ⟨by decide +kernel, by decide +kernel, by decide +kernel⟩, by decide⟩
theorem cs_L_127 : CS RL 127 yX9_dial cX9_dial 3 (some .int) 2 := ⟨inG 1556 (by decide +kernel) rfl, cd_X9_dial, ini_X9, ⟨by decide +kernel, by decide +kernel, by decide +kernel⟩, by decide⟩
theorem cs_X9_243 : CS RX9 243 yX9_isDial cX9_isDial 2 (some .boolean) 1 := ⟨inG 1560 (by decide +kernel) rfl, cd_X9_isDial, ini_X9, ⟨by decide +kernel, by decide +kernel, by decide +kernel⟩, by decide⟩
theorem cs_X9_246 : CS RX9 246 yX9_isWhat cX9_isWhat 3 (some .boolean) 2 := ⟨inG 1564 (by decide +kernel) rfl, cd_X9_isWhat, ini_X9, ⟨by decide +kernel, by decide +kernel, by decide +kernel⟩, by decide⟩
theorem cs_L_130 : CS RL 130 yX9_day cX9_day 3 (some .int) 2 := ⟨inG 1568 (by decide +kernel) rfl, cd_X9_day, ini_X9, ⟨by decide +kernel, by decide +kernel, by decide +kernel⟩, by decide⟩
theorem cs_X9_259 : CS RX9 259 yX9_isDay cX9_isDay 2 (some .boolean) 1 := ⟨inG 1572 (by decide +kernel) rfl, cd_X9_isDay, ini_X9, ⟨by decide +kernel, by decide +kernel, by decide +kernel⟩, by decide⟩
theorem cs_X9_253 : CS RX9 253 yX9_noon cX9_noon 2 (some .int) 1 := ⟨inG 1576 (by decide +kernel) rfl, cd_X9_noon, ini_X9, ⟨by decide +kernel, by decide +kernel, by decide +kernel⟩, by decide⟩
theorem cs_X9_256 : CS RX9 256 yX9_half cX9_half 3 (some .int) 1 := ⟨inG 1580 (by decide +kernel) rfl, cd_X9_half, ini_X9, ⟨by decide +kernel, by decide +kernel, by decide +kernel⟩, by decide⟩
theorem cs_X9_250 : CS RX9 250 yX9_off cX9_off 2 (some .int) 2 := ⟨inG 1584 (by decide +kernel) rfl, cd_X9_off, ini_X9, ⟨by decide +kernel, by decide +kernel, by decide +kernel⟩, by decide⟩
theorem cs_L_134 : CS RL 134 yX9_tells cX9_tells 4 (some .int) 3 := ⟨inG 1587 (by decide +kernel) rfl, cd_X9_tells, ini_X9, ⟨by decide +kernel, by decide +kernel, by decide +kernel⟩, by decide⟩
theorem cs_X9_275 : CS RX9 275 yX9_isMinute cX9_isMinute 2 (some .boolean) 1 := ⟨inG 1591 (by decide +kernel) rfl, cd_X9_isMinute, ini_X9, ⟨by decide +kernel, by decide +kernel, by decide +kernel⟩, by decide⟩
theorem cs_X9_278 : CS RX9 278 yX9_tellsNow cX9_tellsNow 4 (some .int) 3 := ⟨inG 1595 (by decide +kernel) rfl, cd_X9_tellsNow, ini_X9, ⟨by decide +kernel, by decide +kernel, by decide +kernel⟩, by decide⟩
theorem cs_X9_268 : CS RX9 268 yX9_turnOf cX9_turnOf 4 (some .int) 2 := ⟨inG 1599 (by decide +kernel) rfl, cd_X9_turnOf, ini_X9, ⟨by decide +kernel, by decide +kernel, by decide +kernel⟩, by decide⟩
theorem cs_X9_271 : CS RX9 271 yX9_tellsBy cX9_tellsBy 11 (some .int) 7 := ⟨inG 1603 (by decide +kernel) rfl, cd_X9_tellsBy, ini_X9, ⟨by decide +kernel, by decide +kernel, by decide +kernel⟩, by decide⟩
theorem cs_X9_262 : CS RX9 262 yX9_round cX9_round 2 (some .int) 1 := ⟨inG 1607 (by decide +kernel) rfl, cd_X9_round, ini_X9, ⟨by decide +kernel, by decide +kernel, by decide +kernel⟩, by decide⟩
theorem cs_X9_265 : CS RX9 265 yX9_lights cX9_lights 4 none 1 := ⟨inG 1610 (by decide +kernel) rfl, cd_X9_lights, ini_X9, ⟨by decide +kernel, by decide +kernel, by decide +kernel⟩, by decide⟩
theorem cs_L_137 : CS RL 137 yX9_turn cX9_turn 3 (some .int) 2 := ⟨inG 1614 (by decide +kernel) rfl, cd_X9_turn, ini_X9, ⟨by decide +kernel, by decide +kernel, by decide +kernel⟩, by decide⟩
theorem cs_L_141 : CS RL 141 yX9_read cX9_read 6 (some .int) 4 := ⟨inG 1618 (by decide +kernel) rfl, cd_X9_read, ini_X9, ⟨by decide +kernel, by decide +kernel, by decide +kernel⟩, by decide⟩
theorem cs_X9_282 : CS RX9 282 yX9_refuses cX9_refuses 2 (some .int) 1 := ⟨inG 1622 (by decide +kernel) rfl, cd_X9_refuses, ini_X9, ⟨by decide +kernel, by decide +kernel, by decide +kernel⟩, by decide⟩
theorem cs_L_145 : CS RL 145 yX9_unread cX9_unread 1 (some .int) 0 := ⟨inG 1626 (by decide +kernel) rfl, cd_X9_unread, ini_X9, ⟨by decide +kernel, by decide +kernel, by decide +kernel⟩, by decide⟩
theorem cs_L_148 : CS RL 148 yX9_faults cX9_faults 7 (some .int) 2 := ⟨inG 1630 (by decide +kernel) rfl, cd_X9_faults, ini_X9, ⟨by decide +kernel, by decide +kernel, by decide +kernel⟩, by decide⟩
theorem cs_X9_291 : CS RX9 291 yX9_seeks cX9_seeks 3 none 1 := ⟨inG 1634 (by decide +kernel) rfl, cd_X9_seeks, ini_X9, ⟨by decide +kernel, by decide +kernel, by decide +kernel⟩, by decide⟩
theorem cs_X9_288 : CS RX9 288 yX9_fits cX9_fits 5 (some .boolean) 3 := ⟨inG 1638 (by decide +kernel) rfl, cd_X9_fits, ini_X9, ⟨by decide +kernel, by decide +kernel, by decide +kernel⟩, by decide⟩
theorem cs_L_151 : CS RL 151 yX9_next cX9_next 8 (some .int) 3 := ⟨inG 1642 (by decide +kernel) rfl, cd_X9_next, ini_X9, ⟨by decide +kernel, by decide +kernel, by decide +kernel⟩, by decide⟩
theorem cs_X9_294 : CS RX9 294 yX9_greatest cX9_greatest 7 (some .int) 3 := ⟨inG 1646 (by decide +kernel) rfl, cd_X9_greatest, ini_X9, ⟨by decide +kernel, by decide +kernel, by decide +kernel⟩, by decide⟩
theorem cs_L_154 : CS RL 154 yX9_see cX9_see 4 (some .int) 2 := ⟨inG 1650 (by decide +kernel) rfl, cd_X9_see, ini_X9, ⟨by decide +kernel, by decide +kernel, by decide +kernel⟩, by decide⟩
theorem cs_L_158 : CS RL 158 yX9_forget cX9_forget 2 (some .int) 0 := ⟨inG 1654 (by decide +kernel) rfl, cd_X9_forget, ini_X9, ⟨by decide +kernel, by decide +kernel, by decide +kernel⟩, by decide⟩
theorem cs_L_161 : CS RL 161 yX9_minutes cX9_minutes 7 (some .int) 2 := ⟨inG 1658 (by decide +kernel) rfl, cd_X9_minutes, ini_X9, ⟨by decide +kernel, by decide +kernel, by decide +kernel⟩, by decide⟩
theorem cs_X9_297 : CS RX9 297 yX9_isSeen cX9_isSeen 4 (some .boolean) 2 := ⟨inG 1662 (by decide +kernel) rfl, cd_X9_isSeen, ini_X9, ⟨by decide +kernel, by decide +kernel, by decide +kernel⟩, by decide⟩
theorem cs_L_164 : CS RL 164 yX9_days cX9_days 5 (some .int) 1 := ⟨inG 1666 (by decide +kernel) rfl, cd_X9_days, ini_X9, ⟨by decide +kernel, by decide +kernel, by decide +kernel⟩, by decide⟩
theorem cs_L_167 : CS RL 167 yX9_late cX9_late 5 (some .int) 4 := ⟨inG 1670 (by decide +kernel) rfl, cd_X9_late, ini_X9, ⟨by decide +kernel, by decide +kernel, by decide +kernel⟩, by decide⟩
theorem cs_X9_303 : CS RX9 303 yX9_lateOn cX9_lateOn 7 (some .int) 4 := ⟨inG 1674 (by decide +kernel) rfl, cd_X9_lateOn, ini_X9, ⟨by decide +kernel, by decide +kernel, by decide +kernel⟩, by decide⟩
theorem cs_X9_300 : CS RX9 300 yX9_firstOf cX9_firstOf 5 (some .int) 3 := ⟨inG 1678 (by decide +kernel) rfl, cd_X9_firstOf, ini_X9, ⟨by decide +kernel, by decide +kernel, by decide +kernel⟩, by decide⟩
theorem cs_L_171 : CS RL 171 yX9_meet cX9_meet 10 (some .int) 5 := ⟨inG 1682 (by decide +kernel) rfl, cd_X9_meet, ini_X9, ⟨by decide +kernel, by decide +kernel, by decide +kernel⟩, by decide⟩
theorem cs_L_174 : CS RL 174 yX9_mend cX9_mend 4 (some .int) 3 := ⟨inG 1686 (by decide +kernel) rfl, cd_X9_mend, ini_X9, ⟨by decide +kernel, by decide +kernel, by decide +kernel⟩, by decide⟩
theorem cs_L_178 : CS RL 178 yX9_undo cX9_undo 1 (some .int) 0 := ⟨inG 1690 (by decide +kernel) rfl, cd_X9_undo, ini_X9, ⟨by decide +kernel, by decide +kernel, by decide +kernel⟩, by decide⟩
theorem cs_L_181 : CS RL 181 yX9_best cX9_best 8 (some .int) 4 := ⟨inG 1694 (by decide +kernel) rfl, cd_X9_best, ini_X9, ⟨by decide +kernel, by decide +kernel, by decide +kernel⟩, by decide⟩
theorem cs_X9_307 : CS RX9 307 yX9_wrongBy cX9_wrongBy 3 (some .int) 2 := ⟨inG 1698 (by decide +kernel) rfl, cd_X9_wrongBy, ini_X9, ⟨by decide +kernel, by decide +kernel, by decide +kernel⟩, by decide⟩
theorem cs_L_184 : CS RL 184 yX9_year cX9_year 4 (some .int) 3 := ⟨inG 1701 (by decide +kernel) rfl, cd_X9_year, ini_X9, ⟨by decide +kernel, by decide +kernel, by decide +kernel⟩, by decide⟩
theorem cs_X9_316 : CS RX9 316 yX9_yearOf cX9_yearOf 5 none 2 := ⟨inG 1705 (by decide +kernel) rfl, cd_X9_yearOf, ini_X9, ⟨by decide +kernel, by decide +kernel, by decide +kernel⟩, by decide⟩
theorem cs_L_187 : CS RL 187 yX9_live cX9_live 6 (some .int) 1 := ⟨inG 1709 (by decide +kernel) rfl, cd_X9_live, ini_X9, ⟨by decide +kernel, by decide +kernel, by decide +kernel⟩, by decide⟩
theorem cs_L_190 : CS RL 190 yX9_middle cX9_middle 4 (some .int) 3 := ⟨inG 1713 (by decide +kernel) rfl, cd_X9_middle, ini_X9, ⟨by decide +kernel, by decide +kernel, by decide +kernel⟩, by decide⟩
theorem cs_X9_320 : CS RX9 320 yX9_middleOf cX9_middleOf 8 (some .int) 3 := ⟨inG 1717 (by decide +kernel) rfl, cd_X9_middleOf, ini_X9, ⟨by decide +kernel, by decide +kernel, by decide +kernel⟩, by decide⟩
theorem cs_L_193 : CS RL 193 yX9_together cX9_together 9 (some .int) 2 := ⟨inG 1721 (by decide +kernel) rfl, cd_X9_together, ini_X9, ⟨by decide +kernel, by decide +kernel, by decide +kernel⟩, by decide⟩
theorem cs_L_196 : CS RL 196 yX9_takes cX9_takes 6 (some .int) 2 := ⟨inG 1725 (by decide +kernel) rfl, cd_X9_takes, ini_X9, ⟨by decide +kernel, by decide +kernel, by decide +kernel⟩, by decide⟩
theorem cs_L_110 : CS RL 110 yX9_law cX9_law 3 (some .int) 1 := ⟨inG 1729 (by decide +kernel) rfl, cd_X9_law, ini_X9, ⟨by decide +kernel, by decide +kernel, by decide +kernel⟩, by decide⟩
theorem cs_X9_344 : CS RX9 344 yX9_begins cX9_begins 4 (some .boolean) 1 := ⟨inG 1733 (by decide +kernel) rfl, cd_X9_begins, ini_X9, ⟨by decide +kernel, by decide +kernel, by decide +kernel⟩, by decide⟩
theorem cs_X9_332 : CS RX9 332 yX9_puts cX9_puts 2 none 1 := ⟨inG 1737 (by decide +kernel) rfl, cd_X9_puts, ini_X9, ⟨by decide +kernel, by decide +kernel, by decide +kernel⟩, by decide⟩
theorem cs_X9_335 : CS RX9 335 yX9_some cX9_some 4 none 0 := ⟨inG 1741 (by decide +kernel) rfl, cd_X9_some, ini_X9, ⟨by decide +kernel, by decide +kernel, by decide +kernel⟩, by decide⟩
theorem cs_X9_329 : CS RX9 329 yX9_isSign cX9_isSign 2 (some .boolean) 1 := ⟨inG 1745 (by decide +kernel) rfl, cd_X9_isSign, ini_X9, ⟨by decide +kernel, by decide +kernel, by decide +kernel⟩, by decide⟩
theorem cs_X9_338 : CS RX9 338 yX9_opens cX9_opens 3 none 2 := ⟨inG 1749 (by decide +kernel) rfl, cd_X9_opens, ini_X9, ⟨by decide +kernel, by decide +kernel, by decide +kernel⟩, by decide⟩
theorem cs_X9_348 : CS RX9 348 yX9_goesOn cX9_goesOn 4 (some .boolean) 0 := ⟨inG 1753 (by decide +kernel) rfl, cd_X9_goesOn, ini_X9, ⟨by decide +kernel, by decide +kernel, by decide +kernel⟩, by decide⟩
theorem cs_X9_341 : CS RX9 341 yX9_works cX9_works 3 none 2 := ⟨inG 1757 (by decide +kernel) rfl, cd_X9_works, ini_X9, ⟨by decide +kernel, by decide +kernel, by decide +kernel⟩, by decide⟩
theorem cs_X9_351 : CS RX9 351 yX9_wantsTest cX9_wantsTest 2 (some .boolean) 0 := ⟨inG 1761 (by decide +kernel) rfl, cd_X9_wantsTest, ini_X9, ⟨by decide +kernel, by decide +kernel, by decide +kernel⟩, by decide⟩
theorem cs_L_114 : CS RL 114 yX9_lawful cX9_lawful 3 (some .int) 2 := ⟨inG 1765 (by decide +kernel) rfl, cd_X9_lawful, ini_X9, ⟨by decide +kernel, by decide +kernel, by decide +kernel⟩, by decide⟩
theorem cs_X9_354 : CS RX9 354 yX9_toldBy cX9_toldBy 9 (some .int) 2 := ⟨inG 1769 (by decide +kernel) rfl, cd_X9_toldBy, ini_X9, ⟨by decide +kernel, by decide +kernel, by decide +kernel⟩, by decide⟩
theorem cs_L_117 : CS RL 117 yX9_judged cX9_judged 14 (some .int) 2 := ⟨inG 1773 (by decide +kernel) rfl, cd_X9_judged, ini_X9, ⟨by decide +kernel, by decide +kernel, by decide +kernel⟩, by decide⟩
theorem cs_L_200 : CS RL 200 yX9_image cX9_image 1 none 0 := ⟨inG 1777 (by decide +kernel) rfl, cd_X9_image, ini_X9, ⟨by decide +kernel, by decide +kernel, by decide +kernel⟩, by decide⟩
theorem cs_L_205 : CS RL 205 yX9_restore cX9_restore 1 (some .boolean) 0 := ⟨inG 1781 (by decide +kernel) rfl, cd_X9_restore, ini_X9, ⟨by decide +kernel, by decide +kernel, by decide +kernel⟩, by decide⟩
