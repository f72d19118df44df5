set_option maxRecDepth 20000 in
theorem in_wsL_law_r51 : ∀ w ∈ wsL_law_r51, w ∈ lw_tbl := fun w h => (goodIn_p wsL_law_r51 [1997, 2001, 2005, 2009, 2013, 2016] (by decide +kernel) (by decide +kernel) w h).1
set_option maxRecDepth 20000 in
theorem in_wsL_law_r52 : ∀ w ∈ wsL_law_r52, w ∈ lw_tbl := fun w h => (goodIn_p wsL_law_r52 [2019, 2023, 2026, 2030, 2033, 2036, 2040] (by decide +kernel) (by decide +kernel) w h).1
set_option maxRecDepth 20000 in
theorem in_wsL_law_r53 : ∀ w ∈ wsL_law_r53, w ∈ lw_tbl := fun w h => (goodIn_p wsL_law_r53 [2044, 2048, 2052, 2055, 2059, 1152] (by decide +kernel) (by decide +kernel) w h).1
set_option maxRecDepth 20000 in
theorem in_wsL_law_r54 : ∀ w ∈ wsL_law_r54, w ∈ lw_tbl := fun w h => (goodIn_p wsL_law_r54 [1156, 2064, 1160, 1164] (by decide +kernel) (by decide +kernel) w h).1
set_option maxRecDepth 20000 in
theorem in_wsL_law_r55 : ∀ w ∈ wsL_law_r55, w ∈ lw_tbl := fun w h => (goodIn_p wsL_law_r55 [1167, 1171, 1175, 1179, 2068, 2072] (by decide +kernel) (by decide +kernel) w h).1
set_option maxRecDepth 20000 in
theorem in_wsL_law_r56 : ∀ w ∈ wsL_law_r56, w ∈ lw_tbl := fun w h => (goodIn_p wsL_law_r56 [2076, 2080, 2084, 1183, 1188, 1192] (by decide +kernel) (by decide +kernel) w h).1
set_option maxRecDepth 20000 in
theorem in_wsL_law_r57 : ∀ w ∈ wsL_law_r57, w ∈ lw_tbl := fun w h => (goodIn_p wsL_law_r57 [1196, 1200, 2088, 2092, 2095, 2098] (by decide +kernel) (by decide +kernel) w h).1
set_option maxRecDepth 20000 in
theorem in_wsL_law_r58 : ∀ w ∈ wsL_law_r58, w ∈ lw_tbl := fun w h => (goodIn_p wsL_law_r58 [1205, 1209, 2102, 1862, 2106, 1213] (by decide +kernel) (by decide +kernel) w h).1
set_option maxRecDepth 20000 in
theorem in_wsL_law_r59 : ∀ w ∈ wsL_law_r59, w ∈ lw_tbl := fun w h => (goodIn_p wsL_law_r59 [1217, 1221, 2110, 1228] (by decide +kernel) (by decide +kernel) w h).1
set_option maxRecDepth 20000 in
theorem in_wsL_law_r60 : ∀ w ∈ wsL_law_r60, w ∈ lw_tbl := fun w h => (goodIn_p wsL_law_r60 [1232, 1236, 2114, 2118, 1242] (by decide +kernel) (by decide +kernel) w h).1
set_option maxRecDepth 20000 in
theorem in_wsL_law_r61 : ∀ w ∈ wsL_law_r61, w ∈ lw_tbl := fun w h => (goodIn_p wsL_law_r61 [1248, 2122, 2127, 1253, 1257] (by decide +kernel) (by decide +kernel) w h).1
set_option maxRecDepth 20000 in
theorem in_wsL_law_r62 : ∀ w ∈ wsL_law_r62, w ∈ lw_tbl := fun w h => (goodIn_p wsL_law_r62 [1261, 1264, 1269, 1273, 1278] (by decide +kernel) (by decide +kernel) w h).1
set_option maxRecDepth 20000 in
theorem in_wsL_law_r63 : ∀ w ∈ wsL_law_r63, w ∈ lw_tbl := fun w h => (goodIn_p wsL_law_r63 [2131, 2135, 1858, 2139, 1282, 1286] (by decide +kernel) (by decide +kernel) w h).1
set_option maxRecDepth 20000 in
theorem in_wsL_law_r64 : ∀ w ∈ wsL_law_r64, w ∈ lw_tbl := fun w h => (goodIn_p wsL_law_r64 [2143, 2147, 1292, 2155, 1296] (by decide +kernel) (by decide +kernel) w h).1
set_option maxRecDepth 20000 in
theorem in_wsL_law_r65 : ∀ w ∈ wsL_law_r65, w ∈ lw_tbl := fun w h => (goodIn_p wsL_law_r65 [1300, 2159, 1304, 2163, 1308, 2167] (by decide +kernel) (by decide +kernel) w h).1
set_option maxRecDepth 20000 in
theorem in_wsL_law_r66 : ∀ w ∈ wsL_law_r66, w ∈ lw_tbl := fun w h => (goodIn_p wsL_law_r66 [1312, 1316, 1854, 1321, 2171, 1325] (by decide +kernel) (by decide +kernel) w h).1
set_option maxRecDepth 20000 in
theorem in_wsL_law_r67 : ∀ w ∈ wsL_law_r67, w ∈ lw_tbl := fun w h => (goodIn_p wsL_law_r67 [1329, 2175, 1334, 1338, 2179] (by decide +kernel) (by decide +kernel) w h).1
set_option maxRecDepth 20000 in
theorem in_wsL_law_r68 : ∀ w ∈ wsL_law_r68, w ∈ lw_tbl := fun w h => (goodIn_p wsL_law_r68 [1342, 1346, 1350, 2183, 2187, 1356] (by decide +kernel) (by decide +kernel) w h).1
set_option maxRecDepth 20000 in
theorem in_wsL_law_r69 : ∀ w ∈ wsL_law_r69, w ∈ lw_tbl := fun w h => (goodIn_p wsL_law_r69 [1850] (by decide +kernel) (by decide +kernel) w h).1
theorem cw_wsX00 : ∀ w ∈ wsX00, w ∈ lw_tbl := by decide +kernel
theorem cw_wsX10 : ∀ w ∈ wsX10, w ∈ lw_tbl := by decide +kernel
theorem cw_wsX100 : ∀ w ∈ wsX100, w ∈ lw_tbl := by decide +kernel
theorem cw_wsX110 : ∀ w ∈ wsX110, w ∈ lw_tbl := by decide +kernel
theorem cw_wsX120 : ∀ w ∈ wsX120, w ∈ lw_tbl := by decide +kernel
theorem cw_wsX20 : ∀ w ∈ wsX20, w ∈ lw_tbl := by decide +kernel
theorem cw_wsX30 : ∀ w ∈ wsX30, w ∈ lw_tbl := by decide +kernel
theorem cw_wsX40 : ∀ w ∈ wsX40, w ∈ lw_tbl := by decide +kernel
theorem cw_wsX50 : ∀ w ∈ wsX50, w ∈ lw_tbl := by decide +kernel
theorem cw_wsX60 : ∀ w ∈ wsX60, w ∈ lw_tbl := by decide +kernel
theorem cw_wsX70 : ∀ w ∈ wsX70, w ∈ lw_tbl := by decide +kernel
theorem cw_wsX80 : ∀ w ∈ wsX80, w ∈ lw_tbl := by decide +kernel
theorem cw_wsX90 : ∀ w ∈ wsX90, w ∈ lw_tbl := by decide +kernel
theorem wsL_law_in : ∀ w ∈ wsL_law, w ∈ lw_tbl := (fun w h => (List.mem_append.mp h).elim ((fun w h => (List.mem_append.mp h).elim ((fun w h => (List.mem_append.mp h).elim ((fun w h => (List.mem_append.mp h).elim ((fun w h => (List.mem_append.mp h).elim ((fun w h => (List.mem_append.mp h).elim ((fun w h => (List.mem_append.mp h).elim ((fun w h => (List.mem_append.mp h).elim ((fun w h => (List.mem_append.mp h).elim ((fun w h => (List.mem_append.mp h).elim ((fun w h => (List.mem_append.mp h).elim ((fun w h => (List.mem_append.mp h).elim ((fun w h => (List.mem_append.mp h).elim ((fun w h => (List.mem_append.mp h).elim ((fun w h => (List.mem_append.mp h).elim (in_wsL_law_r1 w) ((fun w h => (List.mem_append.mp h).elim (in_wsL_law_r2 w) ((fun w h => (List.mem_append.mp h).elim (in_wsL_law_r3 w) ((fun w h => (List.mem_append.mp h).elim (in_wsL_law_r4 w) ((fun w h => (List.mem_append.mp h).elim (in_wsL_law_r5 w) ((fun w h => (List.mem_append.mp h).elim (in_wsL_law_r6 w) ((fun w h => (List.mem_append.mp h).elim (in_wsL_law_r7 w) ((fun w h => (List.mem_append.mp h).elim (in_wsL_law_r8 w) ((fun w h => (List.mem_append.mp h).elim (in_wsL_law_r9 w) ((fun w h => (List.mem_append.mp h).elim (in_wsL_law_r10 w) ((fun w h => (List.mem_append.mp h).elim (in_wsL_law_r11 w) ((fun w h => (List.mem_append.mp h).elim (in_wsL_law_r12 w) ((fun w h => (List.mem_append.mp h).elim (in_wsL_law_r13 w) ((fun w h => (List.mem_append.mp h).elim (in_wsL_law_r14 w) ((fun w h => (List.mem_append.mp h).elim (in_wsL_law_r15 w) ((fun w h => (List.mem_append.mp h).elim (in_wsL_law_r16 w) ((fun w h => (List.mem_append.mp h).elim (in_wsL_law_r17 w) ((fun w h => (List.mem_append.mp h).elim (in_wsL_law_r18 w) ((fun w h => (List.mem_append.mp h).elim (in_wsL_law_r19 w) ((fun w h => (List.mem_append.mp h).elim (in_wsL_law_r20 w) ((fun w h => (List.mem_append.mp h).elim (in_wsL_law_r21 w) ((fun w h => (List.mem_append.mp h).elim (in_wsL_law_r22 w) ((fun w h => (List.mem_append.mp h).elim (in_wsL_law_r23 w) ((fun w h => (List.mem_append.mp h).elim (in_wsL_law_r24 w) ((fun w h => (List.mem_append.mp h).elim (in_wsL_law_r25 w) ((fun w h => (List.mem_append.mp h).elim (in_wsL_law_r26 w) ((fun w h => (List.mem_append.mp h).elim (in_wsL_law_r27 w) ((fun w h => (List.mem_append.mp h).elim (in_wsL_law_r28 w) ((fun w h => (List.mem_append.mp h).elim (in_wsL_law_r29 w) ((fun w h => (List.mem_append.mp h).elim (in_wsL_law_r30 w) ((fun w h => (List.mem_append.mp h).elim (in_wsL_law_r31 w) ((fun w h => (List.mem_append.mp h).elim (in_wsL_law_r32 w) ((fun w h => (List.mem_append.mp h).elim (in_wsL_law_r33 w) ((fun w h => (List.mem_append.mp h).elim (in_wsL_law_r34 w) ((fun w h => (List.mem_append.mp h).elim (in_wsL_law_r35 w) ((fun w h => (List.mem_append.mp h).elim (in_wsL_law_r36 w) ((fun w h => (List.mem_append.mp h).elim (in_wsL_law_r37 w) ((fun w h => (List.mem_append.mp h).elim (in_wsL_law_r38 w) ((fun w h => (List.mem_append.mp h).elim (in_wsL_law_r39 w) ((fun w h => (List.mem_append.mp h).elim (in_wsL_law_r40 w) ((fun w h => (List.mem_append.mp h).elim (in_wsL_law_r41 w) ((fun w h => (List.mem_append.mp h).elim (in_wsL_law_r42 w) ((fun w h => (List.mem_append.mp h).elim (in_wsL_law_r43 w) ((fun w h => (List.mem_append.mp h).elim (in_wsL_law_r44 w) ((fun w h => (List.mem_append.mp h).elim (in_wsL_law_r45 w) ((fun w h => (List.mem_append.mp h).elim (in_wsL_law_r46 w) ((fun w h => (List.mem_append.mp h).elim (in_wsL_law_r47 w) ((fun w h => (List.mem_append.mp h).elim (in_wsL_law_r48 w) ((fun w h => (List.mem_append.mp h).elim (in_wsL_law_r49 w) ((fun w h => (List.mem_append.mp h).elim (in_wsL_law_r50 w) ((fun w h => (List.mem_append.mp h).elim (in_wsL_law_r51 w) ((fun w h => (List.mem_append.mp h).elim (in_wsL_law_r52 w) ((fun w h => (List.mem_append.mp h).elim (in_wsL_law_r53 w) ((fun w h => (List.mem_append.mp h).elim (in_wsL_law_r54 w) ((fun w h => (List.mem_append.mp h).elim (in_wsL_law_r55 w) ((fun w h => (List.mem_append.mp h).elim (in_wsL_law_r56 w) ((fun w h => (List.mem_append.mp h).elim (in_wsL_law_r57 w) ((fun w h => (List.mem_append.mp h).elim (in_wsL_law_r58 w) ((fun w h => (List.mem_append.mp h).elim (in_wsL_law_r59 w) ((fun w h => (List.mem_append.mp h).elim (in_wsL_law_r60 w) ((fun w h => (List.mem_append.mp h).elim (in_wsL_law_r61 w) ((fun w h => (List.mem_append.mp h).elim (in_wsL_law_r62 w) ((fun w h => (List.mem_append.mp h).elim (in_wsL_law_r63 w) ((fun w h => (List.mem_append.mp h).elim (in_wsL_law_r64 w) ((fun w h => (List.mem_append.mp h).elim (in_wsL_law_r65 w) ((fun w h => (List.mem_append.mp h).elim (in_wsL_law_r66 w) ((fun w h => (List.mem_append.mp h).elim (in_wsL_law_r67 w) ((fun w h => (List.mem_append.mp h).elim (in_wsL_law_r68 w) (in_wsL_law_r69 w)) w)) w)) w)) w)) w)) w)) w)) w)) w)) w)) w)) w)) w)) w)) w)) w)) w)) w)) w)) w)) w)) w)) w)) w)) w)) w)) w)) w)) w)) w)) w)) w)) w)) w)) w)) w)) w)) w)) w)) w)) w)) w)) w)) w)) w)) w)) w)) w)) w)) w)) w)) w)) w)) w)) w)) w)) w)) w)) w)) w)) w)) w)) w)) w)) w)) w)) w)) w) (cw_wsX110 w)) w) (cw_wsX120 w)) w) (cw_wsX10 w)) w) (cw_wsX40 w)) w) (cw_wsX20 w)) w) (cw_wsX50 w)) w) (cw_wsX00 w)) w) (cw_wsX80 w)) w) (cw_wsX90 w)) w) (cw_wsX60 w)) w) (cw_wsX100 w)) w) (cw_wsX30 w)) w) (cw_wsX70 w)) w) (cw_[] : List Cond w))
theorem inlX0 : ∀ w ∈ wsX00, w ∈ wsL_law := fun _ h => List.mem_append_left _ (List.mem_append_left _ (List.mem_append_left _ (List.mem_append_left _ (List.mem_append_left _ (List.mem_append_left _ (List.mem_append_left _ (List.mem_append_right _ h)))))))
theorem inX0 : ∀ w ∈ wsX00, w ∈ lw_tbl := fun w h => wsL_law_in w (inlX0 w h)
theorem inlX1 : ∀ w ∈ wsX10, w ∈ wsL_law := fun _ h => List.mem_append_left _ (List.mem_append_left _ (List.mem_append_left _ (List.mem_append_left _ (List.mem_append_left _ (List.mem_append_left _ (List.mem_append_left _ (List.mem_append_left _ (List.mem_append_left _ (List.mem_append_left _ (List.mem_append_left _ (List.mem_append_right _ h)))))))))))
theorem inX1 : ∀ w ∈ wsX10, w ∈ lw_tbl := fun w h => wsL_law_in w (inlX1 w h)
theorem inlX2 : ∀ w ∈ wsX20, w ∈ wsL_law := fun _ h => List.mem_append_left _ (List.mem_append_left _ (List.mem_append_left _ (List.mem_append_left _ (List.mem_append_left _ (List.mem_append_left _ (List.mem_append_left _ (List.mem_append_left _ (List.mem_append_left _ (List.mem_append_right _ h)))))))))
theorem inX2 : ∀ w ∈ wsX20, w ∈ lw_tbl := fun w h => wsL_law_in w (inlX2 w h)
theorem inlX3 : ∀ w ∈ wsX30, w ∈ wsL_law := fun _ h => List.mem_append_left _ (List.mem_append_left _ (List.mem_append_right _ h))
theorem inX3 : ∀ w ∈ wsX30, w ∈ lw_tbl := fun w h => wsL_law_in w (inlX3 w h)
theorem inlX4 : ∀ w ∈ wsX40, w ∈ wsL_law := fun _ h => List.mem_append_left _ (List.mem_append_left _ (List.mem_append_left _ (List.mem_append_left _ (List.mem_append_left _ (List.mem_append_left _ (List.mem_append_left _ (List.mem_append_left _ (List.mem_append_left _ (List.mem_append_left _ (List.mem_append_right _ h))))))))))
theorem inX4 : ∀ w ∈ wsX40, w ∈ lw_tbl := fun w h => wsL_law_in w (inlX4 w h)
theorem inlX5 : ∀ w ∈ wsX50, w ∈ wsL_law := fun _ h => List.mem_append_left _ (List.mem_append_left _ (List.mem_append_left _ (List.mem_append_left _ (List.mem_append_left _ (List.mem_append_left _ (List.mem_append_left _ (List.mem_append_left _ (List.mem_append_right _ h))))))))
theorem inX5 : ∀ w ∈ wsX50, w ∈ lw_tbl := fun w h => wsL_law_in w (inlX5 w h)
theorem inlX6 : ∀ w ∈ wsX60, w ∈ wsL_law := fun _ h => List.mem_append_left _ (List.mem_append_left _ (List.mem_append_left _ (List.mem_append_left _ (List.mem_append_right _ h))))
theorem inX6 : ∀ w ∈ wsX60, w ∈ lw_tbl := fun w h => wsL_law_in w (inlX6 w h)
theorem inlX7 : ∀ w ∈ wsX70, w ∈ wsL_law := fun _ h => List.mem_append_left _ (List.mem_append_right _ h)
theorem inX7 : ∀ w ∈ wsX70, w ∈ lw_tbl := fun w h => wsL_law_in w (inlX7 w h)
theorem inlX8 : ∀ w ∈ wsX80, w ∈ wsL_law := fun _ h => List.mem_append_left _ (List.mem_append_left _ (List.mem_append_left _ (List.mem_append_left _ (List.mem_append_left _ (List.mem_append_left _ (List.mem_append_right _ h))))))
theorem inX8 : ∀ w ∈ wsX80, w ∈ lw_tbl := fun w h => wsL_law_in w (inlX8 w h)
theorem inlX9 : ∀ w ∈ wsX90, w ∈ wsL_law := fun _ h => List.mem_append_left _ (List.mem_append_left _ (List.mem_append_left _ (List.mem_append_left _ (List.mem_append_left _ (List.mem_append_right _ h)))))
theorem inX9 : ∀ w ∈ wsX90, w ∈ lw_tbl := fun w h => wsL_law_in w (inlX9 w h)
theorem inlX10 : ∀ w ∈ wsX100, w ∈ wsL_law := fun _ h => List.mem_append_left _ (List.mem_append_left _ (List.mem_append_left _ (List.mem_append_right _ h)))
theorem inX10 : ∀ w ∈ wsX100, w ∈ lw_tbl := fun w h => wsL_law_in w (inlX10 w h)
theorem inlX11 : ∀ w ∈ wsX110, w ∈ wsL_law := fun _ h => List.mem_append_left _ (List.mem_append_left _ (List.mem_append_left _ (List.mem_append_left _ (List.mem_append_left _ (List.mem_append_left _ (List.mem_append_left _ (List.mem_append_left _ (List.mem_append_left _ (List.mem_append_left _ (List.mem_append_left _ (List.mem_append_left _ (List.mem_append_left _ (List.mem_append_right _ h)))))))))))))
theorem inX11 : ∀ w ∈ wsX110, w ∈ lw_tbl := fun w h => wsL_law_in w (inlX11 w h)
theorem inlX12 : ∀ w ∈ wsX120, w ∈ wsL_law := fun _ h => List.mem_append_left _ (List.mem_append_left _ (List.mem_append_left _ (List.mem_append_left _ (List.mem_append_left _ (List.mem_append_left _ (List.mem_append_left _ (List.mem_append_left _ (List.mem_append_left _ (List.mem_append_left _ (List.mem_append_left _ (List.mem_append_left _ (List.mem_append_right _ h))))))))))))
theorem inX12 : ∀ w ∈ wsX120, w ∈ lw_tbl := fun w h => wsL_law_in w (inlX12 w h)
theorem inJ6 : ∀ w ∈ wsJ60, w ∈ lw_tbl := by decide +kernel
theorem inJ9 : ∀ w ∈ wsJ90, w ∈ lw_tbl := by decide +kernel
theorem inJ0 : ∀ w ∈ wsJ00, w ∈ lw_tbl := by decide +kernel
theorem inJ1 : ∀ w ∈ wsJ10, w ∈ lw_tbl := by decide +kernel
theorem inJ2 : ∀ w ∈ wsJ20, w ∈ lw_tbl := by decide +kernel
theorem inJ3 : ∀ w ∈ wsJ30, w ∈ lw_tbl := by decide +kernel
