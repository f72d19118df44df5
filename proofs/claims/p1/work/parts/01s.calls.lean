set_option maxRecDepth 20000 in
theorem ggX0_init_X5_init : GoodIn wsX0_init wsX5_init := goodIn_r _ [14, 15, 2, 3, 4, 16, 25, 26, 27, 28] rfl (by decide +kernel)
set_option maxRecDepth 20000 in
theorem gX0_init_X5_init_n30 : GoodIn wsX0_init (wsX5_init) := ggX0_init_X5_init
set_option maxRecDepth 20000 in
theorem ggX0_tellKept_X0_keptTold : GoodIn wsX0_tellKept wsX0_keptTold := goodIn_r _ [9, 1, 10, 11, 12, 13, 18, 19, 20, 21, 22, 23, 24, 25] rfl (by decide +kernel)
set_option maxRecDepth 20000 in
theorem gX0_tellKept_X0_keptTold : GoodIn wsX0_tellKept (wsV RX0 47 RX0 yX0_keptTold wsX0_keptTold) := goodIn_app (goodIn_of _ (by decide +kernel)) ggX0_tellKept_X0_keptTold
set_option maxRecDepth 20000 in
theorem ggX1_addFour_X1_add : GoodIn wsX1_addFour wsX1_add := goodIn_r _ [5, 6, 7, 8, 9] rfl (by decide +kernel)
set_option maxRecDepth 20000 in
theorem gX1_addFour_X1_add : GoodIn wsX1_addFour (wsV RX1 25 RX1 yX1_add wsX1_add) := goodIn_app (goodIn_of _ (by decide +kernel)) ggX1_addFour_X1_add
set_option maxRecDepth 20000 in
theorem ggX5_armAt_X5_isPlace : GoodIn wsX5_armAt wsX5_isPlace := goodIn_r _ [6, 7, 8, 9, 10, 11] rfl (by decide +kernel)
set_option maxRecDepth 20000 in
theorem gX5_armAt_X5_isPlace : GoodIn wsX5_armAt (wsV RX5 34 RX5 yX5_isPlace wsX5_isPlace) := goodIn_app (goodIn_of _ (by decide +kernel)) ggX5_armAt_X5_isPlace
set_option maxRecDepth 20000 in
theorem ggX6_init_X7_init : GoodIn wsX6_init wsX7_init := goodIn_r _ [14, 15, 2, 3, 9, 16, 17, 18, 19, 6, 20, 21, 22, 23, 24, 25, 26, 27, 28, 29, 30, 31, 32, 33, 34, 35, 36, 37, 38, 39, 40, 41, 42, 43, 44, 45, 46, 47, 48, 49, 50, 51, 52, 53, 54, 55, 56, 57, 58, 59, 60, 61, 62, 63, 64, 65, 66, 67, 68, 69, 70, 71, 72, 73, 74, 75, 76, 77, 78] rfl (by decide +kernel)
set_option maxRecDepth 20000 in
theorem gX6_init_X7_init_n11 : GoodIn wsX6_init (wsX7_init) := ggX6_init_X7_init
set_option maxRecDepth 20000 in
theorem ggX6_readMatch_X9_clear : GoodIn wsX6_readMatch wsX9_clear := goodIn_r _ [11, 12, 13, 14, 15, 16, 17, 18, 19, 20, 21, 22, 23, 24, 250, 251, 252, 253, 254, 255, 256, 257, 258, 259, 260, 261, 262, 263, 264, 265, 266, 267, 268, 269, 270, 271] rfl (by decide +kernel)
set_option maxRecDepth 20000 in
theorem gX6_readMatch_X9_clear : GoodIn wsX6_readMatch (wsV RX6 31 RX9 yX9_clear wsX9_clear) := goodIn_app (goodIn_of _ (by decide +kernel)) ggX6_readMatch_X9_clear
set_option maxRecDepth 20000 in
theorem ggX6_readMatch_X6_begin : GoodIn wsX6_readMatch wsX6_begin := goodIn_r _ [29, 30, 31, 2, 32, 33, 34, 35, 36, 37, 38, 39, 40, 41, 42, 43, 44, 45, 46, 47, 48, 49, 50, 51, 52, 53, 54, 55, 56, 57, 58, 59, 60, 61, 62, 63, 64, 65, 66, 236, 237, 238, 239, 240, 272, 273, 241, 242, 243, 244, 245, 246, 247, 248, 249] rfl (by decide +kernel)
set_option maxRecDepth 20000 in
theorem gX6_readMatch_X6_begin : GoodIn wsX6_readMatch (wsV RX6 36 RX6 yX6_begin wsX6_begin) := goodIn_app (goodIn_of _ (by decide +kernel)) ggX6_readMatch_X6_begin
set_option maxRecDepth 20000 in
theorem ggX6_readMatch_X6_failHere : GoodIn wsX6_readMatch wsX6_failHere := goodIn_r _ [77, 30, 2, 3, 78, 5, 31, 236, 237, 238, 239, 240, 241, 242, 243, 244, 245, 246, 247, 248, 249] rfl (by decide +kernel)
set_option maxRecDepth 20000 in
theorem gX6_readMatch_X6_failHere : GoodIn wsX6_readMatch (wsV RX6 65 RX6 yX6_failHere wsX6_failHere) := goodIn_app (goodIn_of _ (by decide +kernel)) ggX6_readMatch_X6_failHere
set_option maxRecDepth 20000 in
theorem ggX6_begin_X7_begin : GoodIn wsX6_begin wsX7_begin := goodIn_r _ [8, 9, 10, 11, 12, 13, 14, 15, 16, 17, 18, 19, 20, 21, 22, 23, 24, 7, 25, 26, 27, 28, 29, 30, 31, 32, 33, 34, 35, 36, 37, 38, 44, 45, 46, 47, 48, 49, 50, 51, 52, 53, 54] rfl (by decide +kernel)
set_option maxRecDepth 20000 in
theorem gX6_begin_X7_begin : GoodIn wsX6_begin (wsV RX6 85 RX7 yX7_begin wsX7_begin) := goodIn_app (goodIn_of _ (by decide +kernel)) ggX6_begin_X7_begin
set_option maxRecDepth 20000 in
theorem ggX6_readRow_X6_begin : GoodIn wsX6_readRow wsX6_begin := goodIn_r _ [11, 12, 13, 5, 14, 15, 16, 17, 18, 19, 20, 21, 22, 23, 24, 25, 26, 27, 28, 29, 30, 31, 32, 33, 34, 35, 36, 37, 38, 39, 40, 41, 42, 43, 44, 45, 46, 47, 48, 122, 123, 124, 125, 126, 147, 148, 138, 139, 140, 141, 142, 143, 144, 145, 146] rfl (by decide +kernel)
set_option maxRecDepth 20000 in
theorem gX6_readRow_X6_begin : GoodIn wsX6_readRow (wsV RX6 36 RX6 yX6_begin wsX6_begin) := goodIn_app (goodIn_of _ (by decide +kernel)) ggX6_readRow_X6_begin
set_option maxRecDepth 20000 in
theorem ggX6_readRow_X6_fail : GoodIn wsX6_readRow wsX6_fail := goodIn_r _ [52, 12, 13, 122, 123, 124, 125, 126] rfl (by decide +kernel)
set_option maxRecDepth 20000 in
theorem gX6_readRow_X6_fail : GoodIn wsX6_readRow (wsV RX6 75 RX6 yX6_fail wsX6_fail) := goodIn_app (goodIn_of _ (by decide +kernel)) ggX6_readRow_X6_fail
set_option maxRecDepth 20000 in
theorem ggX7_init_X7_spell : GoodIn wsX7_init wsX7_spell := goodIn_r _ [10, 11, 12, 13, 14, 15, 16, 17, 18, 19, 20, 21, 22, 23, 24, 25, 26, 27, 28, 29, 30, 31, 32, 33, 34, 35, 36, 37, 38, 39, 40, 41, 42, 43, 44, 45, 46, 47, 48, 49, 50, 51, 52, 53, 54, 55, 56, 57, 58, 59] rfl (by decide +kernel)
set_option maxRecDepth 20000 in
theorem gX7_init_X7_spell : GoodIn wsX7_init (va_wsS RX7 11 yX7_spell wsX7_spell) := goodIn_app (goodIn_of _ (by decide +kernel)) ggX7_init_X7_spell
set_option maxRecDepth 20000 in
theorem ggX7_spell_J0_length_8abf5 : GoodIn wsX7_spell wsJ0_length_8abf5 := goodIn_r _ [5, 6, 7, 8, 9, 4, 10, 11, 12] rfl (by decide +kernel)
set_option maxRecDepth 20000 in
theorem gX7_spell_J0_length_8abf5 : GoodIn wsX7_spell (wsV RX7 44 RJ0 yJ0_length_8abf5 wsJ0_length_8abf5) := goodIn_app (goodIn_of _ (by decide +kernel)) ggX7_spell_J0_length_8abf5
set_option maxRecDepth 20000 in
theorem ggX7_spell_J0_charAt_5068e : GoodIn wsX7_spell wsJ0_charAt_5068e := goodIn_r _ [16, 6, 17, 18, 19, 4, 20, 11, 12, 21, 22, 23, 24, 25, 26, 27, 28, 29, 30, 31, 32, 33, 34, 35, 36, 37, 38, 39, 40, 41, 42, 43, 44, 45, 46, 47, 48, 49] rfl (by decide +kernel)
set_option maxRecDepth 20000 in
theorem gX7_spell_J0_charAt_5068e : GoodIn wsX7_spell (wsV RX7 50 RJ0 yJ0_charAt_5068e wsJ0_charAt_5068e) := goodIn_app (goodIn_of _ (by decide +kernel)) ggX7_spell_J0_charAt_5068e
set_option maxRecDepth 20000 in
theorem ggX7_begin_X7_step : GoodIn wsX7_begin wsX7_step := goodIn_r _ [18, 13, 12, 11, 2, 19, 20, 21, 22, 23, 24, 25, 17, 26, 27, 28, 29, 30, 31, 34, 35, 36, 37, 38, 39, 40, 41, 42] rfl (by decide +kernel)
set_option maxRecDepth 20000 in
theorem gX7_begin_X7_step : GoodIn wsX7_begin (wsV RX7 78 RX7 yX7_step wsX7_step) := goodIn_app (goodIn_of _ (by decide +kernel)) ggX7_begin_X7_step
set_option maxRecDepth 20000 in
theorem ggX9_init_X3_init : GoodIn wsX9_init wsX3_init := goodIn_r _ [16, 17, 2, 3, 8, 18, 19, 20, 21, 22, 23, 24, 25, 26, 27, 28, 29, 30, 31, 32, 33, 34, 35, 36, 37] rfl (by decide +kernel)
set_option maxRecDepth 20000 in
theorem gX9_init_X3_init_n11 : GoodIn wsX9_init (wsX3_init) := ggX9_init_X3_init
set_option maxRecDepth 20000 in
theorem ggX9_clear_X3_clear : GoodIn wsX9_clear wsX3_clear := goodIn_r _ [11, 12, 13, 25, 26, 27, 28, 29, 30, 31, 32, 33, 34, 35] rfl (by decide +kernel)
set_option maxRecDepth 20000 in
theorem gX9_clear_X3_clear : GoodIn wsX9_clear (wsV RX9 36 RX3 yX3_clear wsX3_clear) := goodIn_app (goodIn_of _ (by decide +kernel)) ggX9_clear_X3_clear
set_option maxRecDepth 20000 in
theorem ggX10_init_X2_init : GoodIn wsX10_init wsX2_init := goodIn_r _ [19, 20, 2, 3, 21, 22, 23, 24, 10, 25, 26, 27, 43, 44, 45, 46] rfl (by decide +kernel)
set_option maxRecDepth 20000 in
theorem gX10_init_X2_init : GoodIn wsX10_init (wsX2_init) := ggX10_init_X2_init
set_option maxRecDepth 20000 in
theorem ggX11_init_X1_init : GoodIn wsX11_init wsX1_init := goodIn_r _ [49, 50, 2, 3, 51, 52, 53, 54, 31, 55, 199, 200] rfl (by decide +kernel)
set_option maxRecDepth 20000 in
theorem gX11_init_X1_init : GoodIn wsX11_init (wsX1_init) := ggX11_init_X1_init
set_option maxRecDepth 20000 in
theorem ggX11_init_X4_init : GoodIn wsX11_init wsX4_init := goodIn_r _ [57, 58, 2, 3, 31, 59, 60, 216, 217, 218] rfl (by decide +kernel)
set_option maxRecDepth 20000 in
theorem gX11_init_X4_init_n23 : GoodIn wsX11_init (wsX4_init) := ggX11_init_X4_init
set_option maxRecDepth 20000 in
theorem ggX11_init_X2_init : GoodIn wsX11_init wsX2_init := goodIn_r _ [63, 64, 2, 3, 65, 52, 53, 54, 31, 66, 67, 68, 219, 220, 221, 222] rfl (by decide +kernel)
set_option maxRecDepth 20000 in
theorem gX11_init_X2_init : GoodIn wsX11_init (wsX2_init) := ggX11_init_X2_init
set_option maxRecDepth 20000 in
theorem ggX11_init_X5_init : GoodIn wsX11_init wsX5_init := goodIn_r _ [70, 71, 2, 3, 31, 72, 223, 224, 225, 226] rfl (by decide +kernel)
set_option maxRecDepth 20000 in
theorem gX11_init_X5_init_n42 : GoodIn wsX11_init (wsX5_init) := ggX11_init_X5_init
set_option maxRecDepth 20000 in
theorem ggX11_init_X0_init : GoodIn wsX11_init wsX0_init := goodIn_r _ [75, 76, 2, 3, 31, 77, 78, 79, 80, 81, 82, 19, 20, 69, 70, 71, 72, 227, 228, 229, 230, 231, 232, 233, 234, 223, 224, 225, 226] rfl (by decide +kernel)
set_option maxRecDepth 20000 in
theorem gX11_init_X0_init : GoodIn wsX11_init (wsX0_init) := ggX11_init_X0_init
set_option maxRecDepth 20000 in
theorem ggX11_init_X8_init : GoodIn wsX11_init wsX8_init := goodIn_r _ [84, 85, 2, 3, 31, 86, 87, 88, 89, 235, 236, 237, 238, 239, 240] rfl (by decide +kernel)
set_option maxRecDepth 20000 in
theorem gX11_init_X8_init_n59 : GoodIn wsX11_init (wsX8_init) := ggX11_init_X8_init
set_option maxRecDepth 20000 in
theorem ggX11_init_X9_init : GoodIn wsX11_init wsX9_init := goodIn_r _ [91, 92, 2, 3, 93, 94, 95, 96, 31, 97, 98, 99, 100, 101, 102, 103, 104, 105, 106, 107, 108, 109, 110, 111, 112, 113, 114, 272, 273, 274, 275, 276, 277, 278, 279, 280, 281, 282, 241, 242, 243, 244, 245, 246, 247, 248, 249, 250, 251] rfl (by decide +kernel)
set_option maxRecDepth 20000 in
theorem gX11_init_X9_init_n70 : GoodIn wsX11_init (wsX9_init) := ggX11_init_X9_init
set_option maxRecDepth 20000 in
theorem ggX11_init_X6_init : GoodIn wsX11_init wsX6_init := goodIn_r _ [117, 118, 2, 3, 119, 120, 121, 122, 123, 31, 124, 125, 126, 127, 128, 129, 130, 131, 132, 133, 134, 135, 136, 137, 138, 139, 140, 141, 142, 143, 144, 145, 146, 147, 148, 149, 150, 151, 152, 153, 154, 155, 156, 157, 158, 159, 160, 161, 162, 163, 164, 165, 166, 167, 168, 169, 170, 171, 172, 173, 174, 175, 176, 177, 178, 179, 180, 181, 182, 183, 283, 284, 285, 286, 287, 288, 289, 290, 291, 252, 253, 254, 255, 256] rfl (by decide +kernel)
set_option maxRecDepth 20000 in
theorem gX11_init_X6_init : GoodIn wsX11_init (wsX6_init) := ggX11_init_X6_init
set_option maxRecDepth 20000 in
theorem ggX11_init_X10_init : GoodIn wsX11_init wsX10_init := goodIn_r _ [186, 187, 2, 3, 188, 189, 190, 191, 192, 193, 31, 194, 195, 196, 197, 14, 15, 198, 62, 63, 64, 65, 52, 53, 54, 66, 67, 68, 257, 258, 259, 260, 261, 262, 263, 264, 265, 266, 267, 268, 269, 270, 271, 219, 220, 221, 222] rfl (by decide +kernel)
set_option maxRecDepth 20000 in
theorem gX11_init_X10_init : GoodIn wsX11_init (wsX10_init) := ggX11_init_X10_init
set_option maxRecDepth 20000 in
theorem ggX11_feed_X1_addFour : GoodIn wsX11_feed wsX1_addFour := goodIn_r _ [13, 14, 15, 16, 12, 17, 18, 19, 35, 36] rfl (by decide +kernel)
set_option maxRecDepth 20000 in
theorem gX11_feed_X1_addFour : GoodIn wsX11_feed (wsV RX11 107 RX1 yX1_addFour wsX1_addFour) := goodIn_app (goodIn_of _ (by decide +kernel)) ggX11_feed_X1_addFour
set_option maxRecDepth 20000 in
theorem ggX11_end_X11_refuse : GoodIn wsX11_end wsX11_refuse := goodIn_r _ [7, 8, 9, 10, 11, 12, 13, 14, 15, 16, 17, 18, 19, 20, 21, 22, 23] rfl (by decide +kernel)
set_option maxRecDepth 20000 in
theorem gX11_end_X11_refuse : GoodIn wsX11_end (wsV RX11 103 RX11 yX11_refuse wsX11_refuse) := goodIn_app (goodIn_of _ (by decide +kernel)) ggX11_end_X11_refuse
set_option maxRecDepth 20000 in
theorem ggX11_match_X6_readMatch : GoodIn wsX11_match wsX6_readMatch := goodIn_r _ [10, 11, 12, 13, 14, 15, 16, 17, 18, 19, 20, 21, 22, 23, 24, 25, 26, 27, 28, 29, 30, 31, 32, 33, 34, 35, 36, 37, 9, 38, 39, 40, 41, 42, 43, 44, 45, 46, 47, 48, 49, 50, 51, 52, 53, 54, 55, 56, 57, 58, 59, 60, 61, 62, 63, 64, 65, 66, 67, 68, 69, 70, 71, 72, 73, 74, 75, 76, 77, 78, 79, 80, 81, 82, 83, 84, 85, 86, 87, 88, 89, 90, 91, 92, 93, 94, 95, 96, 97, 98, 99, 100, 101, 102, 103, 104, 105, 106, 107, 108, 109, 110, 111, 112, 113, 114, 115, 116, 117, 118, 119, 120, 121, 122, 123, 124, 125, 126, 127, 128, 129, 130, 131, 132, 133, 134, 135, 136, 137, 138, 139, 140, 141, 142, 143, 144, 145, 146, 147, 148, 149, 150, 151, 152, 153, 154, 155, 156, 157, 158, 159, 160, 161, 162, 163, 164, 165, 166, 167, 168, 169, 170, 171, 172, 173, 174, 175, 176, 177, 178, 179, 180, 181, 182, 183, 184, 185, 186, 187, 188, 189, 190, 191, 192, 193, 194, 195, 196, 197, 198, 199, 200, 201, 202, 203, 204, 205, 206, 207, 208, 209, 210, 211, 212, 213, 214, 215, 216, 217, 218, 219, 220, 221, 222, 223, 224, 225, 226, 227, 228, 229, 230, 231, 232, 233, 234, 235, 236, 237, 238, 239, 240, 241, 242, 243, 244, 351, 352, 353, 354, 355, 356, 357, 358, 359, 360, 361, 362, 363, 364, 365, 366, 367, 368, 369, 370, 371, 372, 373, 374, 375, 376, 377, 378, 379, 380, 381, 382, 383, 384, 385, 386, 349, 350] rfl (by decide +kernel)
set_option maxRecDepth 20000 in
theorem gX11_match_X6_readMatch : GoodIn wsX11_match (wsV RX11 110 RX6 yX6_readMatch wsX6_readMatch) := goodIn_app (goodIn_of _ (by decide +kernel)) ggX11_match_X6_readMatch
set_option maxRecDepth 20000 in
theorem ggX11_match_X11_refuse : GoodIn wsX11_match wsX11_refuse := goodIn_r _ [249, 250, 334, 335, 336, 337, 338, 339, 340, 341, 342, 343, 344, 345, 346, 347, 348] rfl (by decide +kernel)
set_option maxRecDepth 20000 in
theorem gX11_match_X11_refuse : GoodIn wsX11_match (wsV RX11 103 RX11 yX11_refuse wsX11_refuse) := goodIn_app (goodIn_of _ (by decide +kernel)) ggX11_match_X11_refuse
set_option maxRecDepth 20000 in
theorem ggX11_has_X0_keptTold : GoodIn wsX11_has wsX0_keptTold := goodIn_r _ [20, 21, 22, 23, 24, 25, 73, 74, 75, 76, 77, 78, 79, 80] rfl (by decide +kernel)
set_option maxRecDepth 20000 in
theorem gX11_has_X0_keptTold : GoodIn wsX11_has (wsV RX11 181 RX0 yX0_keptTold wsX0_keptTold) := goodIn_app (goodIn_of _ (by decide +kernel)) ggX11_has_X0_keptTold
set_option maxRecDepth 20000 in
theorem ggX11_letter_X3_isKind : GoodIn wsX11_letter wsX3_isKind := goodIn_r _ [9, 10, 46, 47, 48, 49, 50, 51, 52, 53, 54, 55, 56] rfl (by decide +kernel)
set_option maxRecDepth 20000 in
theorem gX11_letter_X3_isKind : GoodIn wsX11_letter (wsV RX11 188 RX3 yX3_isKind wsX3_isKind) := goodIn_app (goodIn_of _ (by decide +kernel)) ggX11_letter_X3_isKind
set_option maxRecDepth 20000 in
theorem ggX11_letter_X3_isCon : GoodIn wsX11_letter wsX3_isCon := goodIn_r _ [18, 19, 46, 47, 48, 49, 50, 51, 52, 53, 54, 55, 56] rfl (by decide +kernel)
set_option maxRecDepth 20000 in
theorem gX11_letter_X3_isCon : GoodIn wsX11_letter (wsV RX11 198 RX3 yX3_isCon wsX3_isCon) := goodIn_app (goodIn_of _ (by decide +kernel)) ggX11_letter_X3_isCon
set_option maxRecDepth 20000 in
theorem ggX11_values_X11_matched : GoodIn wsX11_values wsX11_matched := goodIn_r _ [7, 1, 8, 20, 21, 22, 23, 24, 25, 26, 27, 28, 29, 30, 31, 32, 33, 34, 35, 36, 37, 38, 39, 40, 41, 42, 43, 44, 45] rfl (by decide +kernel)
set_option maxRecDepth 20000 in
theorem gX11_values_X11_matched : GoodIn wsX11_values (wsV RX11 204 RX11 yX11_matched wsX11_matched) := goodIn_app (goodIn_of _ (by decide +kernel)) ggX11_values_X11_matched
set_option maxRecDepth 20000 in
theorem ggX11_arm_X5_armAt : GoodIn wsX11_arm wsX5_armAt := goodIn_r _ [7, 8, 9, 10, 11, 6, 12, 13, 66, 67, 68, 69] rfl (by decide +kernel)
set_option maxRecDepth 20000 in
theorem gX11_arm_X5_armAt : GoodIn wsX11_arm (wsV RX11 212 RX5 yX5_armAt wsX5_armAt) := goodIn_app (goodIn_of _ (by decide +kernel)) ggX11_arm_X5_armAt
set_option maxRecDepth 20000 in
theorem ggX11_fits_X5_armAt : GoodIn wsX11_fits wsX5_armAt := goodIn_r _ [9, 10, 11, 12, 13, 8, 14, 15, 53, 54, 55, 56] rfl (by decide +kernel)
set_option maxRecDepth 20000 in
theorem gX11_fits_X5_armAt : GoodIn wsX11_fits (wsV RX11 212 RX5 yX5_armAt wsX5_armAt) := goodIn_app (goodIn_of _ (by decide +kernel)) ggX11_fits_X5_armAt
set_option maxRecDepth 20000 in
theorem ggX11_holds_X5_armAt : GoodIn wsX11_holds wsX5_armAt := goodIn_r _ [9, 10, 11, 12, 13, 8, 14, 15, 39, 40, 41, 42] rfl (by decide +kernel)
set_option maxRecDepth 20000 in
theorem gX11_holds_X5_armAt : GoodIn wsX11_holds (wsV RX11 212 RX5 yX5_armAt wsX5_armAt) := goodIn_app (goodIn_of _ (by decide +kernel)) ggX11_holds_X5_armAt
set_option maxRecDepth 20000 in
theorem ggX11_missing_X11_matched : GoodIn wsX11_missing wsX11_matched := goodIn_r _ [8, 2, 9, 52, 53, 54, 55, 56, 57, 58, 59, 60, 61, 62, 63, 64, 65, 66, 71, 72, 73, 74, 75, 76, 77, 78, 79, 80, 81] rfl (by decide +kernel)
set_option maxRecDepth 20000 in
theorem gX11_missing_X11_matched : GoodIn wsX11_missing (wsV RX11 204 RX11 yX11_matched wsX11_matched) := goodIn_app (goodIn_of _ (by decide +kernel)) ggX11_missing_X11_matched
set_option maxRecDepth 20000 in
theorem ggX11_taken_X9_isRow : GoodIn wsX11_taken wsX9_isRow := goodIn_r _ [8, 9, 60, 61, 62, 63, 64, 65, 66, 67, 68, 69, 70] rfl (by decide +kernel)
set_option maxRecDepth 20000 in
theorem gX11_taken_X9_isRow : GoodIn wsX11_taken (wsV RX11 258 RX9 yX9_isRow wsX9_isRow) := goodIn_app (goodIn_of _ (by decide +kernel)) ggX11_taken_X9_isRow
set_option maxRecDepth 20000 in
theorem ggX11_row_X6_readRow : GoodIn wsX11_row wsX6_readRow := goodIn_r _ [9, 10, 11, 12, 13, 14, 15, 16, 17, 18, 8, 19, 20, 21, 22, 23, 24, 25, 26, 27, 28, 29, 30, 31, 32, 33, 34, 35, 36, 37, 38, 39, 40, 41, 42, 43, 44, 45, 46, 47, 48, 49, 50, 51, 52, 53, 54, 55, 56, 57, 58, 59, 60, 61, 62, 63, 64, 65, 66, 67, 68, 69, 70, 71, 72, 73, 74, 75, 76, 77, 78, 79, 80, 81, 82, 83, 84, 85, 86, 87, 88, 89, 90, 91, 92, 93, 94, 95, 96, 97, 98, 99, 100, 101, 102, 103, 104, 105, 106, 107, 108, 109, 110, 111, 112, 113, 114, 115, 116, 117, 118, 119, 120, 121, 122, 123, 124, 125, 126, 127, 128, 129, 153, 154, 155, 156, 157, 158, 159, 160, 161, 162, 163, 164, 165, 166, 167, 168, 169, 170, 171, 172, 173, 174, 175, 176, 177, 151, 152, 178, 179, 180, 181, 182, 183, 184, 185, 186, 187, 188] rfl (by decide +kernel)
set_option maxRecDepth 20000 in
theorem gX11_row_X6_readRow : GoodIn wsX11_row (wsV RX11 261 RX6 yX6_readRow wsX6_readRow) := goodIn_app (goodIn_of _ (by decide +kernel)) ggX11_row_X6_readRow
set_option maxRecDepth 20000 in
theorem ggX11_row_X11_refuse : GoodIn wsX11_row wsX11_refuse := goodIn_r _ [134, 135, 136, 137, 138, 139, 140, 141, 142, 143, 144, 145, 146, 147, 148, 149, 150] rfl (by decide +kernel)
set_option maxRecDepth 20000 in
theorem gX11_row_X11_refuse : GoodIn wsX11_row (wsV RX11 103 RX11 yX11_refuse wsX11_refuse) := goodIn_app (goodIn_of _ (by decide +kernel)) ggX11_row_X11_refuse
set_option maxRecDepth 20000 in
theorem ggX11_text_X9_isRow : GoodIn wsX11_text wsX9_isRow := goodIn_r _ [11, 12, 92, 93, 94, 95, 96, 97, 98, 99, 100, 101, 102] rfl (by decide +kernel)
set_option maxRecDepth 20000 in
theorem gX11_text_X9_isRow : GoodIn wsX11_text (wsV RX11 258 RX9 yX9_isRow wsX9_isRow) := goodIn_app (goodIn_of _ (by decide +kernel)) ggX11_text_X9_isRow
set_option maxRecDepth 20000 in
theorem ggX11_octet_X1_byteAt : GoodIn wsX11_octet wsX1_byteAt := goodIn_r _ [6, 7, 8, 24, 25] rfl (by decide +kernel)
set_option maxRecDepth 20000 in
theorem gX11_octet_X1_byteAt : GoodIn wsX11_octet (wsV RX11 300 RX1 yX1_byteAt wsX1_byteAt) := goodIn_app (goodIn_of _ (by decide +kernel)) ggX11_octet_X1_byteAt
set_option maxRecDepth 20000 in
theorem ggX11_tree_X11_matched : GoodIn wsX11_tree wsX11_matched := goodIn_r _ [8, 9, 10, 154, 155, 156, 157, 158, 159, 160, 161, 162, 163, 164, 165, 166, 167, 168, 184, 185, 186, 187, 188, 189, 190, 191, 192, 193, 194] rfl (by decide +kernel)
set_option maxRecDepth 20000 in
theorem gX11_tree_X11_matched : GoodIn wsX11_tree (wsV RX11 204 RX11 yX11_matched wsX11_matched) := goodIn_app (goodIn_of _ (by decide +kernel)) ggX11_tree_X11_matched
set_option maxRecDepth 20000 in
theorem ggX11_first_X11_matched : GoodIn wsX11_first wsX11_matched := goodIn_r _ [7, 8, 9, 95, 96, 97, 98, 99, 100, 101, 102, 103, 104, 105, 106, 107, 108, 109, 110, 111, 112, 113, 114, 115, 116, 117, 118, 119, 120] rfl (by decide +kernel)
set_option maxRecDepth 20000 in
theorem gX11_first_X11_matched : GoodIn wsX11_first (wsV RX11 204 RX11 yX11_matched wsX11_matched) := goodIn_app (goodIn_of _ (by decide +kernel)) ggX11_first_X11_matched
set_option maxRecDepth 20000 in
theorem ggX11_scopes_X11_matched : GoodIn wsX11_scopes wsX11_matched := goodIn_r _ [10, 11, 12, 148, 149, 150, 151, 152, 153, 154, 155, 156, 157, 158, 159, 160, 161, 162, 178, 179, 180, 181, 182, 183, 184, 185, 186, 187, 188] rfl (by decide +kernel)
set_option maxRecDepth 20000 in
theorem gX11_scopes_X11_matched : GoodIn wsX11_scopes (wsV RX11 204 RX11 yX11_matched wsX11_matched) := goodIn_app (goodIn_of _ (by decide +kernel)) ggX11_scopes_X11_matched
set_option maxRecDepth 20000 in
theorem ggX11_safe_X5_isPlace : GoodIn wsX11_safe wsX5_isPlace := goodIn_r _ [7, 8, 59, 60, 61, 62] rfl (by decide +kernel)
set_option maxRecDepth 20000 in
theorem gX11_safe_X5_isPlace : GoodIn wsX11_safe (wsV RX11 344 RX5 yX5_isPlace wsX5_isPlace) := goodIn_app (goodIn_of _ (by decide +kernel)) ggX11_safe_X5_isPlace
set_option maxRecDepth 20000 in
theorem ggX11_best_X11_matched : GoodIn wsX11_best wsX11_matched := goodIn_r _ [8, 9, 10, 182, 183, 184, 185, 186, 187, 188, 189, 190, 191, 192, 193, 194, 195, 196, 201, 202, 203, 204, 205, 206, 207, 208, 209, 210, 211] rfl (by decide +kernel)
set_option maxRecDepth 20000 in
theorem gX11_best_X11_matched : GoodIn wsX11_best (wsV RX11 204 RX11 yX11_matched wsX11_matched) := goodIn_app (goodIn_of _ (by decide +kernel)) ggX11_best_X11_matched
set_option maxRecDepth 20000 in
theorem ggX11_see_X11_matched : GoodIn wsX11_see wsX11_matched := goodIn_r _ [11, 3, 12, 55, 56, 57, 58, 59, 60, 61, 62, 63, 64, 65, 66, 67, 68, 69, 78, 79, 80, 81, 82, 83, 84, 85, 86, 87, 88] rfl (by decide +kernel)
set_option maxRecDepth 20000 in
theorem gX11_see_X11_matched : GoodIn wsX11_see (wsV RX11 204 RX11 yX11_matched wsX11_matched) := goodIn_app (goodIn_of _ (by decide +kernel)) ggX11_see_X11_matched
set_option maxRecDepth 20000 in
theorem ggX11_see_X11_refuse : GoodIn wsX11_see wsX11_refuse := goodIn_r _ [53, 54, 55, 56, 57, 58, 59, 60, 61, 62, 63, 64, 65, 66, 67, 68, 69] rfl (by decide +kernel)
set_option maxRecDepth 20000 in
theorem gX11_see_X11_refuse : GoodIn wsX11_see (wsV RX11 103 RX11 yX11_refuse wsX11_refuse) := goodIn_app (goodIn_of _ (by decide +kernel)) ggX11_see_X11_refuse
set_option maxRecDepth 20000 in
theorem ggX11_sets_X11_matched : GoodIn wsX11_sets wsX11_matched := goodIn_r _ [10, 2, 11, 65, 66, 67, 68, 69, 70, 71, 72, 73, 74, 75, 76, 77, 78, 79, 86, 87, 88, 89, 90, 91, 92, 93, 94, 95, 96] rfl (by decide +kernel)
set_option maxRecDepth 20000 in
theorem gX11_sets_X11_matched : GoodIn wsX11_sets (wsV RX11 204 RX11 yX11_matched wsX11_matched) := goodIn_app (goodIn_of _ (by decide +kernel)) ggX11_sets_X11_matched
set_option maxRecDepth 20000 in
theorem ggX11_tells_X11_matched : GoodIn wsX11_tells wsX11_matched := goodIn_r _ [11, 2, 12, 84, 85, 86, 87, 88, 89, 90, 91, 92, 93, 94, 95, 96, 97, 98, 105, 106, 107, 108, 109, 110, 111, 112, 113, 114, 115] rfl (by decide +kernel)
set_option maxRecDepth 20000 in
theorem gX11_tells_X11_matched : GoodIn wsX11_tells (wsV RX11 204 RX11 yX11_matched wsX11_matched) := goodIn_app (goodIn_of _ (by decide +kernel)) ggX11_tells_X11_matched
set_option maxRecDepth 20000 in
theorem ggX11_run_X9_isRow : GoodIn wsX11_run wsX9_isRow := goodIn_r _ [6, 7, 184, 185, 186, 187, 188, 189, 190, 191, 192, 193, 194] rfl (by decide +kernel)
set_option maxRecDepth 20000 in
theorem gX11_run_X9_isRow : GoodIn wsX11_run (wsV RX11 258 RX9 yX9_isRow wsX9_isRow) := goodIn_app (goodIn_of _ (by decide +kernel)) ggX11_run_X9_isRow
set_option maxRecDepth 20000 in
theorem ggX11_run_X11_refuse : GoodIn wsX11_run wsX11_refuse := goodIn_r _ [12, 13, 169, 170, 171, 172, 173, 174, 175, 176, 177, 178, 179, 180, 181, 182, 183] rfl (by decide +kernel)
set_option maxRecDepth 20000 in
theorem gX11_run_X11_refuse : GoodIn wsX11_run (wsV RX11 103 RX11 yX11_refuse wsX11_refuse) := goodIn_app (goodIn_of _ (by decide +kernel)) ggX11_run_X11_refuse
set_option maxRecDepth 20000 in
theorem ggX11_chance_X11_matched : GoodIn wsX11_chance wsX11_matched := goodIn_r _ [7, 1, 8, 177, 178, 179, 180, 181, 182, 183, 184, 185, 186, 187, 188, 189, 190, 191, 192, 193, 194, 195, 196, 197, 198, 199, 200, 201, 202] rfl (by decide +kernel)
set_option maxRecDepth 20000 in
theorem gX11_chance_X11_matched : GoodIn wsX11_chance (wsV RX11 204 RX11 yX11_matched wsX11_matched) := goodIn_app (goodIn_of _ (by decide +kernel)) ggX11_chance_X11_matched
set_option maxRecDepth 20000 in
theorem ggX11_chance_X11_refuse : GoodIn wsX11_chance wsX11_refuse := goodIn_r _ [12, 13, 177, 178, 179, 180, 181, 182, 183, 184, 185, 186, 187, 188, 189, 190, 191] rfl (by decide +kernel)
set_option maxRecDepth 20000 in
theorem gX11_chance_X11_refuse : GoodIn wsX11_chance (wsV RX11 103 RX11 yX11_refuse wsX11_refuse) := goodIn_app (goodIn_of _ (by decide +kernel)) ggX11_chance_X11_refuse
set_option maxRecDepth 20000 in
theorem ggX11_swap_X5_isPlace : GoodIn wsX11_swap wsX5_isPlace := goodIn_r _ [6, 7, 64, 65, 66, 67] rfl (by decide +kernel)
set_option maxRecDepth 20000 in
theorem gX11_swap_X5_isPlace : GoodIn wsX11_swap (wsV RX11 344 RX5 yX5_isPlace wsX5_isPlace) := goodIn_app (goodIn_of _ (by decide +kernel)) ggX11_swap_X5_isPlace
set_option maxRecDepth 20000 in
theorem ggX11_swap_X11_refuse : GoodIn wsX11_swap wsX11_refuse := goodIn_r _ [12, 13, 49, 50, 51, 52, 53, 54, 55, 56, 57, 58, 59, 60, 61, 62, 63] rfl (by decide +kernel)
set_option maxRecDepth 20000 in
theorem gX11_swap_X11_refuse : GoodIn wsX11_swap (wsV RX11 103 RX11 yX11_refuse wsX11_refuse) := goodIn_app (goodIn_of _ (by decide +kernel)) ggX11_swap_X11_refuse
set_option maxRecDepth 20000 in
theorem ggX11_drop_X5_isPlace : GoodIn wsX11_drop wsX5_isPlace := goodIn_r _ [6, 7, 64, 65, 66, 67] rfl (by decide +kernel)
set_option maxRecDepth 20000 in
theorem gX11_drop_X5_isPlace : GoodIn wsX11_drop (wsV RX11 344 RX5 yX5_isPlace wsX5_isPlace) := goodIn_app (goodIn_of _ (by decide +kernel)) ggX11_drop_X5_isPlace
set_option maxRecDepth 20000 in
theorem ggX11_drop_X11_refuse : GoodIn wsX11_drop wsX11_refuse := goodIn_r _ [12, 13, 49, 50, 51, 52, 53, 54, 55, 56, 57, 58, 59, 60, 61, 62, 63] rfl (by decide +kernel)
set_option maxRecDepth 20000 in
theorem gX11_drop_X11_refuse : GoodIn wsX11_drop (wsV RX11 103 RX11 yX11_refuse wsX11_refuse) := goodIn_app (goodIn_of _ (by decide +kernel)) ggX11_drop_X11_refuse
set_option maxRecDepth 20000 in
theorem ggX11_turn_X11_matched : GoodIn wsX11_turn wsX11_matched := goodIn_r _ [7, 8, 9, 50, 51, 52, 53, 54, 55, 56, 57, 58, 59, 60, 61, 62, 63, 64, 69, 70, 71, 72, 73, 74, 75, 76, 77, 78, 79] rfl (by decide +kernel)
set_option maxRecDepth 20000 in
theorem gX11_turn_X11_matched : GoodIn wsX11_turn (wsV RX11 204 RX11 yX11_matched wsX11_matched) := goodIn_app (goodIn_of _ (by decide +kernel)) ggX11_turn_X11_matched
set_option maxRecDepth 20000 in
theorem ggX11_turn_X11_refuse : GoodIn wsX11_turn wsX11_refuse := goodIn_r _ [13, 14, 50, 51, 52, 53, 54, 55, 56, 57, 58, 59, 60, 61, 62, 63, 64] rfl (by decide +kernel)
set_option maxRecDepth 20000 in
theorem gX11_turn_X11_refuse : GoodIn wsX11_turn (wsV RX11 103 RX11 yX11_refuse wsX11_refuse) := goodIn_app (goodIn_of _ (by decide +kernel)) ggX11_turn_X11_refuse
set_option maxRecDepth 20000 in
theorem ggX11_choose_X11_matched : GoodIn wsX11_choose wsX11_matched := goodIn_r _ [7, 8, 9, 50, 51, 52, 53, 54, 55, 56, 57, 58, 59, 60, 61, 62, 63, 64, 69, 70, 71, 72, 73, 74, 75, 76, 77, 78, 79] rfl (by decide +kernel)
set_option maxRecDepth 20000 in
theorem gX11_choose_X11_matched : GoodIn wsX11_choose (wsV RX11 204 RX11 yX11_matched wsX11_matched) := goodIn_app (goodIn_of _ (by decide +kernel)) ggX11_choose_X11_matched
set_option maxRecDepth 20000 in
theorem ggX11_choose_X11_refuse : GoodIn wsX11_choose wsX11_refuse := goodIn_r _ [16, 17, 50, 51, 52, 53, 54, 55, 56, 57, 58, 59, 60, 61, 62, 63, 64] rfl (by decide +kernel)
set_option maxRecDepth 20000 in
theorem gX11_choose_X11_refuse : GoodIn wsX11_choose (wsV RX11 103 RX11 yX11_refuse wsX11_refuse) := goodIn_app (goodIn_of _ (by decide +kernel)) ggX11_choose_X11_refuse
set_option maxRecDepth 20000 in
theorem ggX11_undo_X11_refuse : GoodIn wsX11_undo wsX11_refuse := goodIn_r _ [8, 9, 37, 38, 39, 40, 41, 42, 43, 44, 45, 46, 47, 48, 49, 50, 51] rfl (by decide +kernel)
set_option maxRecDepth 20000 in
theorem gX11_undo_X11_refuse : GoodIn wsX11_undo (wsV RX11 103 RX11 yX11_refuse wsX11_refuse) := goodIn_app (goodIn_of _ (by decide +kernel)) ggX11_undo_X11_refuse
set_option maxRecDepth 20000 in
theorem ggX11_seed_X11_refuse : GoodIn wsX11_seed wsX11_refuse := goodIn_r _ [6, 7, 8, 9, 10, 11, 12, 13, 14, 15, 16, 17, 18, 19, 20, 21, 22] rfl (by decide +kernel)
set_option maxRecDepth 20000 in
theorem gX11_seed_X11_refuse : GoodIn wsX11_seed (wsV RX11 103 RX11 yX11_refuse wsX11_refuse) := goodIn_app (goodIn_of _ (by decide +kernel)) ggX11_seed_X11_refuse
set_option maxRecDepth 20000 in
theorem ggX11_kept_X0_tellKept : GoodIn wsX11_kept wsX0_tellKept := goodIn_r _ [6, 7, 8, 9, 10, 11, 12, 13, 5, 14, 15, 16, 17, 18, 19, 20, 21, 22, 38, 39, 40, 41, 42, 43, 44, 45] rfl (by decide +kernel)
set_option maxRecDepth 20000 in
theorem gX11_kept_X0_tellKept : GoodIn wsX11_kept (wsV RX11 414 RX0 yX0_tellKept wsX0_tellKept) := goodIn_app (goodIn_of _ (by decide +kernel)) ggX11_kept_X0_tellKept
set_option maxRecDepth 20000 in
theorem ggX11_image_X1_add : GoodIn wsX11_image wsX1_add := goodIn_r _ [12, 13, 14, 34, 35] rfl (by decide +kernel)
set_option maxRecDepth 20000 in
theorem gX11_image_X1_add : GoodIn wsX11_image (wsV RX11 264 RX1 yX1_add wsX1_add) := goodIn_app (goodIn_of _ (by decide +kernel)) ggX11_image_X1_add
set_option maxRecDepth 20000 in
theorem ggX11_image_X1_checkByte : GoodIn wsX11_image wsX1_checkByte := goodIn_r _ [18, 14, 34, 35] rfl (by decide +kernel)
set_option maxRecDepth 20000 in
theorem gX11_image_X1_checkByte : GoodIn wsX11_image (wsV RX11 420 RX1 yX1_checkByte wsX1_checkByte) := goodIn_app (goodIn_of _ (by decide +kernel)) ggX11_image_X1_checkByte
set_option maxRecDepth 20000 in
theorem ggX11_on_X11_matched : GoodIn wsX11_on wsX11_matched := goodIn_r _ [7, 8, 9, 61, 62, 63, 64, 65, 66, 67, 68, 69, 70, 71, 72, 73, 74, 75, 78, 79, 80, 81, 82, 83, 84, 85, 86, 87, 88] rfl (by decide +kernel)
set_option maxRecDepth 20000 in
theorem gX11_on_X11_matched : GoodIn wsX11_on (wsV RX11 204 RX11 yX11_matched wsX11_matched) := goodIn_app (goodIn_of _ (by decide +kernel)) ggX11_on_X11_matched
set_option maxRecDepth 20000 in
theorem ggX11_on_X11_refuse : GoodIn wsX11_on wsX11_refuse := goodIn_r _ [59, 60, 61, 62, 63, 64, 65, 66, 67, 68, 69, 70, 71, 72, 73, 74, 75] rfl (by decide +kernel)
set_option maxRecDepth 20000 in
theorem gX11_on_X11_refuse : GoodIn wsX11_on (wsV RX11 103 RX11 yX11_refuse wsX11_refuse) := goodIn_app (goodIn_of _ (by decide +kernel)) ggX11_on_X11_refuse
set_option maxRecDepth 20000 in
theorem ggX12_init_X12_begin : GoodIn wsX12_init wsX12_begin := goodIn_r _ [109, 59, 30, 18, 60, 61, 50, 62, 32, 63, 66, 99, 110, 111, 112, 113, 114, 115, 116, 117, 118, 119, 120, 121, 122, 123, 124, 125, 126, 127, 128, 129, 130, 131, 132, 133, 134, 135, 136, 137, 138, 139, 140, 141, 142, 143, 144, 145, 146, 147, 148, 149, 150, 151, 152, 153, 154, 155, 156, 157, 158, 159, 160, 161, 162, 163, 164, 165, 166, 167, 168, 169, 170, 171, 172, 173, 174, 175, 176, 177, 178, 179, 180, 181, 182, 183, 184, 185, 186, 187, 188, 189, 190, 191, 192, 193, 194, 195, 196, 197, 198, 199, 200, 201, 202, 203, 204, 205, 206, 207] rfl (by decide +kernel)
set_option maxRecDepth 20000 in
theorem gX12_init_X12_begin : GoodIn wsX12_init (wsV RX12 309 RX12 yX12_begin wsX12_begin) := goodIn_app (goodIn_of _ (by decide +kernel)) ggX12_init_X12_begin
set_option maxRecDepth 20000 in
theorem ggX12_feed_X12_put : GoodIn wsX12_feed wsX12_put := goodIn_r _ [11, 12, 1, 13, 14, 15, 16, 17, 18, 19, 20, 21, 22, 23, 24, 25, 26, 27, 28, 29, 30, 31, 32, 33, 34, 35, 36, 37, 38, 39, 40, 41, 42, 43, 44, 45, 46, 47, 48, 49, 50, 51, 52, 53, 54, 55, 56, 57, 58, 59, 60, 61, 62, 63, 64, 65, 66, 67, 68, 69, 70, 71, 72, 73, 74, 75, 76, 77, 78, 79, 80, 81, 82, 83, 84, 85, 86, 87, 88, 89, 90, 91, 92, 93, 94, 95, 96, 97, 98, 99, 100, 101, 102, 103, 104, 105, 106, 107, 108, 109, 110] rfl (by decide +kernel)
set_option maxRecDepth 20000 in
theorem gX12_feed_X12_put : GoodIn wsX12_feed (wsV RX12 316 RX12 yX12_put wsX12_put) := goodIn_app (goodIn_of _ (by decide +kernel)) ggX12_feed_X12_put
set_option maxRecDepth 20000 in
theorem ggX12_end_X12_refuses : GoodIn wsX12_end wsX12_refuses := goodIn_r _ [6, 7, 8, 9, 10, 11, 12, 13, 14, 15, 16, 17, 18, 19, 20, 21, 22, 23, 24, 25, 26, 27, 28, 29, 30, 31, 32, 33, 34, 35, 36, 37, 38, 39, 40, 41, 42, 43, 44, 45, 46, 47, 48, 49, 50, 51, 52, 53, 54, 55, 56, 57, 58, 59, 60, 61, 62, 63, 64, 65, 66, 67, 68, 69, 70, 71, 72, 73, 74, 75, 76, 77, 78, 79, 80, 81, 82, 83, 84, 85, 86, 87, 88, 89, 90, 91, 92, 93, 94, 95, 96, 97, 98, 99, 100, 101, 102, 103, 104, 105] rfl (by decide +kernel)
set_option maxRecDepth 20000 in
theorem gX12_end_X12_refuses : GoodIn wsX12_end (wsV RX12 312 RX12 yX12_refuses wsX12_refuses) := goodIn_app (goodIn_of _ (by decide +kernel)) ggX12_end_X12_refuses
set_option maxRecDepth 20000 in
theorem ggX12_match_X12_ahead : GoodIn wsX12_match wsX12_ahead := goodIn_r _ [24, 3, 2, 25, 26, 16, 27, 28, 29, 30, 31, 23, 32, 33, 34, 35, 230, 231, 232, 233, 234, 235, 236, 237, 238, 239, 240, 241, 242, 243, 244, 245, 246, 247, 248, 249, 250, 251, 252, 253, 254, 255, 256, 257, 258, 259, 260, 261, 262, 263, 264, 265, 266, 267, 268, 269, 270, 271, 272, 273, 274, 275, 276, 277, 278, 279, 280, 281, 282, 283, 284, 285, 286, 287, 288, 289, 290, 291, 292, 293, 294, 295, 296, 297, 298, 299, 300, 301, 302, 303, 304, 305, 306, 307, 308, 309, 310, 311, 312, 313, 314, 315, 316, 317, 318, 319, 320, 321, 322, 323, 324, 325, 326, 327] rfl (by decide +kernel)
set_option maxRecDepth 20000 in
theorem gX12_match_X12_ahead : GoodIn wsX12_match (wsV RX12 337 RX12 yX12_ahead wsX12_ahead) := goodIn_app (goodIn_of _ (by decide +kernel)) ggX12_match_X12_ahead
set_option maxRecDepth 20000 in
theorem ggX12_match_X12_blame : GoodIn wsX12_match wsX12_blame := goodIn_r _ [53, 4, 5, 230, 231, 232, 233, 234, 235, 236, 237, 238, 239, 240, 241, 242, 243, 244, 245, 246, 247, 248, 249, 250, 251, 252, 253, 254, 255, 256, 257, 258, 259, 260, 261, 262, 263, 264, 265, 266, 267, 268, 269, 270, 271, 272, 273, 274, 275, 276, 277, 278, 279, 280, 281, 282, 283, 284, 285, 286, 287, 288, 289, 290, 291, 292, 293, 294, 295, 296, 297, 298, 299, 300, 301, 302, 303, 304, 305, 306, 307, 308, 309, 310, 311, 312, 313, 314, 315, 316, 317, 318, 319, 320, 321, 322, 323, 324, 325, 326, 327] rfl (by decide +kernel)
set_option maxRecDepth 20000 in
theorem gX12_match_X12_blame : GoodIn wsX12_match (wsV RX12 320 RX12 yX12_blame wsX12_blame) := goodIn_app (goodIn_of _ (by decide +kernel)) ggX12_match_X12_blame
set_option maxRecDepth 20000 in
theorem ggX12_match_X12_refuses : GoodIn wsX12_match wsX12_refuses := goodIn_r _ [190, 191, 230, 231, 232, 233, 234, 235, 236, 237, 238, 239, 240, 241, 242, 243, 244, 245, 246, 247, 248, 249, 250, 251, 252, 253, 254, 255, 256, 257, 258, 259, 260, 261, 262, 263, 264, 265, 266, 267, 268, 269, 270, 271, 272, 273, 274, 275, 276, 277, 278, 279, 280, 281, 282, 283, 284, 285, 286, 287, 288, 289, 290, 291, 292, 293, 294, 295, 296, 297, 298, 299, 300, 301, 302, 303, 304, 305, 306, 307, 308, 309, 310, 311, 312, 313, 314, 315, 316, 317, 318, 319, 320, 321, 322, 323, 324, 325, 326, 327] rfl (by decide +kernel)
set_option maxRecDepth 20000 in
theorem gX12_match_X12_refuses : GoodIn wsX12_match (wsV RX12 312 RX12 yX12_refuses wsX12_refuses) := goodIn_app (goodIn_of _ (by decide +kernel)) ggX12_match_X12_refuses
set_option maxRecDepth 20000 in
theorem ggX12_status_X12_is : GoodIn wsX12_status wsX12_is := goodIn_r _ [5] rfl (by decide +kernel)
set_option maxRecDepth 20000 in
theorem gX12_status_X12_is : GoodIn wsX12_status (va_wsS RX12 362 yX12_is wsX12_is) := goodIn_app (goodIn_of _ (by decide +kernel)) ggX12_status_X12_is
set_option maxRecDepth 20000 in
theorem ggX12_undo_X12_refuses : GoodIn wsX12_undo wsX12_refuses := goodIn_r _ [6, 7, 23, 24, 25, 26, 27, 28, 29, 30, 31, 32, 33, 34, 35, 36, 37, 38, 39, 40, 41, 42, 43, 44, 45, 46, 47, 48, 49, 50, 51, 52, 53, 54, 55, 56, 57, 58, 59, 60, 61, 62, 63, 64, 65, 66, 67, 68, 69, 70, 71, 72, 73, 74, 75, 76, 77, 78, 79, 80, 81, 82, 83, 84, 85, 86, 87, 88, 89, 90, 91, 92, 93, 94, 95, 96, 97, 98, 99, 100, 101, 102, 103, 104, 105, 106, 107, 108, 109, 110, 111, 112, 113, 114, 115, 116, 117, 118, 119, 120] rfl (by decide +kernel)
set_option maxRecDepth 20000 in
theorem gX12_undo_X12_refuses : GoodIn wsX12_undo (wsV RX12 312 RX12 yX12_refuses wsX12_refuses) := goodIn_app (goodIn_of _ (by decide +kernel)) ggX12_undo_X12_refuses
set_option maxRecDepth 20000 in
theorem ggX12_has_X12_columns : GoodIn wsX12_has wsX12_columns := goodIn_r _ [17, 18, 2, 19, 20, 21, 22, 23, 24, 25, 26, 27, 28, 29, 30, 31, 32, 33, 34, 35, 36, 37, 38, 39, 40, 41, 42, 43, 44, 45, 46, 47, 48, 49, 50, 51, 52, 53, 54, 55, 56, 57, 58, 59, 60, 61, 62, 63, 64, 65, 66, 67, 68, 69, 70, 71, 72, 73, 74, 75, 76, 77, 78, 79, 80, 81, 82, 83, 84, 85, 86, 87, 88, 89, 90, 91, 92, 93, 94, 95, 96, 97, 98, 99, 100, 101, 102, 103, 104, 105, 106, 107, 108, 109, 110, 111, 112, 113, 114, 115, 116] rfl (by decide +kernel)
set_option maxRecDepth 20000 in
theorem gX12_has_X12_columns : GoodIn wsX12_has (wsV RX12 459 RX12 yX12_columns wsX12_columns) := goodIn_app (goodIn_of _ (by decide +kernel)) ggX12_has_X12_columns
set_option maxRecDepth 20000 in
theorem ggX12_letter_X12_is : GoodIn wsX12_letter wsX12_is := goodIn_r _ [10] rfl (by decide +kernel)
set_option maxRecDepth 20000 in
theorem gX12_letter_X12_is : GoodIn wsX12_letter (va_wsS RX12 362 yX12_is wsX12_is) := goodIn_app (goodIn_of _ (by decide +kernel)) ggX12_letter_X12_is
set_option maxRecDepth 20000 in
theorem ggX12_arm_X12_isPlace : GoodIn wsX12_arm wsX12_isPlace := goodIn_r _ [7, 8, 9, 10, 11, 6, 12, 85, 86, 87, 88, 89, 90, 91, 92, 93, 94, 95, 96, 97, 98, 99, 100, 101, 102, 103, 104, 105, 106, 107, 108, 109, 110, 111, 112, 113, 114, 115, 116, 117, 118, 119, 120, 121, 122, 123, 124, 125, 126, 127, 128, 129, 130, 131, 132, 133, 134, 135, 136, 137, 138, 139, 140, 141, 142, 143, 144, 145, 146, 147, 148, 149, 150, 151, 152, 153, 154, 155, 156, 157, 158, 159, 160, 161, 162, 163, 164, 165, 166, 167, 168, 169, 170, 171, 172, 173, 174, 175, 176, 177, 178, 179, 180, 181, 182] rfl (by decide +kernel)
set_option maxRecDepth 20000 in
theorem gX12_arm_X12_isPlace : GoodIn wsX12_arm (wsV RX12 498 RX12 yX12_isPlace wsX12_isPlace) := goodIn_app (goodIn_of _ (by decide +kernel)) ggX12_arm_X12_isPlace
set_option maxRecDepth 20000 in
theorem ggX12_fits_X12_isPlace : GoodIn wsX12_fits wsX12_isPlace := goodIn_r _ [5, 6, 7, 8, 9, 4, 10, 50, 51, 52, 53, 54, 55, 56, 57, 58, 59, 60, 61, 62, 63, 64, 65, 66, 67, 68, 69, 70, 71, 72, 73, 74, 75, 76, 77, 78, 79, 80, 81, 82, 83, 84, 85, 86, 87, 88, 89, 90, 91, 92, 93, 94, 95, 96, 97, 98, 99, 100, 101, 102, 103, 104, 105, 106, 107, 108, 109, 110, 111, 112, 113, 114, 115, 116, 117, 118, 119, 120, 121, 122, 123, 124, 125, 126, 127, 128, 129, 130, 131, 132, 133, 134, 135, 136, 137, 138, 139, 140, 141, 142, 143, 144, 145, 146, 147] rfl (by decide +kernel)
set_option maxRecDepth 20000 in
theorem gX12_fits_X12_isPlace : GoodIn wsX12_fits (wsV RX12 498 RX12 yX12_isPlace wsX12_isPlace) := goodIn_app (goodIn_of _ (by decide +kernel)) ggX12_fits_X12_isPlace
set_option maxRecDepth 20000 in
theorem ggX12_holds_X12_isPlace : GoodIn wsX12_holds wsX12_isPlace := goodIn_r _ [6, 7, 8, 9, 10, 5, 11, 65, 66, 67, 68, 69, 70, 71, 72, 73, 74, 75, 76, 77, 78, 79, 80, 81, 82, 83, 84, 85, 86, 87, 88, 89, 90, 91, 92, 93, 94, 95, 96, 97, 98, 99, 100, 101, 102, 103, 104, 105, 106, 107, 108, 109, 110, 111, 112, 113, 114, 115, 116, 117, 118, 119, 120, 121, 122, 123, 124, 125, 126, 127, 128, 129, 130, 131, 132, 133, 134, 135, 136, 137, 138, 139, 140, 141, 142, 143, 144, 145, 146, 147, 148, 149, 150, 151, 152, 153, 154, 155, 156, 157, 158, 159, 160, 161, 162] rfl (by decide +kernel)
set_option maxRecDepth 20000 in
theorem gX12_holds_X12_isPlace : GoodIn wsX12_holds (wsV RX12 498 RX12 yX12_isPlace wsX12_isPlace) := goodIn_app (goodIn_of _ (by decide +kernel)) ggX12_holds_X12_isPlace
set_option maxRecDepth 20000 in
theorem ggX12_taken_X12_isRow : GoodIn wsX12_taken wsX12_isRow := goodIn_r _ [6, 7, 8, 9, 10, 5, 11, 68, 69, 70, 71, 72, 73, 74, 75, 76, 77, 78, 79, 80, 81, 82, 83, 84, 85, 86, 87, 88, 89, 90, 91, 92, 93, 94, 95, 96, 97, 98, 99, 100, 101, 102, 103, 104, 105, 106, 107, 108, 109, 110, 111, 112, 113, 114, 115, 116, 117, 118, 119, 120, 121, 122, 123, 124, 125, 126, 127, 128, 129, 130, 131, 132, 133, 134, 135, 136, 137, 138, 139, 140, 141, 142, 143, 144, 145, 146, 147, 148, 149, 150, 151, 152, 153, 154, 155, 156, 157, 158, 159, 160, 161, 162, 163, 164, 165] rfl (by decide +kernel)
set_option maxRecDepth 20000 in
theorem gX12_taken_X12_isRow : GoodIn wsX12_taken (wsV RX12 516 RX12 yX12_isRow wsX12_isRow) := goodIn_app (goodIn_of _ (by decide +kernel)) ggX12_taken_X12_isRow
set_option maxRecDepth 20000 in
theorem ggX12_row_X12_blame : GoodIn wsX12_row wsX12_blame := goodIn_r _ [17, 4, 5, 116, 117, 118, 119, 120, 121, 122, 123, 124, 125, 126, 127, 128, 129, 130, 131, 132, 133, 134, 135, 136, 137, 138, 139, 140, 141, 142, 143, 144, 145, 146, 147, 148, 149, 150, 151, 152, 153, 154, 155, 156, 157, 158, 159, 160, 161, 162, 163, 164, 165, 166, 167, 168, 169, 170, 171, 172, 173, 174, 175, 176, 177, 178, 179, 180, 181, 182, 183, 184, 185, 186, 187, 188, 189, 190, 191, 192, 193, 194, 195, 196, 197, 198, 199, 200, 201, 202, 203, 204, 205, 206, 207, 208, 209, 210, 211, 212, 213] rfl (by decide +kernel)
set_option maxRecDepth 20000 in
theorem gX12_row_X12_blame : GoodIn wsX12_row (wsV RX12 320 RX12 yX12_blame wsX12_blame) := goodIn_app (goodIn_of _ (by decide +kernel)) ggX12_row_X12_blame
set_option maxRecDepth 20000 in
theorem ggX12_row_X12_columns : GoodIn wsX12_row wsX12_columns := goodIn_r _ [35, 36, 8, 116, 117, 118, 119, 120, 121, 122, 123, 124, 125, 126, 127, 128, 129, 130, 131, 132, 133, 134, 135, 136, 137, 138, 139, 140, 141, 142, 143, 144, 145, 146, 147, 148, 149, 150, 151, 152, 153, 154, 155, 156, 157, 158, 159, 160, 161, 162, 163, 164, 165, 166, 167, 168, 169, 170, 171, 172, 173, 174, 175, 176, 177, 178, 179, 180, 181, 182, 183, 184, 185, 186, 187, 188, 189, 190, 191, 192, 193, 194, 195, 196, 197, 198, 199, 200, 201, 202, 203, 204, 205, 206, 207, 208, 209, 210, 211, 212, 213] rfl (by decide +kernel)
set_option maxRecDepth 20000 in
theorem gX12_row_X12_columns : GoodIn wsX12_row (wsV RX12 459 RX12 yX12_columns wsX12_columns) := goodIn_app (goodIn_of _ (by decide +kernel)) ggX12_row_X12_columns
set_option maxRecDepth 20000 in
theorem ggX12_row_X12_refuses : GoodIn wsX12_row wsX12_refuses := goodIn_r _ [114, 115, 116, 117, 118, 119, 120, 121, 122, 123, 124, 125, 126, 127, 128, 129, 130, 131, 132, 133, 134, 135, 136, 137, 138, 139, 140, 141, 142, 143, 144, 145, 146, 147, 148, 149, 150, 151, 152, 153, 154, 155, 156, 157, 158, 159, 160, 161, 162, 163, 164, 165, 166, 167, 168, 169, 170, 171, 172, 173, 174, 175, 176, 177, 178, 179, 180, 181, 182, 183, 184, 185, 186, 187, 188, 189, 190, 191, 192, 193, 194, 195, 196, 197, 198, 199, 200, 201, 202, 203, 204, 205, 206, 207, 208, 209, 210, 211, 212, 213] rfl (by decide +kernel)
set_option maxRecDepth 20000 in
theorem gX12_row_X12_refuses : GoodIn wsX12_row (wsV RX12 312 RX12 yX12_refuses wsX12_refuses) := goodIn_app (goodIn_of _ (by decide +kernel)) ggX12_row_X12_refuses
set_option maxRecDepth 20000 in
theorem ggX12_text_X12_isRow : GoodIn wsX12_text wsX12_isRow := goodIn_r _ [12, 13, 14, 15, 16, 11, 17, 72, 73, 74, 75, 76, 77, 78, 79, 80, 81, 82, 83, 84, 85, 86, 87, 88, 89, 90, 91, 92, 93, 94, 95, 96, 97, 98, 99, 100, 101, 102, 103, 104, 105, 106, 107, 108, 109, 110, 111, 112, 113, 114, 115, 116, 117, 118, 119, 120, 121, 122, 123, 124, 125, 126, 127, 128, 129, 130, 131, 132, 133, 134, 135, 136, 137, 138, 139, 140, 141, 142, 143, 144, 145, 146, 147, 148, 149, 150, 151, 152, 153, 154, 155, 156, 157, 158, 159, 160, 161, 162, 163, 164, 165, 166, 167, 168, 169] rfl (by decide +kernel)
set_option maxRecDepth 20000 in
theorem gX12_text_X12_isRow : GoodIn wsX12_text (wsV RX12 516 RX12 yX12_isRow wsX12_isRow) := goodIn_app (goodIn_of _ (by decide +kernel)) ggX12_text_X12_isRow
set_option maxRecDepth 20000 in
theorem ggX12_octet_X12_is : GoodIn wsX12_octet wsX12_is := goodIn_r _ [6] rfl (by decide +kernel)
set_option maxRecDepth 20000 in
theorem gX12_octet_X12_is : GoodIn wsX12_octet (va_wsS RX12 362 yX12_is wsX12_is) := goodIn_app (goodIn_of _ (by decide +kernel)) ggX12_octet_X12_is
set_option maxRecDepth 20000 in
theorem ggX12_safe_X12_isPlace : GoodIn wsX12_safe wsX12_isPlace := goodIn_r _ [5, 6, 7, 8, 9, 4, 10, 82, 83, 84, 85, 86, 87, 88, 89, 90, 91, 92, 93, 94, 95, 96, 97, 98, 99, 100, 101, 102, 103, 104, 105, 106, 107, 108, 109, 110, 111, 112, 113, 114, 115, 116, 117, 118, 119, 120, 121, 122, 123, 124, 125, 126, 127, 128, 129, 130, 131, 132, 133, 134, 135, 136, 137, 138, 139, 140, 141, 142, 143, 144, 145, 146, 147, 148, 149, 150, 151, 152, 153, 154, 155, 156, 157, 158, 159, 160, 161, 162, 163, 164, 165, 166, 167, 168, 169, 170, 171, 172, 173, 174, 175, 176, 177, 178, 179] rfl (by decide +kernel)
set_option maxRecDepth 20000 in
theorem gX12_safe_X12_isPlace : GoodIn wsX12_safe (wsV RX12 498 RX12 yX12_isPlace wsX12_isPlace) := goodIn_app (goodIn_of _ (by decide +kernel)) ggX12_safe_X12_isPlace
set_option maxRecDepth 20000 in
theorem ggX12_see_X12_refuses : GoodIn wsX12_see wsX12_refuses := goodIn_r _ [13, 14, 15, 16, 17, 18, 19, 20, 21, 22, 23, 24, 25, 26, 27, 28, 29, 30, 31, 32, 33, 34, 35, 36, 37, 38, 39, 40, 41, 42, 43, 44, 45, 46, 47, 48, 49, 50, 51, 52, 53, 54, 55, 56, 57, 58, 59, 60, 61, 62, 63, 64, 65, 66, 67, 68, 69, 70, 71, 72, 73, 74, 75, 76, 77, 78, 79, 80, 81, 82, 83, 84, 85, 86, 87, 88, 89, 90, 91, 92, 93, 94, 95, 96, 97, 98, 99, 100, 101, 102, 103, 104, 105, 106, 107, 108, 109, 110, 111, 112] rfl (by decide +kernel)
set_option maxRecDepth 20000 in
theorem gX12_see_X12_refuses : GoodIn wsX12_see (wsV RX12 312 RX12 yX12_refuses wsX12_refuses) := goodIn_app (goodIn_of _ (by decide +kernel)) ggX12_see_X12_refuses
set_option maxRecDepth 20000 in
theorem ggX12_run_X12_isRow : GoodIn wsX12_run wsX12_isRow := goodIn_r _ [5, 6, 7, 8, 9, 4, 10, 137, 138, 139, 140, 141, 142, 143, 144, 145, 146, 147, 148, 149, 150, 151, 152, 153, 154, 155, 156, 157, 158, 159, 160, 161, 162, 163, 164, 165, 166, 167, 168, 169, 170, 171, 172, 173, 174, 175, 176, 177, 178, 179, 180, 181, 182, 183, 184, 185, 186, 187, 188, 189, 190, 191, 192, 193, 194, 195, 196, 197, 198, 199, 200, 201, 202, 203, 204, 205, 206, 207, 208, 209, 210, 211, 212, 213, 214, 215, 216, 217, 218, 219, 220, 221, 222, 223, 224, 225, 226, 227, 228, 229, 230, 231, 232, 233, 234] rfl (by decide +kernel)
set_option maxRecDepth 20000 in
theorem gX12_run_X12_isRow : GoodIn wsX12_run (wsV RX12 516 RX12 yX12_isRow wsX12_isRow) := goodIn_app (goodIn_of _ (by decide +kernel)) ggX12_run_X12_isRow
set_option maxRecDepth 20000 in
theorem ggX12_run_X12_refuses : GoodIn wsX12_run wsX12_refuses := goodIn_r _ [14, 15, 137, 138, 139, 140, 141, 142, 143, 144, 145, 146, 147, 148, 149, 150, 151, 152, 153, 154, 155, 156, 157, 158, 159, 160, 161, 162, 163, 164, 165, 166, 167, 168, 169, 170, 171, 172, 173, 174, 175, 176, 177, 178, 179, 180, 181, 182, 183, 184, 185, 186, 187, 188, 189, 190, 191, 192, 193, 194, 195, 196, 197, 198, 199, 200, 201, 202, 203, 204, 205, 206, 207, 208, 209, 210, 211, 212, 213, 214, 215, 216, 217, 218, 219, 220, 221, 222, 223, 224, 225, 226, 227, 228, 229, 230, 231, 232, 233, 234] rfl (by decide +kernel)
set_option maxRecDepth 20000 in
theorem gX12_run_X12_refuses : GoodIn wsX12_run (wsV RX12 312 RX12 yX12_refuses wsX12_refuses) := goodIn_app (goodIn_of _ (by decide +kernel)) ggX12_run_X12_refuses
set_option maxRecDepth 20000 in
theorem ggX12_chance_X12_refuses : GoodIn wsX12_chance wsX12_refuses := goodIn_r _ [10, 11, 142, 143, 144, 145, 146, 147, 148, 149, 150, 151, 152, 153, 154, 155, 156, 157, 158, 159, 160, 161, 162, 163, 164, 165, 166, 167, 168, 169, 170, 171, 172, 173, 174, 175, 176, 177, 178, 179, 180, 181, 182, 183, 184, 185, 186, 187, 188, 189, 190, 191, 192, 193, 194, 195, 196, 197, 198, 199, 200, 201, 202, 203, 204, 205, 206, 207, 208, 209, 210, 211, 212, 213, 214, 215, 216, 217, 218, 219, 220, 221, 222, 223, 224, 225, 226, 227, 228, 229, 230, 231, 232, 233, 234, 235, 236, 237, 238, 239] rfl (by decide +kernel)
set_option maxRecDepth 20000 in
theorem gX12_chance_X12_refuses : GoodIn wsX12_chance (wsV RX12 312 RX12 yX12_refuses wsX12_refuses) := goodIn_app (goodIn_of _ (by decide +kernel)) ggX12_chance_X12_refuses
set_option maxRecDepth 20000 in
theorem ggX12_swap_X12_isPlace : GoodIn wsX12_swap wsX12_isPlace := goodIn_r _ [5, 6, 7, 8, 9, 4, 10, 39, 40, 41, 42, 43, 44, 45, 46, 47, 48, 49, 50, 51, 52, 53, 54, 55, 56, 57, 58, 59, 60, 61, 62, 63, 64, 65, 66, 67, 68, 69, 70, 71, 72, 73, 74, 75, 76, 77, 78, 79, 80, 81, 82, 83, 84, 85, 86, 87, 88, 89, 90, 91, 92, 93, 94, 95, 96, 97, 98, 99, 100, 101, 102, 103, 104, 105, 106, 107, 108, 109, 110, 111, 112, 113, 114, 115, 116, 117, 118, 119, 120, 121, 122, 123, 124, 125, 126, 127, 128, 129, 130, 131, 132, 133, 134, 135, 136] rfl (by decide +kernel)
set_option maxRecDepth 20000 in
theorem gX12_swap_X12_isPlace : GoodIn wsX12_swap (wsV RX12 498 RX12 yX12_isPlace wsX12_isPlace) := goodIn_app (goodIn_of _ (by decide +kernel)) ggX12_swap_X12_isPlace
set_option maxRecDepth 20000 in
theorem ggX12_swap_X12_refuses : GoodIn wsX12_swap wsX12_refuses := goodIn_r _ [14, 15, 39, 40, 41, 42, 43, 44, 45, 46, 47, 48, 49, 50, 51, 52, 53, 54, 55, 56, 57, 58, 59, 60, 61, 62, 63, 64, 65, 66, 67, 68, 69, 70, 71, 72, 73, 74, 75, 76, 77, 78, 79, 80, 81, 82, 83, 84, 85, 86, 87, 88, 89, 90, 91, 92, 93, 94, 95, 96, 97, 98, 99, 100, 101, 102, 103, 104, 105, 106, 107, 108, 109, 110, 111, 112, 113, 114, 115, 116, 117, 118, 119, 120, 121, 122, 123, 124, 125, 126, 127, 128, 129, 130, 131, 132, 133, 134, 135, 136] rfl (by decide +kernel)
set_option maxRecDepth 20000 in
theorem gX12_swap_X12_refuses : GoodIn wsX12_swap (wsV RX12 312 RX12 yX12_refuses wsX12_refuses) := goodIn_app (goodIn_of _ (by decide +kernel)) ggX12_swap_X12_refuses
set_option maxRecDepth 20000 in
theorem ggX12_drop_X12_isPlace : GoodIn wsX12_drop wsX12_isPlace := goodIn_r _ [7, 8, 1, 9, 10, 6, 11, 35, 36, 37, 38, 39, 40, 41, 42, 43, 44, 45, 46, 47, 48, 49, 50, 51, 52, 53, 54, 55, 56, 57, 58, 59, 60, 61, 62, 63, 64, 65, 66, 67, 68, 69, 70, 71, 72, 73, 74, 75, 76, 77, 78, 79, 80, 81, 82, 83, 84, 85, 86, 87, 88, 89, 90, 91, 92, 93, 94, 95, 96, 97, 98, 99, 100, 101, 102, 103, 104, 105, 106, 107, 108, 109, 110, 111, 112, 113, 114, 115, 116, 117, 118, 119, 120, 121, 122, 123, 124, 125, 126, 127, 128, 129, 130, 131, 132] rfl (by decide +kernel)
set_option maxRecDepth 20000 in
theorem gX12_drop_X12_isPlace : GoodIn wsX12_drop (wsV RX12 498 RX12 yX12_isPlace wsX12_isPlace) := goodIn_app (goodIn_of _ (by decide +kernel)) ggX12_drop_X12_isPlace
set_option maxRecDepth 20000 in
theorem ggX12_drop_X12_refuses : GoodIn wsX12_drop wsX12_refuses := goodIn_r _ [15, 16, 35, 36, 37, 38, 39, 40, 41, 42, 43, 44, 45, 46, 47, 48, 49, 50, 51, 52, 53, 54, 55, 56, 57, 58, 59, 60, 61, 62, 63, 64, 65, 66, 67, 68, 69, 70, 71, 72, 73, 74, 75, 76, 77, 78, 79, 80, 81, 82, 83, 84, 85, 86, 87, 88, 89, 90, 91, 92, 93, 94, 95, 96, 97, 98, 99, 100, 101, 102, 103, 104, 105, 106, 107, 108, 109, 110, 111, 112, 113, 114, 115, 116, 117, 118, 119, 120, 121, 122, 123, 124, 125, 126, 127, 128, 129, 130, 131, 132] rfl (by decide +kernel)
set_option maxRecDepth 20000 in
theorem gX12_drop_X12_refuses : GoodIn wsX12_drop (wsV RX12 312 RX12 yX12_refuses wsX12_refuses) := goodIn_app (goodIn_of _ (by decide +kernel)) ggX12_drop_X12_refuses
set_option maxRecDepth 20000 in
theorem ggX12_turn_X12_refuses : GoodIn wsX12_turn wsX12_refuses := goodIn_r _ [10, 11, 31, 32, 33, 34, 35, 36, 37, 38, 39, 40, 41, 42, 43, 44, 45, 46, 47, 48, 49, 50, 51, 52, 53, 54, 55, 56, 57, 58, 59, 60, 61, 62, 63, 64, 65, 66, 67, 68, 69, 70, 71, 72, 73, 74, 75, 76, 77, 78, 79, 80, 81, 82, 83, 84, 85, 86, 87, 88, 89, 90, 91, 92, 93, 94, 95, 96, 97, 98, 99, 100, 101, 102, 103, 104, 105, 106, 107, 108, 109, 110, 111, 112, 113, 114, 115, 116, 117, 118, 119, 120, 121, 122, 123, 124, 125, 126, 127, 128] rfl (by decide +kernel)
set_option maxRecDepth 20000 in
theorem gX12_turn_X12_refuses : GoodIn wsX12_turn (wsV RX12 312 RX12 yX12_refuses wsX12_refuses) := goodIn_app (goodIn_of _ (by decide +kernel)) ggX12_turn_X12_refuses
set_option maxRecDepth 20000 in
theorem ggX12_choose_X12_refuses : GoodIn wsX12_choose wsX12_refuses := goodIn_r _ [10, 11, 31, 32, 33, 34, 35, 36, 37, 38, 39, 40, 41, 42, 43, 44, 45, 46, 47, 48, 49, 50, 51, 52, 53, 54, 55, 56, 57, 58, 59, 60, 61, 62, 63, 64, 65, 66, 67, 68, 69, 70, 71, 72, 73, 74, 75, 76, 77, 78, 79, 80, 81, 82, 83, 84, 85, 86, 87, 88, 89, 90, 91, 92, 93, 94, 95, 96, 97, 98, 99, 100, 101, 102, 103, 104, 105, 106, 107, 108, 109, 110, 111, 112, 113, 114, 115, 116, 117, 118, 119, 120, 121, 122, 123, 124, 125, 126, 127, 128] rfl (by decide +kernel)
set_option maxRecDepth 20000 in
theorem gX12_choose_X12_refuses : GoodIn wsX12_choose (wsV RX12 312 RX12 yX12_refuses wsX12_refuses) := goodIn_app (goodIn_of _ (by decide +kernel)) ggX12_choose_X12_refuses
set_option maxRecDepth 20000 in
theorem ggX12_seed_X12_refuses : GoodIn wsX12_seed wsX12_refuses := goodIn_r _ [6, 7, 8, 9, 10, 11, 12, 13, 14, 15, 16, 17, 18, 19, 20, 21, 22, 23, 24, 25, 26, 27, 28, 29, 30, 31, 32, 33, 34, 35, 36, 37, 38, 39, 40, 41, 42, 43, 44, 45, 46, 47, 48, 49, 50, 51, 52, 53, 54, 55, 56, 57, 58, 59, 60, 61, 62, 63, 64, 65, 66, 67, 68, 69, 70, 71, 72, 73, 74, 75, 76, 77, 78, 79, 80, 81, 82, 83, 84, 85, 86, 87, 88, 89, 90, 91, 92, 93, 94, 95, 96, 97, 98, 99, 100, 101, 102, 103, 104, 105] rfl (by decide +kernel)
set_option maxRecDepth 20000 in
theorem gX12_seed_X12_refuses : GoodIn wsX12_seed (wsV RX12 312 RX12 yX12_refuses wsX12_refuses) := goodIn_app (goodIn_of _ (by decide +kernel)) ggX12_seed_X12_refuses
set_option maxRecDepth 20000 in
theorem ggX12_kept_X12_is : GoodIn wsX12_kept wsX12_is := goodIn_r _ [6] rfl (by decide +kernel)
set_option maxRecDepth 20000 in
theorem gX12_kept_X12_is : GoodIn wsX12_kept (va_wsS RX12 362 yX12_is wsX12_is) := goodIn_app (goodIn_of _ (by decide +kernel)) ggX12_kept_X12_is
set_option maxRecDepth 20000 in
theorem ggX12_image_X12_writes : GoodIn wsX12_image wsX12_writes := goodIn_r _ [11, 6, 1, 12, 13, 14, 15, 16, 17, 18, 19, 20, 21, 22, 23, 24, 25, 26, 27, 28, 29, 30, 31, 32, 33, 34, 35, 36, 37, 38, 39, 40, 41, 42, 43, 44, 45, 46, 47, 48, 49, 50, 51, 52, 53, 54, 55, 56, 57, 58, 59, 60, 61, 62, 63, 64, 65, 66, 67, 68, 69, 70, 71, 72, 73, 74, 75, 76, 77, 78, 79, 80, 81, 82, 83, 84, 85, 86, 87, 88, 89, 90, 91, 92, 93, 94, 95, 96, 97, 98, 99, 100, 101, 102, 103, 104, 105, 106, 107, 108, 109] rfl (by decide +kernel)
set_option maxRecDepth 20000 in
theorem gX12_image_X12_writes : GoodIn wsX12_image (wsV RX12 528 RX12 yX12_writes wsX12_writes) := goodIn_app (goodIn_of _ (by decide +kernel)) ggX12_image_X12_writes
set_option maxRecDepth 20000 in
theorem ggX12_on_X12_comesOn : GoodIn wsX12_on wsX12_comesOn := goodIn_r _ [7, 8, 9, 10, 11, 12, 13, 14, 15, 16, 17, 18, 19, 6, 20, 21, 27, 28, 29, 30, 31, 32, 33, 34, 35, 36, 37, 38, 39, 40, 41, 42, 43, 44, 45, 46, 47, 48, 49, 50, 51, 52, 53, 54, 55, 56, 57, 58, 59, 60, 61, 62, 63, 64, 65, 66, 67, 68, 69, 70, 71, 72, 73, 74, 75, 76, 77, 78, 79, 80, 81, 82, 83, 84, 85, 86, 87, 88, 89, 90, 91, 92, 93, 94, 95, 96, 97, 98, 99, 100, 101, 102, 103, 104, 105, 106, 107, 108, 109, 110, 111, 112, 113, 114, 115, 116, 117, 118, 119, 120, 121, 122, 123, 124] rfl (by decide +kernel)
set_option maxRecDepth 20000 in
theorem gX12_on_X12_comesOn : GoodIn wsX12_on (wsV RX12 645 RX12 yX12_comesOn wsX12_comesOn) := goodIn_app (goodIn_of _ (by decide +kernel)) ggX12_on_X12_comesOn
set_option maxRecDepth 20000 in
theorem ggX12_on_X12_refuses : GoodIn wsX12_on wsX12_refuses := goodIn_r _ [25, 26, 27, 28, 29, 30, 31, 32, 33, 34, 35, 36, 37, 38, 39, 40, 41, 42, 43, 44, 45, 46, 47, 48, 49, 50, 51, 52, 53, 54, 55, 56, 57, 58, 59, 60, 61, 62, 63, 64, 65, 66, 67, 68, 69, 70, 71, 72, 73, 74, 75, 76, 77, 78, 79, 80, 81, 82, 83, 84, 85, 86, 87, 88, 89, 90, 91, 92, 93, 94, 95, 96, 97, 98, 99, 100, 101, 102, 103, 104, 105, 106, 107, 108, 109, 110, 111, 112, 113, 114, 115, 116, 117, 118, 119, 120, 121, 122, 123, 124] rfl (by decide +kernel)
set_option maxRecDepth 20000 in
theorem gX12_on_X12_refuses : GoodIn wsX12_on (wsV RX12 312 RX12 yX12_refuses wsX12_refuses) := goodIn_app (goodIn_of _ (by decide +kernel)) ggX12_on_X12_refuses
set_option maxRecDepth 20000 in
theorem ggJ0_length_8abf5_J0_coder_7d493 : GoodIn wsJ0_length_8abf5 wsJ0_coder_7d493 := goodIn_r _ [6, 7, 8] rfl (by decide +kernel)
set_option maxRecDepth 20000 in
theorem gJ0_length_8abf5_J0_coder_7d493 : GoodIn wsJ0_length_8abf5 (wsV RJ0 335 RJ0 yJ0_coder_7d493 wsJ0_coder_7d493) := goodIn_app (goodIn_of _ (by decide +kernel)) ggJ0_length_8abf5_J0_coder_7d493
set_option maxRecDepth 20000 in
theorem ggJ0_charAt_5068e_J0_isLatin1_aae02 : GoodIn wsJ0_charAt_5068e wsJ0_isLatin1_aae02 := goodIn_r _ [6, 7, 8] rfl (by decide +kernel)
set_option maxRecDepth 20000 in
theorem gJ0_charAt_5068e_J0_isLatin1_aae02 : GoodIn wsJ0_charAt_5068e (wsV RJ0 492 RJ0 yJ0_isLatin1_aae02 wsJ0_isLatin1_aae02) := goodIn_app (goodIn_of _ (by decide +kernel)) ggJ0_charAt_5068e_J0_isLatin1_aae02
set_option maxRecDepth 20000 in
theorem ggJ0_charAt_5068e_J1_charAt_3b067 : GoodIn wsJ0_charAt_5068e wsJ1_charAt_3b067 := goodIn_r _ [12, 13, 14, 5, 15, 16, 17, 18, 19, 20] rfl (by decide +kernel)
set_option maxRecDepth 20000 in
theorem gJ0_charAt_5068e_J1_charAt_3b067 : GoodIn wsJ0_charAt_5068e (va_wsS RJ0 495 yJ1_charAt_3b067 wsJ1_charAt_3b067) := goodIn_app (goodIn_of _ (by decide +kernel)) ggJ0_charAt_5068e_J1_charAt_3b067
set_option maxRecDepth 20000 in
theorem ggJ0_checkIndex_df160_J3_checkIndex_8e157 : GoodIn wsJ0_checkIndex_df160 wsJ3_checkIndex_8e157 := goodIn_r _ [5] rfl (by decide +kernel)
set_option maxRecDepth 20000 in
theorem gJ0_checkIndex_df160_J3_checkIndex_8e157 : GoodIn wsJ0_checkIndex_df160 (va_wsS RJ0 1059 yJ3_checkIndex_8e157 wsJ3_checkIndex_8e157) := goodIn_app (goodIn_of _ (by decide +kernel)) ggJ0_checkIndex_df160_J3_checkIndex_8e157
set_option maxRecDepth 20000 in
theorem ggJ1_charAt_3b067_J0_checkIndex_df160 : GoodIn wsJ1_charAt_3b067 wsJ0_checkIndex_df160 := goodIn_r _ [4, 5, 6, 7, 8, 9] rfl (by decide +kernel)
set_option maxRecDepth 20000 in
theorem gJ1_charAt_3b067_J0_checkIndex_df160 : GoodIn wsJ1_charAt_3b067 (va_wsS RJ1 9 yJ0_checkIndex_df160 wsJ0_checkIndex_df160) := goodIn_app (goodIn_of _ (by decide +kernel)) ggJ1_charAt_3b067_J0_checkIndex_df160
