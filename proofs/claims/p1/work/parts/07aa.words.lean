/-! The words of the law's callees stand among the tables' words. -/
theorem goodIn_q {big ws : List Cond} (hc : ∀ w ∈ ws.filter k2_isCode, w ∈ big) (ps : List Nat) (hp : ws.filter (fun w => !k2_isCode w) = ps.filterMap (fun i => big[i]?)) (hg : ws.all goodWord = true) : GoodIn big ws := by
  intro w hw
  refine ⟨?_, good_of_word (List.all_eq_true.mp hg w hw)⟩
  by_cases h : k2_isCode w = true
  · exact hc w (List.mem_filter.mpr ⟨hw, h⟩)
  · have h2 : w ∈ ws.filter (fun w => !k2_isCode w) := List.mem_filter.mpr ⟨hw, by simp [h]⟩
    rw [hp] at h2
    obtain ⟨i, -, hi⟩ := List.mem_filterMap.mp h2
    first | exact List.mem_of_getElem? hi | exact List.getElem?_mem hi
theorem tb_in : ∀ w ∈ tables_1, w ∈ lw_tbl := fun w h => List.mem_append_right _ h
theorem sub_tables_1_1 : ∀ w ∈ tables_1_1, w ∈ lw_tbl := fun w h => tb_in w (List.mem_append_left _ h)
theorem sub_tables_1_2 : ∀ w ∈ tables_1_2, w ∈ lw_tbl := fun w h => tb_in w (List.mem_append_right _ (List.mem_append_left _ h))
theorem sub_tables_1_3 : ∀ w ∈ tables_1_3, w ∈ lw_tbl := fun w h => tb_in w (List.mem_append_right _ (List.mem_append_right _ (List.mem_append_left _ h)))
theorem sub_tables_1_4 : ∀ w ∈ tables_1_4, w ∈ lw_tbl := fun w h => tb_in w (List.mem_append_right _ (List.mem_append_right _ (List.mem_append_right _ (List.mem_append_left _ h))))
theorem sub_tables_1_5 : ∀ w ∈ tables_1_5, w ∈ lw_tbl := fun w h => tb_in w (List.mem_append_right _ (List.mem_append_right _ (List.mem_append_right _ (List.mem_append_right _ (List.mem_append_left _ h)))))
theorem sub_tables_1_6 : ∀ w ∈ tables_1_6, w ∈ lw_tbl := fun w h => tb_in w (List.mem_append_right _ (List.mem_append_right _ (List.mem_append_right _ (List.mem_append_right _ (List.mem_append_right _ (List.mem_append_left _ h))))))
theorem sub_tables_1_7 : ∀ w ∈ tables_1_7, w ∈ lw_tbl := fun w h => tb_in w (List.mem_append_right _ (List.mem_append_right _ (List.mem_append_right _ (List.mem_append_right _ (List.mem_append_right _ (List.mem_append_right _ (List.mem_append_left _ h)))))))
theorem sub_tables_1_8 : ∀ w ∈ tables_1_8, w ∈ lw_tbl := fun w h => tb_in w (List.mem_append_right _ (List.mem_append_right _ (List.mem_append_right _ (List.mem_append_right _ (List.mem_append_right _ (List.mem_append_right _ (List.mem_append_right _ (List.mem_append_left _ h))))))))
theorem sub_tables_1_9 : ∀ w ∈ tables_1_9, w ∈ lw_tbl := fun w h => tb_in w (List.mem_append_right _ (List.mem_append_right _ (List.mem_append_right _ (List.mem_append_right _ (List.mem_append_right _ (List.mem_append_right _ (List.mem_append_right _ (List.mem_append_right _ h))))))))
set_option maxRecDepth 20000 in
theorem mc_0 : Cond.code yX11_init cX11_init 1 none ∈ lw_tbl := sub_tables_1_1 _ (List.mem_of_getElem? (i := 24) rfl)
set_option maxRecDepth 20000 in
theorem mc_1 : Cond.code objectInit ⟨#[0xb1]⟩ 1 none ∈ lw_tbl := sub_tables_1_1 _ (List.mem_of_getElem? (i := 27) rfl)
set_option maxRecDepth 20000 in
theorem mc_2 : Cond.code yX1_init cX1_init 2 none ∈ lw_tbl := sub_tables_1_1 _ (List.mem_of_getElem? (i := 32) rfl)
set_option maxRecDepth 20000 in
theorem mc_3 : Cond.code yJ9_max_7cf53 cJ9_max_7cf53 2 (some .int) ∈ lw_tbl := sub_tables_1_1 _ (List.mem_of_getElem? (i := 36) rfl)
set_option maxRecDepth 20000 in
theorem mc_4 : Cond.code yX4_init cX4_init 1 none ∈ lw_tbl := sub_tables_1_1 _ (List.mem_of_getElem? (i := 53) rfl)
set_option maxRecDepth 20000 in
theorem mc_5 : Cond.code yX2_init cX2_init 3 none ∈ lw_tbl := sub_tables_1_1 _ (List.mem_of_getElem? (i := 70) rfl)
set_option maxRecDepth 20000 in
theorem mc_6 : Cond.code yX5_init cX5_init 1 none ∈ lw_tbl := sub_tables_1_1 _ (List.mem_of_getElem? (i := 96) rfl)
set_option maxRecDepth 20000 in
theorem mc_7 : Cond.code yX0_init cX0_init 2 none ∈ lw_tbl := sub_tables_1_1 _ (List.mem_of_getElem? (i := 123) rfl)
set_option maxRecDepth 20000 in
theorem mc_8 : Cond.code yX8_init cX8_init 1 none ∈ lw_tbl := sub_tables_1_1 _ (List.mem_of_getElem? (i := 158) rfl)
set_option maxRecDepth 20000 in
theorem mc_9 : Cond.code yX9_init cX9_init 1 none ∈ lw_tbl := sub_tables_1_1 _ (List.mem_of_getElem? (i := 186) rfl)
set_option maxRecDepth 20000 in
theorem mc_10 : Cond.code yX3_init cX3_init 1 none ∈ lw_tbl := sub_tables_1_1 _ (List.mem_of_getElem? (i := 192) rfl)
set_option maxRecDepth 20000 in
theorem mc_11 : Cond.code yX6_init cX6_init 2 none ∈ lw_tbl := sub_tables_1_2 _ (List.mem_of_getElem? (i := 59) rfl)
set_option maxRecDepth 20000 in
theorem mc_12 : Cond.code yX7_init cX7_init 1 none ∈ lw_tbl := sub_tables_1_2 _ (List.mem_of_getElem? (i := 65) rfl)
set_option maxRecDepth 20000 in
theorem mc_13 : Cond.code yX7_spell cX7_spell 3 (some .int) ∈ lw_tbl := sub_tables_1_2 _ (List.mem_of_getElem? (i := 70) rfl)
set_option maxRecDepth 20000 in
theorem mc_14 : Cond.code yJ0_length_8abf5 cJ0_length_8abf5 1 (some .int) ∈ lw_tbl := sub_tables_1_2 _ (List.mem_of_getElem? (i := 74) rfl)
set_option maxRecDepth 20000 in
theorem mc_15 : Cond.code yJ0_coder_7d493 cJ0_coder_7d493 1 (some .byte) ∈ lw_tbl := sub_tables_1_2 _ (List.mem_of_getElem? (i := 78) rfl)
set_option maxRecDepth 20000 in
theorem mc_16 : Cond.code yJ0_charAt_5068e cJ0_charAt_5068e 2 (some .char) ∈ lw_tbl := sub_tables_1_2 _ (List.mem_of_getElem? (i := 84) rfl)
set_option maxRecDepth 20000 in
theorem mc_17 : Cond.code yJ0_isLatin1_aae02 cJ0_isLatin1_aae02 1 (some .boolean) ∈ lw_tbl := sub_tables_1_2 _ (List.mem_of_getElem? (i := 88) rfl)
set_option maxRecDepth 20000 in
theorem mc_18 : Cond.code yJ1_charAt_3b067 cJ1_charAt_3b067 2 (some .char) ∈ lw_tbl := sub_tables_1_2 _ (List.mem_of_getElem? (i := 91) rfl)
set_option maxRecDepth 20000 in
theorem mc_19 : Cond.code yJ0_checkIndex_df160 cJ0_checkIndex_df160 2 none ∈ lw_tbl := sub_tables_1_2 _ (List.mem_of_getElem? (i := 94) rfl)
set_option maxRecDepth 20000 in
theorem mc_20 : Cond.code yJ3_checkIndex_8e157 cJ3_checkIndex_8e157 3 (some .int) ∈ lw_tbl := sub_tables_1_2 _ (List.mem_of_getElem? (i := 99) rfl)
set_option maxRecDepth 20000 in
theorem mc_21 : Cond.code yJ2_charAt_3b067 cJ2_charAt_3b067 2 (some .char) ∈ lw_tbl := sub_tables_1_2 _ (List.mem_of_getElem? (i := 102) rfl)
set_option maxRecDepth 20000 in
theorem mc_22 : Cond.code yJ2_checkIndex_2214a cJ2_checkIndex_2214a 2 none ∈ lw_tbl := sub_tables_1_2 _ (List.mem_of_getElem? (i := 105) rfl)
set_option maxRecDepth 20000 in
theorem mc_23 : Cond.code yJ2_length_9d52b cJ2_length_9d52b 1 (some .int) ∈ lw_tbl := sub_tables_1_2 _ (List.mem_of_getElem? (i := 108) rfl)
set_option maxRecDepth 20000 in
theorem mc_24 : Cond.code yJ2_getChar_3b067 cJ2_getChar_3b067 2 (some .char) ∈ lw_tbl := sub_tables_1_2 _ (List.mem_of_getElem? (i := 112) rfl)
set_option maxRecDepth 20000 in
theorem mc_25 : Cond.code yX10_init cX10_init 5 none ∈ lw_tbl := sub_tables_1_2 _ (List.mem_of_getElem? (i := 186) rfl)
set_option maxRecDepth 20000 in
theorem mc_26 : Cond.code yX12_init cX12_init 1 none ∈ lw_tbl := sub_tables_1_6 _ (List.mem_of_getElem? (i := 32) rfl)
set_option maxRecDepth 20000 in
theorem mc_27 : Cond.code yX12_begin cX12_begin 2 none ∈ lw_tbl := sub_tables_1_6 _ (List.mem_of_getElem? (i := 38) rfl)
set_option maxRecDepth 20000 in
theorem mc_28 : Cond.code yX11_feed cX11_feed 6 (some .int) ∈ lw_tbl := sub_tables_1_3 _ (List.mem_of_getElem? (i := 53) rfl)
set_option maxRecDepth 20000 in
theorem mc_29 : Cond.code yX11_refuse cX11_refuse 2 (some .boolean) ∈ lw_tbl := sub_tables_1_3 _ (List.mem_of_getElem? (i := 57) rfl)
set_option maxRecDepth 20000 in
theorem mc_30 : Cond.code yX1_addFour cX1_addFour 2 none ∈ lw_tbl := sub_tables_1_3 _ (List.mem_of_getElem? (i := 61) rfl)
set_option maxRecDepth 20000 in
theorem mc_31 : Cond.code yX1_add cX1_add 2 none ∈ lw_tbl := sub_tables_1_3 _ (List.mem_of_getElem? (i := 65) rfl)
set_option maxRecDepth 20000 in
theorem mc_32 : Cond.code yX12_feed cX12_feed 6 (some .int) ∈ lw_tbl := sub_tables_1_7 _ (List.mem_of_getElem? (i := 97) rfl)
set_option maxRecDepth 20000 in
theorem mc_33 : Cond.code yX12_refuses cX12_refuses 2 (some .int) ∈ lw_tbl := sub_tables_1_7 _ (List.mem_of_getElem? (i := 101) rfl)
set_option maxRecDepth 20000 in
theorem mc_34 : Cond.code yX12_put cX12_put 3 none ∈ lw_tbl := sub_tables_1_7 _ (List.mem_of_getElem? (i := 105) rfl)
set_option maxRecDepth 20000 in
theorem mc_35 : Cond.code yX11_end cX11_end 2 (some .boolean) ∈ lw_tbl := sub_tables_1_3 _ (List.mem_of_getElem? (i := 69) rfl)
set_option maxRecDepth 20000 in
theorem mc_36 : Cond.code yX12_end cX12_end 2 (some .boolean) ∈ lw_tbl := sub_tables_1_7 _ (List.mem_of_getElem? (i := 109) rfl)
set_option maxRecDepth 20000 in
theorem mc_37 : Cond.code yX11_match cX11_match 3 (some .int) ∈ lw_tbl := sub_tables_1_3 _ (List.mem_of_getElem? (i := 73) rfl)
set_option maxRecDepth 20000 in
theorem mc_38 : Cond.code yX6_readMatch cX6_readMatch 5 (some .int) ∈ lw_tbl := sub_tables_1_3 _ (List.mem_of_getElem? (i := 77) rfl)
set_option maxRecDepth 20000 in
theorem mc_39 : Cond.code yX9_clear cX9_clear 1 none ∈ lw_tbl := sub_tables_1_3 _ (List.mem_of_getElem? (i := 81) rfl)
set_option maxRecDepth 20000 in
theorem mc_40 : Cond.code yX3_clear cX3_clear 1 none ∈ lw_tbl := sub_tables_1_3 _ (List.mem_of_getElem? (i := 85) rfl)
set_option maxRecDepth 20000 in
theorem mc_41 : Cond.code yX6_begin cX6_begin 2 none ∈ lw_tbl := sub_tables_1_3 _ (List.mem_of_getElem? (i := 89) rfl)
set_option maxRecDepth 20000 in
theorem mc_42 : Cond.code yX7_begin cX7_begin 2 none ∈ lw_tbl := sub_tables_1_3 _ (List.mem_of_getElem? (i := 93) rfl)
set_option maxRecDepth 20000 in
theorem mc_43 : Cond.code yJ9_min_7cf53 cJ9_min_7cf53 2 (some .int) ∈ lw_tbl := sub_tables_1_3 _ (List.mem_of_getElem? (i := 96) rfl)
set_option maxRecDepth 20000 in
theorem mc_44 : Cond.code yX7_step cX7_step 6 none ∈ lw_tbl := sub_tables_1_3 _ (List.mem_of_getElem? (i := 101) rfl)
set_option maxRecDepth 20000 in
theorem mc_45 : Cond.code yX7_stepWord cX7_stepWord 3 none ∈ lw_tbl := sub_tables_1_3 _ (List.mem_of_getElem? (i := 105) rfl)
set_option maxRecDepth 20000 in
theorem mc_46 : Cond.code yX7_stepNumber cX7_stepNumber 2 none ∈ lw_tbl := sub_tables_1_3 _ (List.mem_of_getElem? (i := 109) rfl)
set_option maxRecDepth 20000 in
theorem mc_47 : Cond.code yX6_readKind cX6_readKind 1 (some .boolean) ∈ lw_tbl := sub_tables_1_3 _ (List.mem_of_getElem? (i := 113) rfl)
set_option maxRecDepth 20000 in
theorem mc_48 : Cond.code yX6_failHere cX6_failHere 1 (some .boolean) ∈ lw_tbl := sub_tables_1_3 _ (List.mem_of_getElem? (i := 117) rfl)
set_option maxRecDepth 20000 in
theorem mc_49 : Cond.code yX6_fail cX6_fail 3 (some .boolean) ∈ lw_tbl := sub_tables_1_3 _ (List.mem_of_getElem? (i := 121) rfl)
set_option maxRecDepth 20000 in
theorem mc_50 : Cond.code yX6_isNewName cX6_isNewName 2 (some .boolean) ∈ lw_tbl := sub_tables_1_3 _ (List.mem_of_getElem? (i := 126) rfl)
set_option maxRecDepth 20000 in
theorem mc_51 : Cond.code yX7_isName cX7_isName 1 (some .boolean) ∈ lw_tbl := sub_tables_1_3 _ (List.mem_of_getElem? (i := 130) rfl)
set_option maxRecDepth 20000 in
theorem mc_52 : Cond.code yX3_kindNamed cX3_kindNamed 3 (some .int) ∈ lw_tbl := sub_tables_1_3 _ (List.mem_of_getElem? (i := 134) rfl)
set_option maxRecDepth 20000 in
theorem mc_53 : Cond.code yX3_conNamed cX3_conNamed 3 (some .int) ∈ lw_tbl := sub_tables_1_3 _ (List.mem_of_getElem? (i := 138) rfl)
set_option maxRecDepth 20000 in
theorem mc_54 : Cond.code yX3_addKind cX3_addKind 2 none ∈ lw_tbl := sub_tables_1_3 _ (List.mem_of_getElem? (i := 142) rfl)
set_option maxRecDepth 20000 in
theorem mc_55 : Cond.code yX6_readCon cX6_readCon 9 (some .boolean) ∈ lw_tbl := sub_tables_1_3 _ (List.mem_of_getElem? (i := 146) rfl)
set_option maxRecDepth 20000 in
theorem mc_56 : Cond.code yX3_consOf cX3_consOf 2 (some .int) ∈ lw_tbl := sub_tables_1_3 _ (List.mem_of_getElem? (i := 150) rfl)
set_option maxRecDepth 20000 in
theorem mc_57 : Cond.code yX3_isKind cX3_isKind 2 (some .boolean) ∈ lw_tbl := sub_tables_1_3 _ (List.mem_of_getElem? (i := 154) rfl)
set_option maxRecDepth 20000 in
theorem mc_58 : Cond.code yX6_isKindWord cX6_isKindWord 1 (some .boolean) ∈ lw_tbl := sub_tables_1_3 _ (List.mem_of_getElem? (i := 158) rfl)
set_option maxRecDepth 20000 in
theorem mc_59 : Cond.code yX6_isKindHere cX6_isKindHere 3 (some .boolean) ∈ lw_tbl := sub_tables_1_3 _ (List.mem_of_getElem? (i := 162) rfl)
set_option maxRecDepth 20000 in
theorem mc_60 : Cond.code yX6_kindHere cX6_kindHere 1 (some .int) ∈ lw_tbl := sub_tables_1_3 _ (List.mem_of_getElem? (i := 166) rfl)
set_option maxRecDepth 20000 in
theorem mc_61 : Cond.code yX3_sizeOf cX3_sizeOf 2 (some .int) ∈ lw_tbl := sub_tables_1_3 _ (List.mem_of_getElem? (i := 170) rfl)
set_option maxRecDepth 20000 in
theorem mc_62 : Cond.code yX3_addCon cX3_addCon 7 none ∈ lw_tbl := sub_tables_1_3 _ (List.mem_of_getElem? (i := 174) rfl)
set_option maxRecDepth 20000 in
theorem mc_63 : Cond.code yX6_readColumns cX6_readColumns 4 (some .boolean) ∈ lw_tbl := sub_tables_1_3 _ (List.mem_of_getElem? (i := 178) rfl)
set_option maxRecDepth 20000 in
theorem mc_64 : Cond.code yX9_addColumn cX9_addColumn 4 none ∈ lw_tbl := sub_tables_1_3 _ (List.mem_of_getElem? (i := 182) rfl)
set_option maxRecDepth 20000 in
theorem mc_65 : Cond.code yX6_readArm cX6_readArm 2 (some .boolean) ∈ lw_tbl := sub_tables_1_3 _ (List.mem_of_getElem? (i := 187) rfl)
set_option maxRecDepth 20000 in
theorem mc_66 : Cond.code yX6_readSign cX6_readSign 2 (some .boolean) ∈ lw_tbl := sub_tables_1_3 _ (List.mem_of_getElem? (i := 191) rfl)
set_option maxRecDepth 20000 in
theorem mc_67 : Cond.code yX7_isSign cX7_isSign 2 (some .boolean) ∈ lw_tbl := sub_tables_1_3 _ (List.mem_of_getElem? (i := 195) rfl)
set_option maxRecDepth 20000 in
theorem mc_68 : Cond.code yX6_readPattern cX6_readPattern 6 (some .boolean) ∈ lw_tbl := sub_tables_1_3 _ (List.mem_of_getElem? (i := 198) rfl)
set_option maxRecDepth 20000 in
theorem mc_69 : Cond.code yX6_fill cX6_fill 5 none ∈ lw_tbl := sub_tables_1_3 _ (List.mem_of_getElem? (i := 201) rfl)
set_option maxRecDepth 20000 in
theorem mc_70 : Cond.code yX6_readRange cX6_readRange 4 (some .boolean) ∈ lw_tbl := sub_tables_1_3 _ (List.mem_of_getElem? (i := 206) rfl)
set_option maxRecDepth 20000 in
theorem mc_71 : Cond.code yX6_readNumber cX6_readNumber 4 (some .int) ∈ lw_tbl := sub_tables_1_3 _ (List.mem_of_getElem? (i := 210) rfl)
set_option maxRecDepth 20000 in
theorem mc_72 : Cond.code yX6_readCase cX6_readCase 7 (some .boolean) ∈ lw_tbl := sub_tables_1_3 _ (List.mem_of_getElem? (i := 213) rfl)
set_option maxRecDepth 20000 in
theorem mc_73 : Cond.code yX6_readConName cX6_readConName 3 (some .int) ∈ lw_tbl := sub_tables_1_3 _ (List.mem_of_getElem? (i := 217) rfl)
set_option maxRecDepth 20000 in
theorem mc_74 : Cond.code yX3_conNamedOf cX3_conNamedOf 5 (some .int) ∈ lw_tbl := sub_tables_1_3 _ (List.mem_of_getElem? (i := 221) rfl)
set_option maxRecDepth 20000 in
theorem mc_75 : Cond.code yX6_fillCase cX6_fillCase 11 none ∈ lw_tbl := sub_tables_1_3 _ (List.mem_of_getElem? (i := 226) rfl)
set_option maxRecDepth 20000 in
theorem mc_76 : Cond.code yX3_secondSize cX3_secondSize 2 (some .int) ∈ lw_tbl := sub_tables_1_3 _ (List.mem_of_getElem? (i := 230) rfl)
set_option maxRecDepth 20000 in
theorem mc_77 : Cond.code yX3_isCon cX3_isCon 2 (some .boolean) ∈ lw_tbl := sub_tables_1_3 _ (List.mem_of_getElem? (i := 234) rfl)
set_option maxRecDepth 20000 in
theorem mc_78 : Cond.code yX9_setPattern cX9_setPattern 6 none ∈ lw_tbl := sub_tables_1_3 _ (List.mem_of_getElem? (i := 239) rfl)
set_option maxRecDepth 20000 in
theorem mc_79 : Cond.code yX9_addArm cX9_addArm 2 none ∈ lw_tbl := sub_tables_1_4 _ (List.mem_of_getElem? (i := 3) rfl)
set_option maxRecDepth 20000 in
theorem mc_80 : Cond.code yX6_readRule cX6_readRule 1 (some .boolean) ∈ lw_tbl := sub_tables_1_4 _ (List.mem_of_getElem? (i := 7) rfl)
set_option maxRecDepth 20000 in
theorem mc_81 : Cond.code yX6_readBudget cX6_readBudget 1 (some .boolean) ∈ lw_tbl := sub_tables_1_4 _ (List.mem_of_getElem? (i := 11) rfl)
set_option maxRecDepth 20000 in
theorem mc_82 : Cond.code yX11_startMatch cX11_startMatch 2 none ∈ lw_tbl := sub_tables_1_4 _ (List.mem_of_getElem? (i := 15) rfl)
set_option maxRecDepth 20000 in
theorem mc_83 : Cond.code yX10_setTable cX10_setTable 4 none ∈ lw_tbl := sub_tables_1_4 _ (List.mem_of_getElem? (i := 19) rfl)
set_option maxRecDepth 20000 in
theorem mc_84 : Cond.code yX2_begin cX2_begin 1 none ∈ lw_tbl := sub_tables_1_4 _ (List.mem_of_getElem? (i := 23) rfl)
set_option maxRecDepth 20000 in
theorem mc_85 : Cond.code yX4_renew cX4_renew 1 none ∈ lw_tbl := sub_tables_1_4 _ (List.mem_of_getElem? (i := 27) rfl)
set_option maxRecDepth 20000 in
theorem mc_86 : Cond.code yX9_armsFitting cX9_armsFitting 3 (some .int) ∈ lw_tbl := sub_tables_1_4 _ (List.mem_of_getElem? (i := 31) rfl)
set_option maxRecDepth 20000 in
theorem mc_87 : Cond.code yX2_add cX2_add 4 none ∈ lw_tbl := sub_tables_1_4 _ (List.mem_of_getElem? (i := 35) rfl)
set_option maxRecDepth 20000 in
theorem mc_88 : Cond.code yX4_isNew cX4_isNew 2 (some .boolean) ∈ lw_tbl := sub_tables_1_4 _ (List.mem_of_getElem? (i := 39) rfl)
set_option maxRecDepth 20000 in
theorem mc_89 : Cond.code yX2_copy cX2_copy 3 none ∈ lw_tbl := sub_tables_1_4 _ (List.mem_of_getElem? (i := 45) rfl)
set_option maxRecDepth 20000 in
theorem mc_90 : Cond.code yX2_addProducts cX2_addProducts 5 none ∈ lw_tbl := sub_tables_1_4 _ (List.mem_of_getElem? (i := 50) rfl)
set_option maxRecDepth 20000 in
theorem mc_91 : Cond.code yX5_begin cX5_begin 4 none ∈ lw_tbl := sub_tables_1_4 _ (List.mem_of_getElem? (i := 55) rfl)
set_option maxRecDepth 20000 in
theorem mc_92 : Cond.code yX0_clear cX0_clear 1 none ∈ lw_tbl := sub_tables_1_4 _ (List.mem_of_getElem? (i := 61) rfl)
set_option maxRecDepth 20000 in
theorem mc_93 : Cond.code yX12_match cX12_match 2 (some .int) ∈ lw_tbl := sub_tables_1_7 _ (List.mem_of_getElem? (i := 113) rfl)
set_option maxRecDepth 20000 in
theorem mc_94 : Cond.code yX12_ahead cX12_ahead 6 none ∈ lw_tbl := sub_tables_1_7 _ (List.mem_of_getElem? (i := 117) rfl)
set_option maxRecDepth 20000 in
theorem mc_95 : Cond.code yX12_isLetter cX12_isLetter 1 (some .boolean) ∈ lw_tbl := sub_tables_1_7 _ (List.mem_of_getElem? (i := 120) rfl)
set_option maxRecDepth 20000 in
theorem mc_96 : Cond.code yX12_isDigit cX12_isDigit 1 (some .boolean) ∈ lw_tbl := sub_tables_1_7 _ (List.mem_of_getElem? (i := 123) rfl)
set_option maxRecDepth 20000 in
theorem mc_97 : Cond.code yX12_statement cX12_statement 1 none ∈ lw_tbl := sub_tables_1_7 _ (List.mem_of_getElem? (i := 127) rfl)
set_option maxRecDepth 20000 in
theorem mc_98 : Cond.code yX12_lex cX12_lex 1 none ∈ lw_tbl := sub_tables_1_7 _ (List.mem_of_getElem? (i := 131) rfl)
set_option maxRecDepth 20000 in
theorem mc_99 : Cond.code yX12_blame cX12_blame 3 none ∈ lw_tbl := sub_tables_1_7 _ (List.mem_of_getElem? (i := 135) rfl)
set_option maxRecDepth 20000 in
theorem mc_100 : Cond.code yX12_isWord cX12_isWord 3 (some .boolean) ∈ lw_tbl := sub_tables_1_7 _ (List.mem_of_getElem? (i := 140) rfl)
set_option maxRecDepth 20000 in
theorem mc_101 : Cond.code yX12_kindIs cX12_kindIs 4 none ∈ lw_tbl := sub_tables_1_7 _ (List.mem_of_getElem? (i := 144) rfl)
set_option maxRecDepth 20000 in
theorem mc_102 : Cond.code yX12_isCounted cX12_isCounted 2 (some .boolean) ∈ lw_tbl := sub_tables_1_7 _ (List.mem_of_getElem? (i := 148) rfl)
set_option maxRecDepth 20000 in
theorem mc_103 : Cond.code yX12_fresh cX12_fresh 3 (some .long) ∈ lw_tbl := sub_tables_1_7 _ (List.mem_of_getElem? (i := 152) rfl)
set_option maxRecDepth 20000 in
theorem mc_104 : Cond.code yX12_isOwn cX12_isOwn 3 (some .boolean) ∈ lw_tbl := sub_tables_1_7 _ (List.mem_of_getElem? (i := 156) rfl)
set_option maxRecDepth 20000 in
theorem mc_105 : Cond.code yX12_kindNamed cX12_kindNamed 4 (some .int) ∈ lw_tbl := sub_tables_1_7 _ (List.mem_of_getElem? (i := 170) rfl)
set_option maxRecDepth 20000 in
theorem mc_106 : Cond.code yX12_conNamed cX12_conNamed 5 (some .int) ∈ lw_tbl := sub_tables_1_7 _ (List.mem_of_getElem? (i := 174) rfl)
set_option maxRecDepth 20000 in
theorem mc_107 : Cond.code yX12_conIs cX12_conIs 7 none ∈ lw_tbl := sub_tables_1_7 _ (List.mem_of_getElem? (i := 178) rfl)
set_option maxRecDepth 20000 in
theorem mc_108 : Cond.code yX12_isKindHere cX12_isKindHere 1 (some .boolean) ∈ lw_tbl := sub_tables_1_7 _ (List.mem_of_getElem? (i := 182) rfl)
set_option maxRecDepth 20000 in
theorem mc_109 : Cond.code yX12_known cX12_known 4 (some .int) ∈ lw_tbl := sub_tables_1_7 _ (List.mem_of_getElem? (i := 186) rfl)
set_option maxRecDepth 20000 in
theorem mc_110 : Cond.code yX12_valuesOf cX12_valuesOf 3 (some .int) ∈ lw_tbl := sub_tables_1_7 _ (List.mem_of_getElem? (i := 190) rfl)
set_option maxRecDepth 20000 in
theorem mc_111 : Cond.code yX12_matchIs cX12_matchIs 3 none ∈ lw_tbl := sub_tables_1_7 _ (List.mem_of_getElem? (i := 194) rfl)
set_option maxRecDepth 20000 in
theorem mc_112 : Cond.code yX12_armIs cX12_armIs 3 none ∈ lw_tbl := sub_tables_1_7 _ (List.mem_of_getElem? (i := 198) rfl)
set_option maxRecDepth 20000 in
theorem mc_113 : Cond.code yX12_must cX12_must 2 none ∈ lw_tbl := sub_tables_1_7 _ (List.mem_of_getElem? (i := 202) rfl)
set_option maxRecDepth 20000 in
theorem mc_114 : Cond.code yX12_isSign cX12_isSign 2 (some .boolean) ∈ lw_tbl := sub_tables_1_7 _ (List.mem_of_getElem? (i := 206) rfl)
set_option maxRecDepth 20000 in
theorem mc_115 : Cond.code yX12_pattern cX12_pattern 3 none ∈ lw_tbl := sub_tables_1_7 _ (List.mem_of_getElem? (i := 210) rfl)
set_option maxRecDepth 20000 in
theorem mc_116 : Cond.code yX12_opensPattern cX12_opensPattern 2 none ∈ lw_tbl := sub_tables_1_7 _ (List.mem_of_getElem? (i := 214) rfl)
set_option maxRecDepth 20000 in
theorem mc_117 : Cond.code yX12_alternative cX12_alternative 3 (some .boolean) ∈ lw_tbl := sub_tables_1_7 _ (List.mem_of_getElem? (i := 218) rfl)
set_option maxRecDepth 20000 in
theorem mc_118 : Cond.code yX12_emits cX12_emits 5 none ∈ lw_tbl := sub_tables_1_7 _ (List.mem_of_getElem? (i := 222) rfl)
set_option maxRecDepth 20000 in
theorem mc_119 : Cond.code yX12_range cX12_range 3 none ∈ lw_tbl := sub_tables_1_7 _ (List.mem_of_getElem? (i := 226) rfl)
set_option maxRecDepth 20000 in
theorem mc_120 : Cond.code yX12_number cX12_number 4 (some .int) ∈ lw_tbl := sub_tables_1_7 _ (List.mem_of_getElem? (i := 230) rfl)
set_option maxRecDepth 20000 in
theorem mc_121 : Cond.code yX12_is cX12_is 3 (some .boolean) ∈ lw_tbl := sub_tables_1_7 _ (List.mem_of_getElem? (i := 233) rfl)
set_option maxRecDepth 20000 in
theorem mc_122 : Cond.code yX12_fieldBegins cX12_fieldBegins 3 none ∈ lw_tbl := sub_tables_1_7 _ (List.mem_of_getElem? (i := 237) rfl)
set_option maxRecDepth 20000 in
theorem mc_123 : Cond.code yX12_goesOn cX12_goesOn 3 (some .boolean) ∈ lw_tbl := sub_tables_1_8 _ (List.mem_of_getElem? (i := 1) rfl)
set_option maxRecDepth 20000 in
theorem mc_124 : Cond.code yX12_ruleIs cX12_ruleIs 1 none ∈ lw_tbl := sub_tables_1_8 _ (List.mem_of_getElem? (i := 5) rfl)
set_option maxRecDepth 20000 in
theorem mc_125 : Cond.code yX12_budgetIs cX12_budgetIs 1 none ∈ lw_tbl := sub_tables_1_8 _ (List.mem_of_getElem? (i := 9) rfl)
set_option maxRecDepth 20000 in
theorem mc_126 : Cond.code yX12_finishes cX12_finishes 3 none ∈ lw_tbl := sub_tables_1_8 _ (List.mem_of_getElem? (i := 13) rfl)
set_option maxRecDepth 20000 in
theorem mc_127 : Cond.code yX12_lays cX12_lays 5 none ∈ lw_tbl := sub_tables_1_8 _ (List.mem_of_getElem? (i := 17) rfl)
set_option maxRecDepth 20000 in
theorem mc_128 : Cond.code yX12_columns cX12_columns 1 (some .int) ∈ lw_tbl := sub_tables_1_8 _ (List.mem_of_getElem? (i := 21) rfl)
set_option maxRecDepth 20000 in
theorem mc_129 : Cond.code yX12_columnValues cX12_columnValues 2 (some .int) ∈ lw_tbl := sub_tables_1_8 _ (List.mem_of_getElem? (i := 25) rfl)
set_option maxRecDepth 20000 in
theorem mc_130 : Cond.code yX12_isFitting cX12_isFitting 9 (some .boolean) ∈ lw_tbl := sub_tables_1_8 _ (List.mem_of_getElem? (i := 29) rfl)
set_option maxRecDepth 20000 in
theorem mc_131 : Cond.code yX12_fieldOf cX12_fieldOf 7 (some .int) ∈ lw_tbl := sub_tables_1_8 _ (List.mem_of_getElem? (i := 33) rfl)
set_option maxRecDepth 20000 in
theorem mc_132 : Cond.code yX11_fault cX11_fault 2 (some .int) ∈ lw_tbl := sub_tables_1_4 _ (List.mem_of_getElem? (i := 65) rfl)
set_option maxRecDepth 20000 in
theorem mc_133 : Cond.code yX12_fault cX12_fault 2 (some .int) ∈ lw_tbl := sub_tables_1_8 _ (List.mem_of_getElem? (i := 37) rfl)
set_option maxRecDepth 20000 in
theorem mc_134 : Cond.code yX11_has cX11_has 2 (some .int) ∈ lw_tbl := sub_tables_1_4 _ (List.mem_of_getElem? (i := 69) rfl)
set_option maxRecDepth 20000 in
theorem mc_135 : Cond.code yX0_keptTold cX0_keptTold 1 (some .int) ∈ lw_tbl := sub_tables_1_4 _ (List.mem_of_getElem? (i := 73) rfl)
set_option maxRecDepth 20000 in
theorem mc_136 : Cond.code yX12_has cX12_has 2 (some .int) ∈ lw_tbl := sub_tables_1_8 _ (List.mem_of_getElem? (i := 57) rfl)
set_option maxRecDepth 20000 in
theorem mc_137 : Cond.code yX11_letter cX11_letter 5 (some .int) ∈ lw_tbl := sub_tables_1_4 _ (List.mem_of_getElem? (i := 78) rfl)
set_option maxRecDepth 20000 in
theorem mc_138 : Cond.code yX11_letterOf cX11_letterOf 4 (some .int) ∈ lw_tbl := sub_tables_1_4 _ (List.mem_of_getElem? (i := 82) rfl)
set_option maxRecDepth 20000 in
theorem mc_139 : Cond.code yX12_letter cX12_letter 7 (some .int) ∈ lw_tbl := sub_tables_1_8 _ (List.mem_of_getElem? (i := 61) rfl)
set_option maxRecDepth 20000 in
theorem mc_140 : Cond.code yX12_lettersOf cX12_lettersOf 5 (some .int) ∈ lw_tbl := sub_tables_1_8 _ (List.mem_of_getElem? (i := 64) rfl)
set_option maxRecDepth 20000 in
theorem mc_141 : Cond.code yX11_values cX11_values 2 (some .int) ∈ lw_tbl := sub_tables_1_4 _ (List.mem_of_getElem? (i := 87) rfl)
set_option maxRecDepth 20000 in
theorem mc_142 : Cond.code yX11_matched cX11_matched 1 (some .boolean) ∈ lw_tbl := sub_tables_1_4 _ (List.mem_of_getElem? (i := 91) rfl)
set_option maxRecDepth 20000 in
theorem mc_143 : Cond.code yX12_values cX12_values 2 (some .int) ∈ lw_tbl := sub_tables_1_8 _ (List.mem_of_getElem? (i := 69) rfl)
set_option maxRecDepth 20000 in
theorem mc_144 : Cond.code yX11_arm cX11_arm 4 (some .int) ∈ lw_tbl := sub_tables_1_4 _ (List.mem_of_getElem? (i := 96) rfl)
set_option maxRecDepth 20000 in
theorem mc_145 : Cond.code yX5_armAt cX5_armAt 2 (some .int) ∈ lw_tbl := sub_tables_1_4 _ (List.mem_of_getElem? (i := 100) rfl)
set_option maxRecDepth 20000 in
theorem mc_146 : Cond.code yX5_isPlace cX5_isPlace 2 (some .boolean) ∈ lw_tbl := sub_tables_1_4 _ (List.mem_of_getElem? (i := 104) rfl)
set_option maxRecDepth 20000 in
theorem mc_147 : Cond.code yX9_guardOf cX9_guardOf 2 (some .int) ∈ lw_tbl := sub_tables_1_4 _ (List.mem_of_getElem? (i := 108) rfl)
set_option maxRecDepth 20000 in
theorem mc_148 : Cond.code yX11_isUseful cX11_isUseful 6 (some .boolean) ∈ lw_tbl := sub_tables_1_4 _ (List.mem_of_getElem? (i := 112) rfl)
set_option maxRecDepth 20000 in
theorem mc_149 : Cond.code yX5_unguarded cX5_unguarded 5 (some .int) ∈ lw_tbl := sub_tables_1_4 _ (List.mem_of_getElem? (i := 116) rfl)
set_option maxRecDepth 20000 in
theorem mc_150 : Cond.code yX11_isIn cX11_isIn 2 (some .boolean) ∈ lw_tbl := sub_tables_1_4 _ (List.mem_of_getElem? (i := 120) rfl)
set_option maxRecDepth 20000 in
theorem mc_151 : Cond.code yX11_rowsFitting cX11_rowsFitting 4 (some .int) ∈ lw_tbl := sub_tables_1_4 _ (List.mem_of_getElem? (i := 124) rfl)
set_option maxRecDepth 20000 in
theorem mc_152 : Cond.code yX11_rowsTaken cX11_rowsTaken 4 (some .int) ∈ lw_tbl := sub_tables_1_4 _ (List.mem_of_getElem? (i := 128) rfl)
set_option maxRecDepth 20000 in
theorem mc_153 : Cond.code yX5_placeTaking cX5_placeTaking 6 (some .int) ∈ lw_tbl := sub_tables_1_4 _ (List.mem_of_getElem? (i := 132) rfl)
set_option maxRecDepth 20000 in
theorem mc_154 : Cond.code yX12_arm cX12_arm 3 (some .int) ∈ lw_tbl := sub_tables_1_8 _ (List.mem_of_getElem? (i := 73) rfl)
set_option maxRecDepth 20000 in
theorem mc_155 : Cond.code yX12_isPlace cX12_isPlace 2 (some .boolean) ∈ lw_tbl := sub_tables_1_8 _ (List.mem_of_getElem? (i := 77) rfl)
set_option maxRecDepth 20000 in
theorem mc_156 : Cond.code yX12_arranges cX12_arranges 4 none ∈ lw_tbl := sub_tables_1_8 _ (List.mem_of_getElem? (i := 81) rfl)
set_option maxRecDepth 20000 in
theorem mc_157 : Cond.code yX12_placed cX12_placed 5 (some .int) ∈ lw_tbl := sub_tables_1_8 _ (List.mem_of_getElem? (i := 85) rfl)
set_option maxRecDepth 20000 in
theorem mc_158 : Cond.code yX12_countsRows cX12_countsRows 2 none ∈ lw_tbl := sub_tables_1_8 _ (List.mem_of_getElem? (i := 89) rfl)
set_option maxRecDepth 20000 in
theorem mc_159 : Cond.code yX12_fitting cX12_fitting 4 (some .int) ∈ lw_tbl := sub_tables_1_8 _ (List.mem_of_getElem? (i := 93) rfl)
set_option maxRecDepth 20000 in
theorem mc_160 : Cond.code yX12_valuesIn cX12_valuesIn 4 none ∈ lw_tbl := sub_tables_1_8 _ (List.mem_of_getElem? (i := 97) rfl)
set_option maxRecDepth 20000 in
theorem mc_161 : Cond.code yX12_setIn cX12_setIn 3 (some .int) ∈ lw_tbl := sub_tables_1_8 _ (List.mem_of_getElem? (i := 101) rfl)
set_option maxRecDepth 20000 in
theorem mc_162 : Cond.code yX12_isUseful cX12_isUseful 4 (some .int) ∈ lw_tbl := sub_tables_1_8 _ (List.mem_of_getElem? (i := 105) rfl)
set_option maxRecDepth 20000 in
theorem mc_163 : Cond.code yX12_fittingRows cX12_fittingRows 4 (some .int) ∈ lw_tbl := sub_tables_1_8 _ (List.mem_of_getElem? (i := 109) rfl)
set_option maxRecDepth 20000 in
theorem mc_164 : Cond.code yX12_takenRows cX12_takenRows 5 (some .int) ∈ lw_tbl := sub_tables_1_8 _ (List.mem_of_getElem? (i := 113) rfl)
set_option maxRecDepth 20000 in
theorem mc_165 : Cond.code yX12_openBy cX12_openBy 4 (some .int) ∈ lw_tbl := sub_tables_1_8 _ (List.mem_of_getElem? (i := 117) rfl)
set_option maxRecDepth 20000 in
theorem mc_166 : Cond.code yX12_lowest cX12_lowest 2 (some .int) ∈ lw_tbl := sub_tables_1_8 _ (List.mem_of_getElem? (i := 120) rfl)
set_option maxRecDepth 20000 in
theorem mc_167 : Cond.code yX11_fits cX11_fits 5 (some .int) ∈ lw_tbl := sub_tables_1_4 _ (List.mem_of_getElem? (i := 137) rfl)
set_option maxRecDepth 20000 in
theorem mc_168 : Cond.code yX12_fits cX12_fits 4 (some .int) ∈ lw_tbl := sub_tables_1_8 _ (List.mem_of_getElem? (i := 124) rfl)
set_option maxRecDepth 20000 in
theorem mc_169 : Cond.code yX11_holds cX11_holds 7 (some .int) ∈ lw_tbl := sub_tables_1_4 _ (List.mem_of_getElem? (i := 142) rfl)
set_option maxRecDepth 20000 in
theorem mc_170 : Cond.code yX12_holds cX12_holds 4 (some .int) ∈ lw_tbl := sub_tables_1_8 _ (List.mem_of_getElem? (i := 128) rfl)
set_option maxRecDepth 20000 in
theorem mc_171 : Cond.code yX11_missing cX11_missing 3 (some .int) ∈ lw_tbl := sub_tables_1_4 _ (List.mem_of_getElem? (i := 146) rfl)
set_option maxRecDepth 20000 in
theorem mc_172 : Cond.code yX11_countMissing cX11_countMissing 4 (some .int) ∈ lw_tbl := sub_tables_1_4 _ (List.mem_of_getElem? (i := 150) rfl)
set_option maxRecDepth 20000 in
theorem mc_173 : Cond.code yX11_findMissing cX11_findMissing 5 (some .int) ∈ lw_tbl := sub_tables_1_4 _ (List.mem_of_getElem? (i := 154) rfl)
set_option maxRecDepth 20000 in
theorem mc_174 : Cond.code yX9_armsOf cX9_armsOf 6 (some .int) ∈ lw_tbl := sub_tables_1_4 _ (List.mem_of_getElem? (i := 158) rfl)
set_option maxRecDepth 20000 in
theorem mc_175 : Cond.code yX12_missing cX12_missing 4 (some .int) ∈ lw_tbl := sub_tables_1_8 _ (List.mem_of_getElem? (i := 132) rfl)
set_option maxRecDepth 20000 in
theorem mc_176 : Cond.code yX11_taken cX11_taken 2 (some .int) ∈ lw_tbl := sub_tables_1_4 _ (List.mem_of_getElem? (i := 164) rfl)
set_option maxRecDepth 20000 in
theorem mc_177 : Cond.code yX9_isRow cX9_isRow 2 (some .boolean) ∈ lw_tbl := sub_tables_1_4 _ (List.mem_of_getElem? (i := 168) rfl)
set_option maxRecDepth 20000 in
theorem mc_178 : Cond.code yX12_taken cX12_taken 2 (some .int) ∈ lw_tbl := sub_tables_1_8 _ (List.mem_of_getElem? (i := 136) rfl)
set_option maxRecDepth 20000 in
theorem mc_179 : Cond.code yX12_isRow cX12_isRow 2 (some .boolean) ∈ lw_tbl := sub_tables_1_8 _ (List.mem_of_getElem? (i := 140) rfl)
set_option maxRecDepth 20000 in
theorem mc_180 : Cond.code yX11_row cX11_row 2 (some .int) ∈ lw_tbl := sub_tables_1_4 _ (List.mem_of_getElem? (i := 172) rfl)
set_option maxRecDepth 20000 in
theorem mc_181 : Cond.code yX6_readRow cX6_readRow 6 (some .int) ∈ lw_tbl := sub_tables_1_4 _ (List.mem_of_getElem? (i := 176) rfl)
set_option maxRecDepth 20000 in
theorem mc_182 : Cond.code yX6_readValue cX6_readValue 7 (some .int) ∈ lw_tbl := sub_tables_1_4 _ (List.mem_of_getElem? (i := 179) rfl)
set_option maxRecDepth 20000 in
theorem mc_183 : Cond.code yX12_row cX12_row 3 (some .int) ∈ lw_tbl := sub_tables_1_8 _ (List.mem_of_getElem? (i := 144) rfl)
set_option maxRecDepth 20000 in
theorem mc_184 : Cond.code yX12_valueRead cX12_valueRead 5 (some .int) ∈ lw_tbl := sub_tables_1_8 _ (List.mem_of_getElem? (i := 148) rfl)
set_option maxRecDepth 20000 in
theorem mc_185 : Cond.code yX12_isMoreOf cX12_isMoreOf 5 (some .boolean) ∈ lw_tbl := sub_tables_1_8 _ (List.mem_of_getElem? (i := 152) rfl)
set_option maxRecDepth 20000 in
theorem mc_186 : Cond.code yX12_conRead cX12_conRead 3 (some .int) ∈ lw_tbl := sub_tables_1_8 _ (List.mem_of_getElem? (i := 156) rfl)
set_option maxRecDepth 20000 in
theorem mc_187 : Cond.code yX11_text cX11_text 3 (some .int) ∈ lw_tbl := sub_tables_1_4 _ (List.mem_of_getElem? (i := 183) rfl)
set_option maxRecDepth 20000 in
theorem mc_188 : Cond.code yX9_valueOf cX9_valueOf 5 (some .int) ∈ lw_tbl := sub_tables_1_4 _ (List.mem_of_getElem? (i := 188) rfl)
set_option maxRecDepth 20000 in
theorem mc_189 : Cond.code yX11_writeValue cX11_writeValue 8 none ∈ lw_tbl := sub_tables_1_4 _ (List.mem_of_getElem? (i := 191) rfl)
set_option maxRecDepth 20000 in
theorem mc_190 : Cond.code yX1_addNumber cX1_addNumber 2 none ∈ lw_tbl := sub_tables_1_4 _ (List.mem_of_getElem? (i := 195) rfl)
set_option maxRecDepth 20000 in
theorem mc_191 : Cond.code yX3_conOf cX3_conOf 6 (some .int) ∈ lw_tbl := sub_tables_1_4 _ (List.mem_of_getElem? (i := 199) rfl)
set_option maxRecDepth 20000 in
theorem mc_192 : Cond.code yX1_addName cX1_addName 4 none ∈ lw_tbl := sub_tables_1_4 _ (List.mem_of_getElem? (i := 203) rfl)
set_option maxRecDepth 20000 in
theorem mc_193 : Cond.code yX12_text cX12_text 4 (some .int) ∈ lw_tbl := sub_tables_1_8 _ (List.mem_of_getElem? (i := 160) rfl)
set_option maxRecDepth 20000 in
theorem mc_194 : Cond.code yX12_later cX12_later 3 none ∈ lw_tbl := sub_tables_1_8 _ (List.mem_of_getElem? (i := 164) rfl)
set_option maxRecDepth 20000 in
theorem mc_195 : Cond.code yX12_writes cX12_writes 2 none ∈ lw_tbl := sub_tables_1_8 _ (List.mem_of_getElem? (i := 168) rfl)
set_option maxRecDepth 20000 in
theorem mc_196 : Cond.code yX12_writesValue cX12_writesValue 6 none ∈ lw_tbl := sub_tables_1_8 _ (List.mem_of_getElem? (i := 172) rfl)
set_option maxRecDepth 20000 in
theorem mc_197 : Cond.code yX12_conOf cX12_conOf 5 (some .int) ∈ lw_tbl := sub_tables_1_8 _ (List.mem_of_getElem? (i := 176) rfl)
set_option maxRecDepth 20000 in
theorem mc_198 : Cond.code yX12_writesName cX12_writesName 4 none ∈ lw_tbl := sub_tables_1_8 _ (List.mem_of_getElem? (i := 180) rfl)
set_option maxRecDepth 20000 in
theorem mc_199 : Cond.code yX11_octet cX11_octet 2 (some .int) ∈ lw_tbl := sub_tables_1_4 _ (List.mem_of_getElem? (i := 209) rfl)
set_option maxRecDepth 20000 in
theorem mc_200 : Cond.code yX1_byteAt cX1_byteAt 2 (some .int) ∈ lw_tbl := sub_tables_1_4 _ (List.mem_of_getElem? (i := 213) rfl)
set_option maxRecDepth 20000 in
theorem mc_201 : Cond.code yX12_octet cX12_octet 2 (some .int) ∈ lw_tbl := sub_tables_1_8 _ (List.mem_of_getElem? (i := 184) rfl)
set_option maxRecDepth 20000 in
theorem mc_202 : Cond.code yX11_tree cX11_tree 5 (some .int) ∈ lw_tbl := sub_tables_1_4 _ (List.mem_of_getElem? (i := 217) rfl)
set_option maxRecDepth 20000 in
theorem mc_203 : Cond.code yX11_isRule cX11_isRule 1 (some .boolean) ∈ lw_tbl := sub_tables_1_4 _ (List.mem_of_getElem? (i := 220) rfl)
set_option maxRecDepth 20000 in
theorem mc_204 : Cond.code yX10_measureAll cX10_measureAll 3 (some .long) ∈ lw_tbl := sub_tables_1_4 _ (List.mem_of_getElem? (i := 224) rfl)
set_option maxRecDepth 20000 in
theorem mc_205 : Cond.code yX5_allArms cX5_allArms 3 (some .int) ∈ lw_tbl := sub_tables_1_4 _ (List.mem_of_getElem? (i := 228) rfl)
set_option maxRecDepth 20000 in
theorem mc_206 : Cond.code yX10_allColumns cX10_allColumns 1 (some .int) ∈ lw_tbl := sub_tables_1_4 _ (List.mem_of_getElem? (i := 232) rfl)
set_option maxRecDepth 20000 in
theorem mc_207 : Cond.code yX10_measure cX10_measure 16 (some .long) ∈ lw_tbl := sub_tables_1_4 _ (List.mem_of_getElem? (i := 235) rfl)
set_option maxRecDepth 20000 in
theorem mc_208 : Cond.code yX10_columnAsked cX10_columnAsked 8 (some .int) ∈ lw_tbl := sub_tables_1_4 _ (List.mem_of_getElem? (i := 239) rfl)
set_option maxRecDepth 20000 in
theorem mc_209 : Cond.code yX5_firstOf cX5_firstOf 3 (some .int) ∈ lw_tbl := sub_tables_1_5 _ (List.mem_of_getElem? (i := 3) rfl)
set_option maxRecDepth 20000 in
theorem mc_210 : Cond.code yX10_costOf cX10_costOf 3 (some .int) ∈ lw_tbl := sub_tables_1_5 _ (List.mem_of_getElem? (i := 8) rfl)
set_option maxRecDepth 20000 in
theorem mc_211 : Cond.code yX10_notFullInRow cX10_notFullInRow 6 (some .int) ∈ lw_tbl := sub_tables_1_5 _ (List.mem_of_getElem? (i := 12) rfl)
set_option maxRecDepth 20000 in
theorem mc_212 : Cond.code yX10_countBranches cX10_countBranches 5 (some .int) ∈ lw_tbl := sub_tables_1_5 _ (List.mem_of_getElem? (i := 16) rfl)
set_option maxRecDepth 20000 in
theorem mc_213 : Cond.code yX10_mostArms cX10_mostArms 5 (some .int) ∈ lw_tbl := sub_tables_1_5 _ (List.mem_of_getElem? (i := 22) rfl)
set_option maxRecDepth 20000 in
theorem mc_214 : Cond.code yJ6_bitCount_0f7a4 cJ6_bitCount_0f7a4 1 (some .int) ∈ lw_tbl := sub_tables_1_5 _ (List.mem_of_getElem? (i := 25) rfl)
set_option maxRecDepth 20000 in
theorem mc_215 : Cond.code yX10_rowsOf cX10_rowsOf 4 (some .int) ∈ lw_tbl := sub_tables_1_5 _ (List.mem_of_getElem? (i := 34) rfl)
set_option maxRecDepth 20000 in
theorem mc_216 : Cond.code yX10_split cX10_split 6 (some (.object "MatchTrees$Groups")) ∈ lw_tbl := sub_tables_1_5 _ (List.mem_of_getElem? (i := 38) rfl)
set_option maxRecDepth 20000 in
theorem mc_217 : Cond.code yX2_addParts cX2_addParts 4 none ∈ lw_tbl := sub_tables_1_5 _ (List.mem_of_getElem? (i := 43) rfl)
set_option maxRecDepth 20000 in
theorem mc_218 : Cond.code yX10_nodesIn cX10_nodesIn 2 (some .int) ∈ lw_tbl := sub_tables_1_5 _ (List.mem_of_getElem? (i := 47) rfl)
set_option maxRecDepth 20000 in
theorem mc_219 : Cond.code yX10_testsIn cX10_testsIn 2 (some .int) ∈ lw_tbl := sub_tables_1_5 _ (List.mem_of_getElem? (i := 51) rfl)
set_option maxRecDepth 20000 in
theorem mc_220 : Cond.code yX10_longestIn cX10_longestIn 2 (some .int) ∈ lw_tbl := sub_tables_1_5 _ (List.mem_of_getElem? (i := 55) rfl)
set_option maxRecDepth 20000 in
theorem mc_221 : Cond.code yX12_tree cX12_tree 5 (some .int) ∈ lw_tbl := sub_tables_1_8 _ (List.mem_of_getElem? (i := 188) rfl)
set_option maxRecDepth 20000 in
theorem mc_222 : Cond.code yX12_plants cX12_plants 3 none ∈ lw_tbl := sub_tables_1_8 _ (List.mem_of_getElem? (i := 192) rfl)
set_option maxRecDepth 20000 in
theorem mc_223 : Cond.code yX12_allTests cX12_allTests 5 (some .int) ∈ lw_tbl := sub_tables_1_8 _ (List.mem_of_getElem? (i := 196) rfl)
set_option maxRecDepth 20000 in
theorem mc_224 : Cond.code yX12_testsFor cX12_testsFor 6 (some .int) ∈ lw_tbl := sub_tables_1_8 _ (List.mem_of_getElem? (i := 200) rfl)
set_option maxRecDepth 20000 in
theorem mc_225 : Cond.code yX12_root cX12_root 1 (some .int) ∈ lw_tbl := sub_tables_1_8 _ (List.mem_of_getElem? (i := 204) rfl)
set_option maxRecDepth 20000 in
theorem mc_226 : Cond.code yX12_leftOf cX12_leftOf 2 (some .int) ∈ lw_tbl := sub_tables_1_8 _ (List.mem_of_getElem? (i := 207) rfl)
set_option maxRecDepth 20000 in
theorem mc_227 : Cond.code yX12_armsIn cX12_armsIn 1 (some .int) ∈ lw_tbl := sub_tables_1_8 _ (List.mem_of_getElem? (i := 210) rfl)
set_option maxRecDepth 20000 in
theorem mc_228 : Cond.code yX12_asksFor cX12_asksFor 8 (some .int) ∈ lw_tbl := sub_tables_1_8 _ (List.mem_of_getElem? (i := 214) rfl)
set_option maxRecDepth 20000 in
theorem mc_229 : Cond.code yX12_columnsIn cX12_columnsIn 1 (some .int) ∈ lw_tbl := sub_tables_1_8 _ (List.mem_of_getElem? (i := 217) rfl)
set_option maxRecDepth 20000 in
theorem mc_230 : Cond.code yX12_worthOf cX12_worthOf 7 (some .int) ∈ lw_tbl := sub_tables_1_8 _ (List.mem_of_getElem? (i := 221) rfl)
set_option maxRecDepth 20000 in
theorem mc_231 : Cond.code yX12_bitsOf cX12_bitsOf 3 (some .int) ∈ lw_tbl := sub_tables_1_8 _ (List.mem_of_getElem? (i := 224) rfl)
set_option maxRecDepth 20000 in
theorem mc_232 : Cond.code yX12_throughDoor cX12_throughDoor 1 (some .int) ∈ lw_tbl := sub_tables_1_8 _ (List.mem_of_getElem? (i := 227) rfl)
set_option maxRecDepth 20000 in
theorem mc_233 : Cond.code yX12_branchOf cX12_branchOf 4 (some .int) ∈ lw_tbl := sub_tables_1_8 _ (List.mem_of_getElem? (i := 231) rfl)
set_option maxRecDepth 20000 in
theorem mc_234 : Cond.code yX12_grows cX12_grows 5 none ∈ lw_tbl := sub_tables_1_8 _ (List.mem_of_getElem? (i := 235) rfl)
set_option maxRecDepth 20000 in
theorem mc_235 : Cond.code yX12_reaches cX12_reaches 2 none ∈ lw_tbl := sub_tables_1_8 _ (List.mem_of_getElem? (i := 239) rfl)
set_option maxRecDepth 20000 in
theorem mc_236 : Cond.code yX12_isDoor cX12_isDoor 2 (some .boolean) ∈ lw_tbl := sub_tables_1_9 _ (List.mem_of_getElem? (i := 3) rfl)
set_option maxRecDepth 20000 in
theorem mc_237 : Cond.code yX12_sizeOf cX12_sizeOf 1 (some .int) ∈ lw_tbl := sub_tables_1_9 _ (List.mem_of_getElem? (i := 6) rfl)
set_option maxRecDepth 20000 in
theorem mc_238 : Cond.code yX12_weighs cX12_weighs 8 none ∈ lw_tbl := sub_tables_1_9 _ (List.mem_of_getElem? (i := 10) rfl)
set_option maxRecDepth 20000 in
theorem mc_239 : Cond.code yX11_first cX11_first 2 (some .int) ∈ lw_tbl := sub_tables_1_5 _ (List.mem_of_getElem? (i := 63) rfl)
set_option maxRecDepth 20000 in
theorem mc_240 : Cond.code yX10_firstColumn cX10_firstColumn 7 (some .int) ∈ lw_tbl := sub_tables_1_5 _ (List.mem_of_getElem? (i := 67) rfl)
set_option maxRecDepth 20000 in
theorem mc_241 : Cond.code yX12_first cX12_first 4 (some .int) ∈ lw_tbl := sub_tables_1_9 _ (List.mem_of_getElem? (i := 15) rfl)
set_option maxRecDepth 20000 in
theorem mc_242 : Cond.code yX11_scopes cX11_scopes 4 (some .int) ∈ lw_tbl := sub_tables_1_5 _ (List.mem_of_getElem? (i := 71) rfl)
set_option maxRecDepth 20000 in
theorem mc_243 : Cond.code yX10_buildAll cX10_buildAll 3 none ∈ lw_tbl := sub_tables_1_5 _ (List.mem_of_getElem? (i := 75) rfl)
set_option maxRecDepth 20000 in
theorem mc_244 : Cond.code yX10_build cX10_build 10 none ∈ lw_tbl := sub_tables_1_5 _ (List.mem_of_getElem? (i := 78) rfl)
set_option maxRecDepth 20000 in
theorem mc_245 : Cond.code yX10_openScope cX10_openScope 1 none ∈ lw_tbl := sub_tables_1_5 _ (List.mem_of_getElem? (i := 82) rfl)
set_option maxRecDepth 20000 in
theorem mc_246 : Cond.code yX10_shutScope cX10_shutScope 2 none ∈ lw_tbl := sub_tables_1_5 _ (List.mem_of_getElem? (i := 86) rfl)
set_option maxRecDepth 20000 in
theorem mc_247 : Cond.code yX10_scopeShutAs cX10_scopeShutAs 2 (some .int) ∈ lw_tbl := sub_tables_1_5 _ (List.mem_of_getElem? (i := 90) rfl)
set_option maxRecDepth 20000 in
theorem mc_248 : Cond.code yX12_scopes cX12_scopes 4 (some .int) ∈ lw_tbl := sub_tables_1_9 _ (List.mem_of_getElem? (i := 19) rfl)
set_option maxRecDepth 20000 in
theorem mc_249 : Cond.code yX12_builds cX12_builds 3 none ∈ lw_tbl := sub_tables_1_9 _ (List.mem_of_getElem? (i := 23) rfl)
set_option maxRecDepth 20000 in
theorem mc_250 : Cond.code yX12_opensScope cX12_opensScope 3 none ∈ lw_tbl := sub_tables_1_9 _ (List.mem_of_getElem? (i := 27) rfl)
set_option maxRecDepth 20000 in
theorem mc_251 : Cond.code yX12_nextBranch cX12_nextBranch 5 (some .int) ∈ lw_tbl := sub_tables_1_9 _ (List.mem_of_getElem? (i := 31) rfl)
set_option maxRecDepth 20000 in
theorem mc_252 : Cond.code yX12_isNewSet cX12_isNewSet 5 (some .boolean) ∈ lw_tbl := sub_tables_1_9 _ (List.mem_of_getElem? (i := 35) rfl)
set_option maxRecDepth 20000 in
theorem mc_253 : Cond.code yX11_safe cX11_safe 3 (some .int) ∈ lw_tbl := sub_tables_1_5 _ (List.mem_of_getElem? (i := 94) rfl)
set_option maxRecDepth 20000 in
theorem mc_254 : Cond.code yX5_copy cX5_copy 3 none ∈ lw_tbl := sub_tables_1_5 _ (List.mem_of_getElem? (i := 99) rfl)
set_option maxRecDepth 20000 in
theorem mc_255 : Cond.code yX5_exchange cX5_exchange 4 none ∈ lw_tbl := sub_tables_1_5 _ (List.mem_of_getElem? (i := 103) rfl)
set_option maxRecDepth 20000 in
theorem mc_256 : Cond.code yX11_trialTakesAlike cX11_trialTakesAlike 3 (some .boolean) ∈ lw_tbl := sub_tables_1_5 _ (List.mem_of_getElem? (i := 107) rfl)
set_option maxRecDepth 20000 in
theorem mc_257 : Cond.code yX5_takings cX5_takings 9 (some .long) ∈ lw_tbl := sub_tables_1_5 _ (List.mem_of_getElem? (i := 111) rfl)
set_option maxRecDepth 20000 in
theorem mc_258 : Cond.code yX12_safe cX12_safe 3 (some .int) ∈ lw_tbl := sub_tables_1_9 _ (List.mem_of_getElem? (i := 39) rfl)
set_option maxRecDepth 20000 in
theorem mc_259 : Cond.code yX12_isSafe cX12_isSafe 8 (some .boolean) ∈ lw_tbl := sub_tables_1_9 _ (List.mem_of_getElem? (i := 43) rfl)
set_option maxRecDepth 20000 in
theorem mc_260 : Cond.code yX12_swapped cX12_swapped 3 (some .int) ∈ lw_tbl := sub_tables_1_9 _ (List.mem_of_getElem? (i := 46) rfl)
set_option maxRecDepth 20000 in
theorem mc_261 : Cond.code yX12_moved cX12_moved 3 (some .int) ∈ lw_tbl := sub_tables_1_9 _ (List.mem_of_getElem? (i := 49) rfl)
set_option maxRecDepth 20000 in
theorem mc_262 : Cond.code yX11_best cX11_best 6 (some .int) ∈ lw_tbl := sub_tables_1_5 _ (List.mem_of_getElem? (i := 116) rfl)
set_option maxRecDepth 20000 in
theorem mc_263 : Cond.code yX11_allTests cX11_allTests 2 (some .int) ∈ lw_tbl := sub_tables_1_5 _ (List.mem_of_getElem? (i := 120) rfl)
set_option maxRecDepth 20000 in
theorem mc_264 : Cond.code yX12_best cX12_best 6 (some .int) ∈ lw_tbl := sub_tables_1_9 _ (List.mem_of_getElem? (i := 53) rfl)
set_option maxRecDepth 20000 in
theorem mc_265 : Cond.code yX12_copies cX12_copies 4 none ∈ lw_tbl := sub_tables_1_8 _ (List.mem_of_getElem? (i := 53) rfl)
set_option maxRecDepth 20000 in
theorem mc_266 : Cond.code yX12_exchanges cX12_exchanges 5 none ∈ lw_tbl := sub_tables_1_9 _ (List.mem_of_getElem? (i := 57) rfl)
set_option maxRecDepth 20000 in
theorem mc_267 : Cond.code yX11_see cX11_see 2 (some .int) ∈ lw_tbl := sub_tables_1_5 _ (List.mem_of_getElem? (i := 124) rfl)
set_option maxRecDepth 20000 in
theorem mc_268 : Cond.code yX8_read cX8_read 7 (some .boolean) ∈ lw_tbl := sub_tables_1_5 _ (List.mem_of_getElem? (i := 128) rfl)
set_option maxRecDepth 20000 in
theorem mc_269 : Cond.code yX8_rowOn cX8_rowOn 2 (some .int) ∈ lw_tbl := sub_tables_1_5 _ (List.mem_of_getElem? (i := 132) rfl)
set_option maxRecDepth 20000 in
theorem mc_270 : Cond.code yX12_see cX12_see 4 (some .int) ∈ lw_tbl := sub_tables_1_9 _ (List.mem_of_getElem? (i := 61) rfl)
set_option maxRecDepth 20000 in
theorem mc_271 : Cond.code yX11_sets cX11_sets 2 (some .int) ∈ lw_tbl := sub_tables_1_5 _ (List.mem_of_getElem? (i := 139) rfl)
set_option maxRecDepth 20000 in
theorem mc_272 : Cond.code yX8_findSets cX8_findSets 4 none ∈ lw_tbl := sub_tables_1_5 _ (List.mem_of_getElem? (i := 143) rfl)
set_option maxRecDepth 20000 in
theorem mc_273 : Cond.code yX8_agrees cX8_agrees 6 (some .boolean) ∈ lw_tbl := sub_tables_1_5 _ (List.mem_of_getElem? (i := 147) rfl)
set_option maxRecDepth 20000 in
theorem mc_274 : Cond.code yX12_sets cX12_sets 5 (some .int) ∈ lw_tbl := sub_tables_1_9 _ (List.mem_of_getElem? (i := 65) rfl)
set_option maxRecDepth 20000 in
theorem mc_275 : Cond.code yX12_leaves cX12_leaves 5 (some .int) ∈ lw_tbl := sub_tables_1_9 _ (List.mem_of_getElem? (i := 69) rfl)
set_option maxRecDepth 20000 in
theorem mc_276 : Cond.code yX11_tells cX11_tells 7 (some .int) ∈ lw_tbl := sub_tables_1_5 _ (List.mem_of_getElem? (i := 153) rfl)
set_option maxRecDepth 20000 in
theorem mc_277 : Cond.code yX8_mostLeft cX8_mostLeft 7 (some .int) ∈ lw_tbl := sub_tables_1_5 _ (List.mem_of_getElem? (i := 159) rfl)
set_option maxRecDepth 20000 in
theorem mc_278 : Cond.code yX12_tells cX12_tells 7 (some .int) ∈ lw_tbl := sub_tables_1_9 _ (List.mem_of_getElem? (i := 73) rfl)
set_option maxRecDepth 20000 in
theorem mc_279 : Cond.code yX12_mostBy cX12_mostBy 6 (some .int) ∈ lw_tbl := sub_tables_1_9 _ (List.mem_of_getElem? (i := 78) rfl)
set_option maxRecDepth 20000 in
theorem mc_280 : Cond.code yX11_run cX11_run 2 (some .int) ∈ lw_tbl := sub_tables_1_5 _ (List.mem_of_getElem? (i := 164) rfl)
set_option maxRecDepth 20000 in
theorem mc_281 : Cond.code yX11_remember cX11_remember 1 none ∈ lw_tbl := sub_tables_1_5 _ (List.mem_of_getElem? (i := 168) rfl)
set_option maxRecDepth 20000 in
theorem mc_282 : Cond.code yX0_remember cX0_remember 3 none ∈ lw_tbl := sub_tables_1_5 _ (List.mem_of_getElem? (i := 172) rfl)
set_option maxRecDepth 20000 in
theorem mc_283 : Cond.code yJ9_floorMod_7cf53 cJ9_floorMod_7cf53 3 (some .int) ∈ lw_tbl := sub_tables_1_5 _ (List.mem_of_getElem? (i := 175) rfl)
set_option maxRecDepth 20000 in
theorem mc_284 : Cond.code yX11_runRow cX11_runRow 3 (some .int) ∈ lw_tbl := sub_tables_1_5 _ (List.mem_of_getElem? (i := 180) rfl)
set_option maxRecDepth 20000 in
theorem mc_285 : Cond.code yX10_columnsAsked cX10_columnsAsked 10 (some .int) ∈ lw_tbl := sub_tables_1_5 _ (List.mem_of_getElem? (i := 184) rfl)
set_option maxRecDepth 20000 in
theorem mc_286 : Cond.code yX0_keep cX0_keep 5 none ∈ lw_tbl := sub_tables_1_5 _ (List.mem_of_getElem? (i := 189) rfl)
set_option maxRecDepth 20000 in
theorem mc_287 : Cond.code yX12_run cX12_run 2 (some .int) ∈ lw_tbl := sub_tables_1_9 _ (List.mem_of_getElem? (i := 82) rfl)
set_option maxRecDepth 20000 in
theorem mc_288 : Cond.code yX12_keeps cX12_keeps 1 none ∈ lw_tbl := sub_tables_1_9 _ (List.mem_of_getElem? (i := 86) rfl)
set_option maxRecDepth 20000 in
theorem mc_289 : Cond.code yX12_slot cX12_slot 2 (some .int) ∈ lw_tbl := sub_tables_1_8 _ (List.mem_of_getElem? (i := 49) rfl)
set_option maxRecDepth 20000 in
theorem mc_290 : Cond.code yX12_runs cX12_runs 6 (some .int) ∈ lw_tbl := sub_tables_1_9 _ (List.mem_of_getElem? (i := 90) rfl)
set_option maxRecDepth 20000 in
theorem mc_291 : Cond.code yX11_chance cX11_chance 4 (some .int) ∈ lw_tbl := sub_tables_1_5 _ (List.mem_of_getElem? (i := 193) rfl)
set_option maxRecDepth 20000 in
theorem mc_292 : Cond.code yX11_draw cX11_draw 2 (some .int) ∈ lw_tbl := sub_tables_1_5 _ (List.mem_of_getElem? (i := 197) rfl)
set_option maxRecDepth 20000 in
theorem mc_293 : Cond.code yX12_chance cX12_chance 4 (some .int) ∈ lw_tbl := sub_tables_1_9 _ (List.mem_of_getElem? (i := 94) rfl)
set_option maxRecDepth 20000 in
theorem mc_294 : Cond.code yX12_draw cX12_draw 2 (some .int) ∈ lw_tbl := sub_tables_1_9 _ (List.mem_of_getElem? (i := 98) rfl)
set_option maxRecDepth 20000 in
theorem mc_295 : Cond.code yX11_swap cX11_swap 3 (some .boolean) ∈ lw_tbl := sub_tables_1_5 _ (List.mem_of_getElem? (i := 203) rfl)
set_option maxRecDepth 20000 in
theorem mc_296 : Cond.code yX12_swap cX12_swap 3 (some .boolean) ∈ lw_tbl := sub_tables_1_9 _ (List.mem_of_getElem? (i := 106) rfl)
set_option maxRecDepth 20000 in
theorem mc_297 : Cond.code yX11_drop cX11_drop 2 (some .boolean) ∈ lw_tbl := sub_tables_1_5 _ (List.mem_of_getElem? (i := 207) rfl)
set_option maxRecDepth 20000 in
theorem mc_298 : Cond.code yX5_takeOut cX5_takeOut 3 none ∈ lw_tbl := sub_tables_1_5 _ (List.mem_of_getElem? (i := 211) rfl)
set_option maxRecDepth 20000 in
theorem mc_299 : Cond.code yX12_drop cX12_drop 3 (some .boolean) ∈ lw_tbl := sub_tables_1_9 _ (List.mem_of_getElem? (i := 110) rfl)
set_option maxRecDepth 20000 in
theorem mc_300 : Cond.code yX11_turn cX11_turn 2 (some .int) ∈ lw_tbl := sub_tables_1_5 _ (List.mem_of_getElem? (i := 215) rfl)
set_option maxRecDepth 20000 in
theorem mc_301 : Cond.code yX12_turn cX12_turn 2 (some .int) ∈ lw_tbl := sub_tables_1_9 _ (List.mem_of_getElem? (i := 114) rfl)
set_option maxRecDepth 20000 in
theorem mc_302 : Cond.code yX11_choose cX11_choose 2 (some .boolean) ∈ lw_tbl := sub_tables_1_5 _ (List.mem_of_getElem? (i := 219) rfl)
set_option maxRecDepth 20000 in
theorem mc_303 : Cond.code yX12_choose cX12_choose 2 (some .boolean) ∈ lw_tbl := sub_tables_1_9 _ (List.mem_of_getElem? (i := 118) rfl)
set_option maxRecDepth 20000 in
theorem mc_304 : Cond.code yX11_undo cX11_undo 1 (some .boolean) ∈ lw_tbl := sub_tables_1_5 _ (List.mem_of_getElem? (i := 223) rfl)
set_option maxRecDepth 20000 in
theorem mc_305 : Cond.code yX0_takeBack cX0_takeBack 3 none ∈ lw_tbl := sub_tables_1_5 _ (List.mem_of_getElem? (i := 227) rfl)
set_option maxRecDepth 20000 in
theorem mc_306 : Cond.code yX12_undo cX12_undo 1 (some .boolean) ∈ lw_tbl := sub_tables_1_8 _ (List.mem_of_getElem? (i := 45) rfl)
set_option maxRecDepth 20000 in
theorem mc_307 : Cond.code yX11_seed cX11_seed 2 (some .boolean) ∈ lw_tbl := sub_tables_1_5 _ (List.mem_of_getElem? (i := 232) rfl)
set_option maxRecDepth 20000 in
theorem mc_308 : Cond.code yX12_seed cX12_seed 2 (some .boolean) ∈ lw_tbl := sub_tables_1_9 _ (List.mem_of_getElem? (i := 122) rfl)
set_option maxRecDepth 20000 in
theorem mc_309 : Cond.code yX11_kept cX11_kept 3 (some .int) ∈ lw_tbl := sub_tables_1_5 _ (List.mem_of_getElem? (i := 236) rfl)
set_option maxRecDepth 20000 in
theorem mc_310 : Cond.code yX0_tellKept cX0_tellKept 4 (some .int) ∈ lw_tbl := sub_tables_1_6 _ (List.mem_of_getElem? (i := 0) rfl)
set_option maxRecDepth 20000 in
theorem mc_311 : Cond.code yX12_kept cX12_kept 3 (some .int) ∈ lw_tbl := sub_tables_1_9 _ (List.mem_of_getElem? (i := 126) rfl)
set_option maxRecDepth 20000 in
theorem mc_312 : Cond.code yX11_image cX11_image 2 (some .int) ∈ lw_tbl := sub_tables_1_6 _ (List.mem_of_getElem? (i := 5) rfl)
set_option maxRecDepth 20000 in
theorem mc_313 : Cond.code yX1_checkByte cX1_checkByte 4 (some .int) ∈ lw_tbl := sub_tables_1_6 _ (List.mem_of_getElem? (i := 9) rfl)
set_option maxRecDepth 20000 in
theorem mc_314 : Cond.code yX12_image cX12_image 3 (some .int) ∈ lw_tbl := sub_tables_1_9 _ (List.mem_of_getElem? (i := 130) rfl)
set_option maxRecDepth 20000 in
theorem mc_315 : Cond.code yX11_on cX11_on 2 (some .boolean) ∈ lw_tbl := sub_tables_1_6 _ (List.mem_of_getElem? (i := 13) rfl)
set_option maxRecDepth 20000 in
theorem mc_316 : Cond.code yX11_isImage cX11_isImage 5 (some .boolean) ∈ lw_tbl := sub_tables_1_6 _ (List.mem_of_getElem? (i := 17) rfl)
set_option maxRecDepth 20000 in
theorem mc_317 : Cond.code yX11_takeImage cX11_takeImage 3 none ∈ lw_tbl := sub_tables_1_6 _ (List.mem_of_getElem? (i := 21) rfl)
set_option maxRecDepth 20000 in
theorem mc_318 : Cond.code yX12_on cX12_on 2 (some .boolean) ∈ lw_tbl := sub_tables_1_9 _ (List.mem_of_getElem? (i := 134) rfl)
set_option maxRecDepth 20000 in
theorem mc_319 : Cond.code yX12_comesOn cX12_comesOn 6 (some .boolean) ∈ lw_tbl := sub_tables_1_9 _ (List.mem_of_getElem? (i := 138) rfl)
set_option maxRecDepth 20000 in
theorem mc_320 : Cond.code yX11_status cX11_status 2 (some .int) ∈ lw_tbl := sub_tables_1_6 _ (List.mem_of_getElem? (i := 27) rfl)
set_option maxRecDepth 20000 in
theorem mc_321 : Cond.code yX12_status cX12_status 2 (some .int) ∈ lw_tbl := sub_tables_1_8 _ (List.mem_of_getElem? (i := 41) rfl)
set_option maxRecDepth 20000 in
theorem inX0 : ∀ w ∈ wsX00, w ∈ lw_tbl := fun w h => (goodIn_q (by decide) [266, 268, 270, 272, 274, 276, 278, 280] (by decide +kernel) (by decide +kernel) w h).1
set_option maxRecDepth 20000 in
theorem inst_0 : Cond.instantiable RX0 8 ∈ lw_tbl := List.mem_of_getElem? (i := 249) (by decide +kernel)
set_option maxRecDepth 20000 in
theorem inX1 : ∀ w ∈ wsX10, w ∈ lw_tbl := fun w h => (goodIn_q (by decide) [172, 174] (by decide +kernel) (by decide +kernel) w h).1
set_option maxRecDepth 20000 in
theorem inst_1 : Cond.instantiable RX1 2 ∈ lw_tbl := List.mem_of_getElem? (i := 158) (by decide +kernel)
set_option maxRecDepth 20000 in
theorem inX2 : ∀ w ∈ wsX20, w ∈ lw_tbl := fun w h => (goodIn_q (by decide) [212, 214, 216, 218] (by decide +kernel) (by decide +kernel) w h).1
set_option maxRecDepth 20000 in
theorem inst_2 : Cond.instantiable RX2 4 ∈ lw_tbl := List.mem_of_getElem? (i := 196) (by decide +kernel)
set_option maxRecDepth 20000 in
theorem inX3 : ∀ w ∈ wsX30, w ∈ lw_tbl := fun w h => (goodIn_q (by decide) [347, 349, 351, 353, 355, 357, 359, 361, 363, 365, 367] (by decide +kernel) (by decide +kernel) w h).1
set_option maxRecDepth 20000 in
theorem inst_3 : Cond.instantiable RX3 11 ∈ lw_tbl := List.mem_of_getElem? (i := 318) (by decide +kernel)
set_option maxRecDepth 20000 in
theorem inX4 : ∀ w ∈ wsX40, w ∈ lw_tbl := fun w h => (goodIn_q (by decide) [188, 190, 192] (by decide +kernel) (by decide +kernel) w h).1
set_option maxRecDepth 20000 in
theorem inst_4 : Cond.instantiable RX4 3 ∈ lw_tbl := List.mem_of_getElem? (i := 179) (by decide +kernel)
set_option maxRecDepth 20000 in
theorem inX5 : ∀ w ∈ wsX50, w ∈ lw_tbl := fun w h => (goodIn_q (by decide) [239, 241, 243, 245] (by decide +kernel) (by decide +kernel) w h).1
set_option maxRecDepth 20000 in
theorem inst_5 : Cond.instantiable RX5 4 ∈ lw_tbl := List.mem_of_getElem? (i := 222) (by decide +kernel)
set_option maxRecDepth 20000 in
theorem inX6 : ∀ w ∈ wsX60, w ∈ lw_tbl := fun w h => (goodIn_q (by decide) [540, 542, 544, 546, 548] (by decide +kernel) (by decide +kernel) w h).1
set_option maxRecDepth 20000 in
theorem inst_6 : Cond.instantiable RX6 5 ∈ lw_tbl := List.mem_of_getElem? (i := 425) (by decide +kernel)
set_option maxRecDepth 20000 in
theorem inX7 : ∀ w ∈ wsX70, w ∈ lw_tbl := fun w h => (goodIn_q (by decide) [512, 514, 516, 518, 520, 522, 524, 526, 528] (by decide +kernel) (by decide +kernel) w h).1
set_option maxRecDepth 20000 in
theorem inst_7 : Cond.instantiable RX7 9 ∈ lw_tbl := List.mem_of_getElem? (i := 431) (by decide +kernel)
set_option maxRecDepth 20000 in
theorem inX8 : ∀ w ∈ wsX80, w ∈ lw_tbl := fun w h => (goodIn_q (by decide) [298, 300, 302, 304, 306, 308] (by decide +kernel) (by decide +kernel) w h).1
set_option maxRecDepth 20000 in
theorem inst_8 : Cond.instantiable RX8 6 ∈ lw_tbl := List.mem_of_getElem? (i := 284) (by decide +kernel)
set_option maxRecDepth 20000 in
theorem inX9 : ∀ w ∈ wsX90, w ∈ lw_tbl := fun w h => (goodIn_q (by decide) [401, 403, 405, 407, 409, 411, 413, 415, 417, 419, 421] (by decide +kernel) (by decide +kernel) w h).1
set_option maxRecDepth 20000 in
theorem inst_9 : Cond.instantiable RX9 11 ∈ lw_tbl := List.mem_of_getElem? (i := 312) (by decide +kernel)
set_option maxRecDepth 20000 in
theorem inX10 : ∀ w ∈ wsX100, w ∈ lw_tbl := fun w h => (goodIn_q (by decide) [581, 583, 585, 587, 589, 591, 593, 595, 597, 599, 601, 603, 605, 607, 609] (by decide +kernel) (by decide +kernel) w h).1
set_option maxRecDepth 20000 in
theorem inst_10 : Cond.instantiable RX10 15 ∈ lw_tbl := List.mem_of_getElem? (i := 552) (by decide +kernel)
set_option maxRecDepth 20000 in
theorem inX11 : ∀ w ∈ wsX110, w ∈ lw_tbl := fun w h => (goodIn_q (by decide) [628, 630, 632, 634, 636, 638, 640, 642, 644, 646, 648, 650, 652, 654, 656] (by decide +kernel) (by decide +kernel) w h).1
set_option maxRecDepth 20000 in
theorem inst_11 : Cond.instantiable RX11 15 ∈ lw_tbl := List.mem_of_getElem? (i := 150) (by decide +kernel)
set_option maxRecDepth 20000 in
theorem inX12 : ∀ w ∈ wsX120, w ∈ lw_tbl := fun w h => (goodIn_q (by decide) [1466, 1468, 1470, 1472, 1474, 1476, 1478, 1480, 1482, 1484, 1486, 1488, 1490, 1492, 1494, 1496, 1498, 1500, 1502, 1504, 1506, 1508, 1510, 1512, 1514, 1516, 1518, 1520, 1522, 1524, 1526, 1528, 1530, 1532, 1534, 1536, 1538, 1540, 1542, 1544, 1546, 1548, 1550, 1552, 1554, 1556, 1558, 1560, 1562, 1564, 1566, 1568, 1570, 1572, 1574, 1576, 1578, 1580, 1582, 1584, 1586, 1588, 1590, 1592, 1594, 1596, 1598, 1600, 1602, 1604, 1606, 1608, 1610, 1612, 1614, 1616, 1618, 1620, 1622, 1624, 1626, 1628, 1630, 1632, 1634, 1636, 1638, 1640, 1642, 1644, 1646, 1648, 1650, 1652, 1654, 1656, 1658, 1660] (by decide +kernel) (by decide +kernel) w h).1
set_option maxRecDepth 20000 in
theorem inst_12 : Cond.instantiable RX12 98 ∈ lw_tbl := List.mem_of_getElem? (i := 1358) (by decide +kernel)
