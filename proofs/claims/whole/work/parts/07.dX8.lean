theorem d_X8_init_0 : Dc M_X8_init 0 (.aload_n 0) 1 1 := ⟨by decide +kernel, rfl⟩
theorem d_X8_init_1 : OI M_X8_init 1 4 := ⟨1, ⟨by decide +kernel, rfl⟩, inT (List.mem_append_left _ (List.mem_of_getElem? (l := tables_1_1) (i := 17) (by decide +kernel)))⟩
theorem d_X8_init_4 : NW M_X8_init 4 3 7 := ⟨7, ⟨by decide +kernel, rfl⟩, by decide, inT (List.mem_append_left _ (List.mem_of_getElem? (l := tables_1_1) (i := 20) (by decide +kernel))), inT (List.mem_append_left _ (List.mem_of_getElem? (l := tables_1_1) (i := 21) (by decide +kernel))), inT (List.mem_append_left _ (List.mem_of_getElem? (l := tables_1_1) (i := 2) (by decide +kernel)))⟩
theorem d_X8_init_7 : Dc M_X8_init 7 (.dup) 1 8 := ⟨by decide +kernel, rfl⟩
theorem d_X8_init_8 : CI M_X8_init 8 M_X3_init 0 11 := ⟨9, ⟨by decide +kernel, rfl⟩, Or.inr (inT (List.mem_append_left _ (List.mem_of_getElem? (l := tables_1_1) (i := 22) (by decide +kernel)))), mf_X3_init, mi_X3_init, by rfl, rfl, ⟨by decide, by decide⟩⟩
theorem d_X8_init_11 : Dc M_X8_init 11 (.astore_n 1) 1 12 := ⟨by decide +kernel, rfl⟩
theorem d_X8_init_12 : NW M_X8_init 12 4 15 := ⟨10, ⟨by decide +kernel, rfl⟩, by decide, inT (List.mem_append_left _ (List.mem_of_getElem? (l := tables_1_1) (i := 45) (by decide +kernel))), inT (List.mem_append_left _ (List.mem_of_getElem? (l := tables_1_1) (i := 46) (by decide +kernel))), inT (List.mem_append_left _ (List.mem_of_getElem? (l := tables_1_1) (i := 3) (by decide +kernel)))⟩
theorem d_X8_init_15 : Dc M_X8_init 15 (.dup) 1 16 := ⟨by decide +kernel, rfl⟩
theorem d_X8_init_16 : CI M_X8_init 16 M_X4_init 0 19 := ⟨12, ⟨by decide +kernel, rfl⟩, Or.inr (inT (List.mem_append_left _ (List.mem_of_getElem? (l := tables_1_1) (i := 47) (by decide +kernel)))), mf_X4_init, mi_X4_init, by rfl, rfl, ⟨by decide, by decide⟩⟩
theorem d_X8_init_19 : Dc M_X8_init 19 (.astore_n 2) 1 20 := ⟨by decide +kernel, rfl⟩
theorem d_X8_init_20 : NW M_X8_init 20 7 23 := ⟨13, ⟨by decide +kernel, rfl⟩, by decide, inT (List.mem_append_left _ (List.mem_of_getElem? (l := tables_1_1) (i := 81) (by decide +kernel))), inT (List.mem_append_left _ (List.mem_of_getElem? (l := tables_1_1) (i := 82) (by decide +kernel))), inT (List.mem_append_left _ (List.mem_of_getElem? (l := tables_1_1) (i := 4) (by decide +kernel)))⟩
theorem d_X8_init_23 : Dc M_X8_init 23 (.dup) 1 24 := ⟨by decide +kernel, rfl⟩
theorem d_X8_init_24 : Dc M_X8_init 24 (.aload_n 1) 1 25 := ⟨by decide +kernel, rfl⟩
theorem d_X8_init_25 : Dc M_X8_init 25 (.aload_n 2) 1 26 := ⟨by decide +kernel, rfl⟩
theorem d_X8_init_26 : CI M_X8_init 26 M_X7_init 2 29 := ⟨15, ⟨by decide +kernel, rfl⟩, Or.inr (inT (List.mem_append_left _ (List.mem_of_getElem? (l := tables_1_1) (i := 83) (by decide +kernel)))), mf_X7_init, mi_X7_init, by rfl, rfl, ⟨by decide, by decide⟩⟩
theorem d_X8_init_29 : Dc M_X8_init 29 (.astore_n 3) 1 30 := ⟨by decide +kernel, rfl⟩
theorem d_X8_init_30 : Dc M_X8_init 30 (.aload_n 0) 1 31 := ⟨by decide +kernel, rfl⟩
theorem d_X8_init_31 : Dc M_X8_init 31 (.aload_n 1) 1 32 := ⟨by decide +kernel, rfl⟩
theorem d_X8_init_32 : PF M_X8_init 32 8 0 35 := ⟨18, ⟨by decide +kernel, rfl⟩, ⟨by decide, by decide⟩, inT (List.mem_append_left _ (List.mem_of_getElem? (l := tables_1_1) (i := 208) (by decide +kernel)))⟩
theorem d_X8_init_35 : Dc M_X8_init 35 (.aload_n 0) 1 36 := ⟨by decide +kernel, rfl⟩
theorem d_X8_init_36 : Dc M_X8_init 36 (.aload_n 2) 1 37 := ⟨by decide +kernel, rfl⟩
theorem d_X8_init_37 : PF M_X8_init 37 8 1 40 := ⟨24, ⟨by decide +kernel, rfl⟩, ⟨by decide, by decide⟩, inT (List.mem_append_left _ (List.mem_of_getElem? (l := tables_1_1) (i := 209) (by decide +kernel)))⟩
theorem d_X8_init_40 : Dc M_X8_init 40 (.aload_n 0) 1 41 := ⟨by decide +kernel, rfl⟩
theorem d_X8_init_41 : Dc M_X8_init 41 (.aload_n 3) 1 42 := ⟨by decide +kernel, rfl⟩
theorem d_X8_init_42 : PF M_X8_init 42 8 2 45 := ⟨28, ⟨by decide +kernel, rfl⟩, ⟨by decide, by decide⟩, inT (List.mem_append_left _ (List.mem_of_getElem? (l := tables_1_1) (i := 210) (by decide +kernel)))⟩
theorem d_X8_init_45 : Dc M_X8_init 45 (.aload_n 0) 1 46 := ⟨by decide +kernel, rfl⟩
theorem d_X8_init_46 : NW M_X8_init 46 0 49 := ⟨32, ⟨by decide +kernel, rfl⟩, by decide, inT (List.mem_append_left _ (List.mem_of_getElem? (l := tables_1_1) (i := 94) (by decide +kernel))), inT (List.mem_append_left _ (List.mem_of_getElem? (l := tables_1_1) (i := 95) (by decide +kernel))), inT (List.mem_append_left _ (List.mem_of_getElem? (l := tables_1_1) (i := 5) (by decide +kernel)))⟩
theorem d_X8_init_49 : Dc M_X8_init 49 (.dup) 1 50 := ⟨by decide +kernel, rfl⟩
theorem d_X8_init_50 : Dc M_X8_init 50 (.aload_n 2) 1 51 := ⟨by decide +kernel, rfl⟩
theorem d_X8_init_51 : CI M_X8_init 51 M_X0_init 1 54 := ⟨34, ⟨by decide +kernel, rfl⟩, Or.inr (inT (List.mem_append_left _ (List.mem_of_getElem? (l := tables_1_1) (i := 96) (by decide +kernel)))), mf_X0_init, mi_X0_init, by rfl, rfl, ⟨by decide, by decide⟩⟩
theorem d_X8_init_54 : PF M_X8_init 54 8 3 57 := ⟨37, ⟨by decide +kernel, rfl⟩, ⟨by decide, by decide⟩, inT (List.mem_append_left _ (List.mem_of_getElem? (l := tables_1_1) (i := 211) (by decide +kernel)))⟩
theorem d_X8_init_57 : Dc M_X8_init 57 (.aload_n 0) 1 58 := ⟨by decide +kernel, rfl⟩
theorem d_X8_init_58 : NW M_X8_init 58 6 61 := ⟨41, ⟨by decide +kernel, rfl⟩, by decide, inT (List.mem_append_left _ (List.mem_of_getElem? (l := tables_1_1) (i := 126) (by decide +kernel))), inT (List.mem_append_left _ (List.mem_of_getElem? (l := tables_1_1) (i := 127) (by decide +kernel))), inT (List.mem_append_left _ (List.mem_of_getElem? (l := tables_1_1) (i := 7) (by decide +kernel)))⟩
theorem d_X8_init_61 : Dc M_X8_init 61 (.dup) 1 62 := ⟨by decide +kernel, rfl⟩
theorem d_X8_init_62 : Dc M_X8_init 62 (.aload_n 1) 1 63 := ⟨by decide +kernel, rfl⟩
theorem d_X8_init_63 : Dc M_X8_init 63 (.aload_n 3) 1 64 := ⟨by decide +kernel, rfl⟩
theorem d_X8_init_64 : CI M_X8_init 64 M_X6_init 2 67 := ⟨43, ⟨by decide +kernel, rfl⟩, Or.inr (inT (List.mem_append_left _ (List.mem_of_getElem? (l := tables_1_1) (i := 128) (by decide +kernel)))), mf_X6_init, mi_X6_init, by rfl, rfl, ⟨by decide, by decide⟩⟩
theorem d_X8_init_67 : PF M_X8_init 67 8 4 70 := ⟨46, ⟨by decide +kernel, rfl⟩, ⟨by decide, by decide⟩, inT (List.mem_append_left _ (List.mem_of_getElem? (l := tables_1_1) (i := 212) (by decide +kernel)))⟩
theorem d_X8_init_70 : Dc M_X8_init 70 (.aload_n 0) 1 71 := ⟨by decide +kernel, rfl⟩
theorem d_X8_init_71 : NW M_X8_init 71 1 74 := ⟨50, ⟨by decide +kernel, rfl⟩, by decide, inT (List.mem_append_left _ (List.mem_of_getElem? (l := tables_1_1) (i := 170) (by decide +kernel))), inT (List.mem_append_left _ (List.mem_of_getElem? (l := tables_1_1) (i := 171) (by decide +kernel))), inT (List.mem_append_left _ (List.mem_of_getElem? (l := tables_1_1) (i := 8) (by decide +kernel)))⟩
theorem d_X8_init_74 : Dc M_X8_init 74 (.dup) 1 75 := ⟨by decide +kernel, rfl⟩
theorem d_X8_init_75 : Dc M_X8_init 75 (.aload_n 2) 1 76 := ⟨by decide +kernel, rfl⟩
theorem d_X8_init_76 : CI M_X8_init 76 M_X1_init 1 79 := ⟨52, ⟨by decide +kernel, rfl⟩, Or.inr (inT (List.mem_append_left _ (List.mem_of_getElem? (l := tables_1_1) (i := 172) (by decide +kernel)))), mf_X1_init, mi_X1_init, by rfl, rfl, ⟨by decide, by decide⟩⟩
theorem d_X8_init_79 : PF M_X8_init 79 8 5 82 := ⟨53, ⟨by decide +kernel, rfl⟩, ⟨by decide, by decide⟩, inT (List.mem_append_left _ (List.mem_of_getElem? (l := tables_1_1) (i := 213) (by decide +kernel)))⟩
theorem d_X8_init_82 : Dc M_X8_init 82 (.aload_n 0) 1 83 := ⟨by decide +kernel, rfl⟩
theorem d_X8_init_83 : NW M_X8_init 83 5 86 := ⟨57, ⟨by decide +kernel, rfl⟩, by decide, inT (List.mem_append_left _ (List.mem_of_getElem? (l := tables_1_1) (i := 185) (by decide +kernel))), inT (List.mem_append_left _ (List.mem_of_getElem? (l := tables_1_1) (i := 186) (by decide +kernel))), inT (List.mem_append_left _ (List.mem_of_getElem? (l := tables_1_1) (i := 9) (by decide +kernel)))⟩
theorem d_X8_init_86 : Dc M_X8_init 86 (.dup) 1 87 := ⟨by decide +kernel, rfl⟩
theorem d_X8_init_87 : CI M_X8_init 87 M_X5_init 0 90 := ⟨59, ⟨by decide +kernel, rfl⟩, Or.inr (inT (List.mem_append_left _ (List.mem_of_getElem? (l := tables_1_1) (i := 187) (by decide +kernel)))), mf_X5_init, mi_X5_init, by rfl, rfl, ⟨by decide, by decide⟩⟩
theorem d_X8_init_90 : PF M_X8_init 90 8 6 93 := ⟨60, ⟨by decide +kernel, rfl⟩, ⟨by decide, by decide⟩, inT (List.mem_append_left _ (List.mem_of_getElem? (l := tables_1_1) (i := 214) (by decide +kernel)))⟩
theorem d_X8_init_93 : Dc M_X8_init 93 (.return_) 1 94 := ⟨by decide +kernel, rfl⟩
theorem d_X8_type_0 : Dc M_X8_type 0 (.iload_n 1) 1 1 := ⟨by decide +kernel, rfl⟩
theorem d_X8_type_1 : KI M_X8_type 1 (nI 0) 2 := Or.inl ⟨0, ⟨by decide +kernel, rfl⟩, by decide⟩
theorem d_X8_type_2 : KI M_X8_type 2 (nI 255) 5 := Or.inr (Or.inr ⟨255, ⟨by decide +kernel, rfl⟩, by decide⟩)
theorem d_X8_type_5 : CS M_X8_type 5 M_X8_within 3 8 := ⟨64, ⟨by decide +kernel, rfl⟩, Or.inl (inT (List.mem_append_left _ (List.mem_of_getElem? (l := tables_1_1) (i := 234) (by decide +kernel)))), mf_X8_within, ms_X8_within, ⟨by decide, by decide⟩⟩
theorem d_X8_type_8 : Db M_X8_type 8 .ne 14 11 := ⟨6, by decide +kernel, by decide, rfl⟩
theorem d_X8_type_11 : KI M_X8_type 11 (-2 : Int32) 13 := Or.inr (Or.inl ⟨(-2), ⟨by decide +kernel, rfl⟩, by decide⟩)
theorem d_X8_type_13 : Dc M_X8_type 13 (.ireturn) 1 14 := ⟨by decide +kernel, rfl⟩
theorem d_X8_type_14 : Dc M_X8_type 14 (.aload_n 0) 1 15 := ⟨by decide +kernel, rfl⟩
theorem d_X8_type_15 : GF M_X8_type 15 8 1 18 := ⟨24, ⟨by decide +kernel, rfl⟩, fl_X8_24⟩
theorem d_X8_type_18 : Dc M_X8_type 18 (.iload_n 1) 1 19 := ⟨by decide +kernel, rfl⟩
theorem d_X8_type_19 : CV M_X8_type 19 M_X4_add 1 22 := ⟨68, ⟨by decide +kernel, rfl⟩, Or.inr (inT (List.mem_append_left _ (List.mem_of_getElem? (l := tables_1_1) (i := 237) (by decide +kernel)))), mf_X4_add, mi_X4_add, ⟨by decide, by decide⟩⟩
theorem d_X8_type_22 : Db M_X8_type 22 .eq 35 25 := ⟨13, by decide +kernel, by decide, rfl⟩
theorem d_X8_type_25 : Dc M_X8_type 25 (.aload_n 0) 1 26 := ⟨by decide +kernel, rfl⟩
theorem d_X8_type_26 : GF M_X8_type 26 8 1 29 := ⟨24, ⟨by decide +kernel, rfl⟩, fl_X8_24⟩
theorem d_X8_type_29 : GF M_X8_type 29 4 3 32 := ⟨72, ⟨by decide +kernel, rfl⟩, fl_X8_72⟩
theorem d_X8_type_32 : Dg M_X8_type 32 37 := ⟨5, by decide +kernel, by decide⟩
theorem d_X8_type_35 : KI M_X8_type 35 (-4 : Int32) 37 := Or.inr (Or.inl ⟨(-4), ⟨by decide +kernel, rfl⟩, by decide⟩)
theorem d_X8_type_37 : Dc M_X8_type 37 (.ireturn) 1 38 := ⟨by decide +kernel, rfl⟩
theorem d_X8_wipe_0 : Dc M_X8_wipe 0 (.aload_n 0) 1 1 := ⟨by decide +kernel, rfl⟩
theorem d_X8_wipe_1 : GF M_X8_wipe 1 8 1 4 := ⟨24, ⟨by decide +kernel, rfl⟩, fl_X8_24⟩
theorem d_X8_wipe_4 : CV M_X8_wipe 4 M_X4_empty 0 7 := ⟨76, ⟨by decide +kernel, rfl⟩, Or.inr (inT (List.mem_append_right _ (List.mem_append_left _ (List.mem_of_getElem? (l := tables_1_2) (i := 25) (by decide +kernel))))), mf_X4_empty, mi_X4_empty, ⟨by decide, by decide⟩⟩
theorem d_X8_wipe_7 : Dc M_X8_wipe 7 (.ireturn) 1 8 := ⟨by decide +kernel, rfl⟩
theorem d_X8_fault_0 : Dc M_X8_fault 0 (.aload_n 0) 1 1 := ⟨by decide +kernel, rfl⟩
theorem d_X8_fault_1 : GF M_X8_fault 1 8 1 4 := ⟨24, ⟨by decide +kernel, rfl⟩, fl_X8_24⟩
theorem d_X8_fault_4 : GF M_X8_fault 4 4 5 7 := ⟨80, ⟨by decide +kernel, rfl⟩, fl_X8_80⟩
theorem d_X8_fault_7 : Dc M_X8_fault 7 (.ireturn) 1 8 := ⟨by decide +kernel, rfl⟩
theorem d_X8_worth_0 : Dc M_X8_worth 0 (.iload_n 1) 1 1 := ⟨by decide +kernel, rfl⟩
theorem d_X8_worth_1 : CS M_X8_worth 1 M_X8_isShed 1 4 := ⟨83, ⟨by decide +kernel, rfl⟩, Or.inl (inT (List.mem_append_right _ (List.mem_append_left _ (List.mem_of_getElem? (l := tables_1_2) (i := 37) (by decide +kernel))))), mf_X8_isShed, ms_X8_isShed, ⟨by decide, by decide⟩⟩
theorem d_X8_worth_4 : Db M_X8_worth 4 .eq 14 7 := ⟨10, by decide +kernel, by decide, rfl⟩
theorem d_X8_worth_7 : Dc M_X8_worth 7 (.iload_n 2) 1 8 := ⟨by decide +kernel, rfl⟩
theorem d_X8_worth_8 : CS M_X8_worth 8 M_X8_isWorth 1 11 := ⟨86, ⟨by decide +kernel, rfl⟩, Or.inl (inT (List.mem_append_right _ (List.mem_append_left _ (List.mem_of_getElem? (l := tables_1_2) (i := 38) (by decide +kernel))))), mf_X8_isWorth, ms_X8_isWorth, ⟨by decide, by decide⟩⟩
theorem d_X8_worth_11 : Db M_X8_worth 11 .ne 17 14 := ⟨6, by decide +kernel, by decide, rfl⟩
theorem d_X8_worth_14 : KI M_X8_worth 14 (-2 : Int32) 16 := Or.inr (Or.inl ⟨(-2), ⟨by decide +kernel, rfl⟩, by decide⟩)
theorem d_X8_worth_16 : Dc M_X8_worth 16 (.ireturn) 1 17 := ⟨by decide +kernel, rfl⟩
theorem d_X8_worth_17 : Dc M_X8_worth 17 (.aload_n 0) 1 18 := ⟨by decide +kernel, rfl⟩
theorem d_X8_worth_18 : GF M_X8_worth 18 8 0 21 := ⟨18, ⟨by decide +kernel, rfl⟩, fl_X8_18⟩
theorem d_X8_worth_21 : Dc M_X8_worth 21 (.iload_n 1) 1 22 := ⟨by decide +kernel, rfl⟩
theorem d_X8_worth_22 : Dc M_X8_worth 22 (.iload_n 2) 1 23 := ⟨by decide +kernel, rfl⟩
theorem d_X8_worth_23 : CV M_X8_worth 23 M_X3_changeWorth 2 26 := ⟨89, ⟨by decide +kernel, rfl⟩, Or.inr (inT (List.mem_append_right _ (List.mem_append_left _ (List.mem_of_getElem? (l := tables_1_2) (i := 41) (by decide +kernel))))), mf_X3_changeWorth, mi_X3_changeWorth, ⟨by decide, by decide⟩⟩
theorem d_X8_worth_26 : Dc M_X8_worth 26 (.ireturn) 1 27 := ⟨by decide +kernel, rfl⟩
theorem d_X8_way_0 : Dc M_X8_way 0 (.iload_n 1) 1 1 := ⟨by decide +kernel, rfl⟩
theorem d_X8_way_1 : CS M_X8_way 1 M_X8_isShed 1 4 := ⟨83, ⟨by decide +kernel, rfl⟩, Or.inl (inT (List.mem_append_right _ (List.mem_append_left _ (List.mem_of_getElem? (l := tables_1_2) (i := 37) (by decide +kernel))))), mf_X8_isShed, ms_X8_isShed, ⟨by decide, by decide⟩⟩
theorem d_X8_way_4 : Db M_X8_way 4 .eq 29 7 := ⟨25, by decide +kernel, by decide, rfl⟩
theorem d_X8_way_7 : Dc M_X8_way 7 (.iload_n 2) 1 8 := ⟨by decide +kernel, rfl⟩
theorem d_X8_way_8 : CS M_X8_way 8 M_X8_isShed 1 11 := ⟨83, ⟨by decide +kernel, rfl⟩, Or.inl (inT (List.mem_append_right _ (List.mem_append_left _ (List.mem_of_getElem? (l := tables_1_2) (i := 37) (by decide +kernel))))), mf_X8_isShed, ms_X8_isShed, ⟨by decide, by decide⟩⟩
theorem d_X8_way_11 : Db M_X8_way 11 .eq 29 14 := ⟨18, by decide +kernel, by decide, rfl⟩
theorem d_X8_way_14 : Dc M_X8_way 14 (.iload_n 1) 1 15 := ⟨by decide +kernel, rfl⟩
theorem d_X8_way_15 : Dc M_X8_way 15 (.iload_n 2) 1 16 := ⟨by decide +kernel, rfl⟩
theorem d_X8_way_16 : Di M_X8_way 16 .eq 29 19 := ⟨13, by decide +kernel, by decide, rfl⟩
theorem d_X8_way_19 : Dc M_X8_way 19 (.iload_n 3) 1 20 := ⟨by decide +kernel, rfl⟩
theorem d_X8_way_20 : KI M_X8_way 20 (nI 1) 21 := Or.inl ⟨1, ⟨by decide +kernel, rfl⟩, by decide⟩
theorem d_X8_way_21 : KI M_X8_way 21 (nI 9) 23 := Or.inr (Or.inl ⟨9, ⟨by decide +kernel, rfl⟩, by decide⟩)
theorem d_X8_way_23 : CS M_X8_way 23 M_X8_within 3 26 := ⟨64, ⟨by decide +kernel, rfl⟩, Or.inl (inT (List.mem_append_left _ (List.mem_of_getElem? (l := tables_1_1) (i := 234) (by decide +kernel)))), mf_X8_within, ms_X8_within, ⟨by decide, by decide⟩⟩
theorem d_X8_way_26 : Db M_X8_way 26 .ne 32 29 := ⟨6, by decide +kernel, by decide, rfl⟩
theorem d_X8_way_29 : KI M_X8_way 29 (-2 : Int32) 31 := Or.inr (Or.inl ⟨(-2), ⟨by decide +kernel, rfl⟩, by decide⟩)
theorem d_X8_way_31 : Dc M_X8_way 31 (.ireturn) 1 32 := ⟨by decide +kernel, rfl⟩
theorem d_X8_way_32 : Dc M_X8_way 32 (.aload_n 0) 1 33 := ⟨by decide +kernel, rfl⟩
theorem d_X8_way_33 : GF M_X8_way 33 8 0 36 := ⟨18, ⟨by decide +kernel, rfl⟩, fl_X8_18⟩
theorem d_X8_way_36 : Dc M_X8_way 36 (.iload_n 1) 1 37 := ⟨by decide +kernel, rfl⟩
theorem d_X8_way_37 : Dc M_X8_way 37 (.iload_n 2) 1 38 := ⟨by decide +kernel, rfl⟩
theorem d_X8_way_38 : Dc M_X8_way 38 (.iload_n 3) 1 39 := ⟨by decide +kernel, rfl⟩
theorem d_X8_way_39 : CV M_X8_way 39 M_X3_changeWay 3 42 := ⟨93, ⟨by decide +kernel, rfl⟩, Or.inr (inT (List.mem_append_right _ (List.mem_append_left _ (List.mem_of_getElem? (l := tables_1_2) (i := 54) (by decide +kernel))))), mf_X3_changeWay, mi_X3_changeWay, ⟨by decide, by decide⟩⟩
theorem d_X8_way_42 : Dc M_X8_way 42 (.ireturn) 1 43 := ⟨by decide +kernel, rfl⟩
theorem d_X8_set_0 : Dc M_X8_set 0 (.iload_n 1) 1 1 := ⟨by decide +kernel, rfl⟩
theorem d_X8_set_1 : Db M_X8_set 1 .ne 22 4 := ⟨21, by decide +kernel, by decide, rfl⟩
theorem d_X8_set_4 : Dc M_X8_set 4 (.iload_n 2) 1 5 := ⟨by decide +kernel, rfl⟩
theorem d_X8_set_5 : KI M_X8_set 5 (nI 1) 6 := Or.inl ⟨1, ⟨by decide +kernel, rfl⟩, by decide⟩
theorem d_X8_set_6 : KI M_X8_set 6 (nI 5) 7 := Or.inl ⟨5, ⟨by decide +kernel, rfl⟩, by decide⟩
theorem d_X8_set_7 : CS M_X8_set 7 M_X8_within 3 10 := ⟨64, ⟨by decide +kernel, rfl⟩, Or.inl (inT (List.mem_append_left _ (List.mem_of_getElem? (l := tables_1_1) (i := 234) (by decide +kernel)))), mf_X8_within, ms_X8_within, ⟨by decide, by decide⟩⟩
theorem d_X8_set_10 : Db M_X8_set 10 .eq 22 13 := ⟨12, by decide +kernel, by decide, rfl⟩
theorem d_X8_set_13 : Dc M_X8_set 13 (.aload_n 0) 1 14 := ⟨by decide +kernel, rfl⟩
theorem d_X8_set_14 : GF M_X8_set 14 8 0 17 := ⟨18, ⟨by decide +kernel, rfl⟩, fl_X8_18⟩
theorem d_X8_set_17 : Dc M_X8_set 17 (.iload_n 2) 1 18 := ⟨by decide +kernel, rfl⟩
theorem d_X8_set_18 : CV M_X8_set 18 M_X3_changeLook 1 21 := ⟨97, ⟨by decide +kernel, rfl⟩, Or.inr (inT (List.mem_append_right _ (List.mem_append_left _ (List.mem_of_getElem? (l := tables_1_2) (i := 66) (by decide +kernel))))), mf_X3_changeLook, mi_X3_changeLook, ⟨by decide, by decide⟩⟩
theorem d_X8_set_21 : Dc M_X8_set 21 (.ireturn) 1 22 := ⟨by decide +kernel, rfl⟩
theorem d_X8_set_22 : Dc M_X8_set 22 (.iload_n 1) 1 23 := ⟨by decide +kernel, rfl⟩
theorem d_X8_set_23 : KI M_X8_set 23 (nI 1) 24 := Or.inl ⟨1, ⟨by decide +kernel, rfl⟩, by decide⟩
theorem d_X8_set_24 : Di M_X8_set 24 .ne 46 27 := ⟨22, by decide +kernel, by decide, rfl⟩
theorem d_X8_set_27 : Dc M_X8_set 27 (.iload_n 2) 1 28 := ⟨by decide +kernel, rfl⟩
theorem d_X8_set_28 : KI M_X8_set 28 (nI 1) 29 := Or.inl ⟨1, ⟨by decide +kernel, rfl⟩, by decide⟩
theorem d_X8_set_29 : KI M_X8_set 29 (nI 20) 31 := Or.inr (Or.inl ⟨20, ⟨by decide +kernel, rfl⟩, by decide⟩)
theorem d_X8_set_31 : CS M_X8_set 31 M_X8_within 3 34 := ⟨64, ⟨by decide +kernel, rfl⟩, Or.inl (inT (List.mem_append_left _ (List.mem_of_getElem? (l := tables_1_1) (i := 234) (by decide +kernel)))), mf_X8_within, ms_X8_within, ⟨by decide, by decide⟩⟩
theorem d_X8_set_34 : Db M_X8_set 34 .eq 46 37 := ⟨12, by decide +kernel, by decide, rfl⟩
theorem d_X8_set_37 : Dc M_X8_set 37 (.aload_n 0) 1 38 := ⟨by decide +kernel, rfl⟩
theorem d_X8_set_38 : GF M_X8_set 38 8 0 41 := ⟨18, ⟨by decide +kernel, rfl⟩, fl_X8_18⟩
theorem d_X8_set_41 : Dc M_X8_set 41 (.iload_n 2) 1 42 := ⟨by decide +kernel, rfl⟩
theorem d_X8_set_42 : CV M_X8_set 42 M_X3_changeNeed 1 45 := ⟨101, ⟨by decide +kernel, rfl⟩, Or.inr (inT (List.mem_append_right _ (List.mem_append_left _ (List.mem_of_getElem? (l := tables_1_2) (i := 70) (by decide +kernel))))), mf_X3_changeNeed, mi_X3_changeNeed, ⟨by decide, by decide⟩⟩
theorem d_X8_set_45 : Dc M_X8_set 45 (.ireturn) 1 46 := ⟨by decide +kernel, rfl⟩
theorem d_X8_set_46 : KI M_X8_set 46 (-2 : Int32) 48 := Or.inr (Or.inl ⟨(-2), ⟨by decide +kernel, rfl⟩, by decide⟩)
theorem d_X8_set_48 : Dc M_X8_set 48 (.ireturn) 1 49 := ⟨by decide +kernel, rfl⟩
theorem d_X8_read_0 : Dc M_X8_read 0 (.iload_n 1) 1 1 := ⟨by decide +kernel, rfl⟩
theorem d_X8_read_1 : CS M_X8_read 1 M_X8_isSheet 1 4 := ⟨104, ⟨by decide +kernel, rfl⟩, Or.inl (inT (List.mem_append_right _ (List.mem_append_left _ (List.mem_of_getElem? (l := tables_1_2) (i := 78) (by decide +kernel))))), mf_X8_isSheet, ms_X8_isSheet, ⟨by decide, by decide⟩⟩
theorem d_X8_read_4 : Db M_X8_read 4 .ne 10 7 := ⟨6, by decide +kernel, by decide, rfl⟩
theorem d_X8_read_7 : KI M_X8_read 7 (-2 : Int32) 9 := Or.inr (Or.inl ⟨(-2), ⟨by decide +kernel, rfl⟩, by decide⟩)
theorem d_X8_read_9 : Dc M_X8_read 9 (.ireturn) 1 10 := ⟨by decide +kernel, rfl⟩
theorem d_X8_read_10 : Dc M_X8_read 10 (.aload_n 0) 1 11 := ⟨by decide +kernel, rfl⟩
theorem d_X8_read_11 : GF M_X8_read 11 8 6 14 := ⟨60, ⟨by decide +kernel, rfl⟩, fl_X8_60⟩
theorem d_X8_read_14 : Dc M_X8_read 14 (.iload_n 1) 1 15 := ⟨by decide +kernel, rfl⟩
theorem d_X8_read_15 : CV M_X8_read 15 M_X5_isLost 1 18 := ⟨107, ⟨by decide +kernel, rfl⟩, Or.inr (inT (List.mem_append_right _ (List.mem_append_left _ (List.mem_of_getElem? (l := tables_1_2) (i := 81) (by decide +kernel))))), mf_X5_isLost, mi_X5_isLost, ⟨by decide, by decide⟩⟩
theorem d_X8_read_18 : Db M_X8_read 18 .eq 30 21 := ⟨12, by decide +kernel, by decide, rfl⟩
theorem d_X8_read_21 : Dc M_X8_read 21 (.aload_n 0) 1 22 := ⟨by decide +kernel, rfl⟩
theorem d_X8_read_22 : GF M_X8_read 22 8 6 25 := ⟨60, ⟨by decide +kernel, rfl⟩, fl_X8_60⟩
theorem d_X8_read_25 : KI M_X8_read 25 (nI 1) 26 := Or.inl ⟨1, ⟨by decide +kernel, rfl⟩, by decide⟩
theorem d_X8_read_26 : CV M_X8_read 26 M_X5_found 1 29 := ⟨110, ⟨by decide +kernel, rfl⟩, Or.inr (inT (List.mem_append_right _ (List.mem_append_left _ (List.mem_of_getElem? (l := tables_1_2) (i := 90) (by decide +kernel))))), mf_X5_found, mi_X5_found, ⟨by decide, by decide⟩⟩
theorem d_X8_read_29 : Dc M_X8_read 29 (.ireturn) 1 30 := ⟨by decide +kernel, rfl⟩
theorem d_X8_read_30 : KI M_X8_read 30 (nI 0) 31 := Or.inl ⟨0, ⟨by decide +kernel, rfl⟩, by decide⟩
theorem d_X8_read_31 : Dc M_X8_read 31 (.istore_n 2) 1 32 := ⟨by decide +kernel, rfl⟩
theorem d_X8_read_32 : Dc M_X8_read 32 (.iload_n 2) 1 33 := ⟨by decide +kernel, rfl⟩
theorem d_X8_read_33 : KI M_X8_read 33 (nI 6) 35 := Or.inr (Or.inl ⟨6, ⟨by decide +kernel, rfl⟩, by decide⟩)
theorem d_X8_read_35 : Di M_X8_read 35 .ge 89 38 := ⟨54, by decide +kernel, by decide, rfl⟩
theorem d_X8_read_38 : Dc M_X8_read 38 (.iload_n 2) 1 39 := ⟨by decide +kernel, rfl⟩
theorem d_X8_read_39 : Dc M_X8_read 39 (.aload_n 0) 1 40 := ⟨by decide +kernel, rfl⟩
theorem d_X8_read_40 : GF M_X8_read 40 8 6 43 := ⟨60, ⟨by decide +kernel, rfl⟩, fl_X8_60⟩
theorem d_X8_read_43 : Dc M_X8_read 43 (.iload_n 1) 1 44 := ⟨by decide +kernel, rfl⟩
theorem d_X8_read_44 : CV M_X8_read 44 M_X5_sizeOf 1 47 := ⟨113, ⟨by decide +kernel, rfl⟩, Or.inr (inT (List.mem_append_right _ (List.mem_append_left _ (List.mem_of_getElem? (l := tables_1_2) (i := 94) (by decide +kernel))))), mf_X5_sizeOf, mi_X5_sizeOf, ⟨by decide, by decide⟩⟩
theorem d_X8_read_47 : Di M_X8_read 47 .ge 89 50 := ⟨42, by decide +kernel, by decide, rfl⟩
theorem d_X8_read_50 : Dc M_X8_read 50 (.aload_n 0) 1 51 := ⟨by decide +kernel, rfl⟩
theorem d_X8_read_51 : GF M_X8_read 51 8 6 54 := ⟨60, ⟨by decide +kernel, rfl⟩, fl_X8_60⟩
theorem d_X8_read_54 : Dc M_X8_read 54 (.iload_n 1) 1 55 := ⟨by decide +kernel, rfl⟩
theorem d_X8_read_55 : Dc M_X8_read 55 (.iload_n 2) 1 56 := ⟨by decide +kernel, rfl⟩
theorem d_X8_read_56 : CV M_X8_read 56 M_X5_itemOf 2 59 := ⟨116, ⟨by decide +kernel, rfl⟩, Or.inr (inT (List.mem_append_right _ (List.mem_append_left _ (List.mem_of_getElem? (l := tables_1_2) (i := 98) (by decide +kernel))))), mf_X5_itemOf, mi_X5_itemOf, ⟨by decide, by decide⟩⟩
theorem d_X8_read_59 : CS M_X8_read 59 M_X8_isWorth 1 62 := ⟨86, ⟨by decide +kernel, rfl⟩, Or.inl (inT (List.mem_append_right _ (List.mem_append_left _ (List.mem_of_getElem? (l := tables_1_2) (i := 38) (by decide +kernel))))), mf_X8_isWorth, ms_X8_isWorth, ⟨by decide, by decide⟩⟩
theorem d_X8_read_62 : Db M_X8_read 62 .eq 89 65 := ⟨27, by decide +kernel, by decide, rfl⟩
theorem d_X8_read_65 : Dc M_X8_read 65 (.aload_n 0) 1 66 := ⟨by decide +kernel, rfl⟩
theorem d_X8_read_66 : GF M_X8_read 66 8 0 69 := ⟨18, ⟨by decide +kernel, rfl⟩, fl_X8_18⟩
theorem d_X8_read_69 : Dc M_X8_read 69 (.iload_n 2) 1 70 := ⟨by decide +kernel, rfl⟩
theorem d_X8_read_70 : Dc M_X8_read 70 (.aload_n 0) 1 71 := ⟨by decide +kernel, rfl⟩
theorem d_X8_read_71 : GF M_X8_read 71 8 6 74 := ⟨60, ⟨by decide +kernel, rfl⟩, fl_X8_60⟩
theorem d_X8_read_74 : Dc M_X8_read 74 (.iload_n 1) 1 75 := ⟨by decide +kernel, rfl⟩
theorem d_X8_read_75 : Dc M_X8_read 75 (.iload_n 2) 1 76 := ⟨by decide +kernel, rfl⟩
theorem d_X8_read_76 : CV M_X8_read 76 M_X5_itemOf 2 79 := ⟨116, ⟨by decide +kernel, rfl⟩, Or.inr (inT (List.mem_append_right _ (List.mem_append_left _ (List.mem_of_getElem? (l := tables_1_2) (i := 98) (by decide +kernel))))), mf_X5_itemOf, mi_X5_itemOf, ⟨by decide, by decide⟩⟩
theorem d_X8_read_79 : CV M_X8_read 79 M_X3_changeWorth 2 82 := ⟨89, ⟨by decide +kernel, rfl⟩, Or.inr (inT (List.mem_append_right _ (List.mem_append_left _ (List.mem_of_getElem? (l := tables_1_2) (i := 41) (by decide +kernel))))), mf_X3_changeWorth, mi_X3_changeWorth, ⟨by decide, by decide⟩⟩
theorem d_X8_read_82 : Dc M_X8_read 82 (.pop) 1 83 := ⟨by decide +kernel, rfl⟩
theorem d_X8_read_83 : Dc M_X8_read 83 (.iinc 2 1) 3 86 := ⟨by decide +kernel, rfl⟩
theorem d_X8_read_86 : Dg M_X8_read 86 32 := ⟨(-54), by decide +kernel, by decide⟩
theorem d_X8_read_89 : Dc M_X8_read 89 (.iload_n 2) 1 90 := ⟨by decide +kernel, rfl⟩
theorem d_X8_read_90 : Dc M_X8_read 90 (.ireturn) 1 91 := ⟨by decide +kernel, rfl⟩
theorem d_X8_night_0 : Dc M_X8_night 0 (.aload_n 0) 1 1 := ⟨by decide +kernel, rfl⟩
theorem d_X8_night_1 : GF M_X8_night 1 8 1 4 := ⟨24, ⟨by decide +kernel, rfl⟩, fl_X8_24⟩
theorem d_X8_night_4 : Dc M_X8_night 4 (.iload_n 1) 1 5 := ⟨by decide +kernel, rfl⟩
theorem d_X8_night_5 : CV M_X8_night 5 M_X4_isTold 1 8 := ⟨119, ⟨by decide +kernel, rfl⟩, Or.inr (inT (List.mem_append_right _ (List.mem_append_left _ (List.mem_of_getElem? (l := tables_1_2) (i := 106) (by decide +kernel))))), mf_X4_isTold, mi_X4_isTold, ⟨by decide, by decide⟩⟩
theorem d_X8_night_8 : Db M_X8_night 8 .eq 20 11 := ⟨12, by decide +kernel, by decide, rfl⟩
theorem d_X8_night_11 : Dc M_X8_night 11 (.iload_n 2) 1 12 := ⟨by decide +kernel, rfl⟩
theorem d_X8_night_12 : KI M_X8_night 12 (nI 0) 13 := Or.inl ⟨0, ⟨by decide +kernel, rfl⟩, by decide⟩
theorem d_X8_night_13 : KI M_X8_night 13 (nI 5) 14 := Or.inl ⟨5, ⟨by decide +kernel, rfl⟩, by decide⟩
theorem d_X8_night_14 : CS M_X8_night 14 M_X8_within 3 17 := ⟨64, ⟨by decide +kernel, rfl⟩, Or.inl (inT (List.mem_append_left _ (List.mem_of_getElem? (l := tables_1_1) (i := 234) (by decide +kernel)))), mf_X8_within, ms_X8_within, ⟨by decide, by decide⟩⟩
theorem d_X8_night_17 : Db M_X8_night 17 .ne 23 20 := ⟨6, by decide +kernel, by decide, rfl⟩
theorem d_X8_night_20 : KI M_X8_night 20 (-2 : Int32) 22 := Or.inr (Or.inl ⟨(-2), ⟨by decide +kernel, rfl⟩, by decide⟩)
theorem d_X8_night_22 : Dc M_X8_night 22 (.ireturn) 1 23 := ⟨by decide +kernel, rfl⟩
theorem d_X8_night_23 : Dc M_X8_night 23 (.aload_n 0) 1 24 := ⟨by decide +kernel, rfl⟩
theorem d_X8_night_24 : GF M_X8_night 24 8 1 27 := ⟨24, ⟨by decide +kernel, rfl⟩, fl_X8_24⟩
theorem d_X8_night_27 : Dc M_X8_night 27 (.iload_n 1) 1 28 := ⟨by decide +kernel, rfl⟩
theorem d_X8_night_28 : Dc M_X8_night 28 (.iload_n 2) 1 29 := ⟨by decide +kernel, rfl⟩
theorem d_X8_night_29 : CV M_X8_night 29 M_X4_shedOf 2 32 := ⟨122, ⟨by decide +kernel, rfl⟩, Or.inr (inT (List.mem_append_right _ (List.mem_append_left _ (List.mem_of_getElem? (l := tables_1_2) (i := 110) (by decide +kernel))))), mf_X4_shedOf, mi_X4_shedOf, ⟨by decide, by decide⟩⟩
theorem d_X8_night_32 : Dc M_X8_night 32 (.ireturn) 1 33 := ⟨by decide +kernel, rfl⟩
theorem d_X8_at_0 : Dc M_X8_at 0 (.aload_n 0) 1 1 := ⟨by decide +kernel, rfl⟩
theorem d_X8_at_1 : GF M_X8_at 1 8 1 4 := ⟨24, ⟨by decide +kernel, rfl⟩, fl_X8_24⟩
theorem d_X8_at_4 : Dc M_X8_at 4 (.iload_n 1) 1 5 := ⟨by decide +kernel, rfl⟩
theorem d_X8_at_5 : CV M_X8_at 5 M_X4_isTold 1 8 := ⟨119, ⟨by decide +kernel, rfl⟩, Or.inr (inT (List.mem_append_right _ (List.mem_append_left _ (List.mem_of_getElem? (l := tables_1_2) (i := 106) (by decide +kernel))))), mf_X4_isTold, mi_X4_isTold, ⟨by decide, by decide⟩⟩
theorem d_X8_at_8 : Db M_X8_at 8 .eq 21 11 := ⟨13, by decide +kernel, by decide, rfl⟩
theorem d_X8_at_11 : Dc M_X8_at 11 (.iload_n 2) 1 12 := ⟨by decide +kernel, rfl⟩
theorem d_X8_at_12 : KI M_X8_at 12 (nI 0) 13 := Or.inl ⟨0, ⟨by decide +kernel, rfl⟩, by decide⟩
theorem d_X8_at_13 : KI M_X8_at 13 (nI 59) 15 := Or.inr (Or.inl ⟨59, ⟨by decide +kernel, rfl⟩, by decide⟩)
theorem d_X8_at_15 : CS M_X8_at 15 M_X8_within 3 18 := ⟨64, ⟨by decide +kernel, rfl⟩, Or.inl (inT (List.mem_append_left _ (List.mem_of_getElem? (l := tables_1_1) (i := 234) (by decide +kernel)))), mf_X8_within, ms_X8_within, ⟨by decide, by decide⟩⟩
theorem d_X8_at_18 : Db M_X8_at 18 .ne 24 21 := ⟨6, by decide +kernel, by decide, rfl⟩
theorem d_X8_at_21 : KI M_X8_at 21 (-2 : Int32) 23 := Or.inr (Or.inl ⟨(-2), ⟨by decide +kernel, rfl⟩, by decide⟩)
theorem d_X8_at_23 : Dc M_X8_at 23 (.ireturn) 1 24 := ⟨by decide +kernel, rfl⟩
theorem d_X8_at_24 : Dc M_X8_at 24 (.aload_n 0) 1 25 := ⟨by decide +kernel, rfl⟩
theorem d_X8_at_25 : GF M_X8_at 25 8 2 28 := ⟨28, ⟨by decide +kernel, rfl⟩, fl_X8_28⟩
theorem d_X8_at_28 : Dc M_X8_at 28 (.iload_n 1) 1 29 := ⟨by decide +kernel, rfl⟩
theorem d_X8_at_29 : Dc M_X8_at 29 (.iload_n 2) 1 30 := ⟨by decide +kernel, rfl⟩
theorem d_X8_at_30 : CV M_X8_at 30 M_X7_shedIn 2 33 := ⟨125, ⟨by decide +kernel, rfl⟩, Or.inr (inT (List.mem_append_right _ (List.mem_append_left _ (List.mem_of_getElem? (l := tables_1_2) (i := 118) (by decide +kernel))))), mf_X7_shedIn, mi_X7_shedIn, ⟨by decide, by decide⟩⟩
theorem d_X8_at_33 : Dc M_X8_at 33 (.ireturn) 1 34 := ⟨by decide +kernel, rfl⟩
theorem d_X8_when_0 : Dc M_X8_when 0 (.aload_n 0) 1 1 := ⟨by decide +kernel, rfl⟩
theorem d_X8_when_1 : GF M_X8_when 1 8 1 4 := ⟨24, ⟨by decide +kernel, rfl⟩, fl_X8_24⟩
theorem d_X8_when_4 : Dc M_X8_when 4 (.iload_n 1) 1 5 := ⟨by decide +kernel, rfl⟩
theorem d_X8_when_5 : CV M_X8_when 5 M_X4_isTold 1 8 := ⟨119, ⟨by decide +kernel, rfl⟩, Or.inr (inT (List.mem_append_right _ (List.mem_append_left _ (List.mem_of_getElem? (l := tables_1_2) (i := 106) (by decide +kernel))))), mf_X4_isTold, mi_X4_isTold, ⟨by decide, by decide⟩⟩
theorem d_X8_when_8 : Db M_X8_when 8 .eq 18 11 := ⟨10, by decide +kernel, by decide, rfl⟩
theorem d_X8_when_11 : Dc M_X8_when 11 (.iload_n 2) 1 12 := ⟨by decide +kernel, rfl⟩
theorem d_X8_when_12 : CS M_X8_when 12 M_X8_isShed 1 15 := ⟨83, ⟨by decide +kernel, rfl⟩, Or.inl (inT (List.mem_append_right _ (List.mem_append_left _ (List.mem_of_getElem? (l := tables_1_2) (i := 37) (by decide +kernel))))), mf_X8_isShed, ms_X8_isShed, ⟨by decide, by decide⟩⟩
theorem d_X8_when_15 : Db M_X8_when 15 .ne 21 18 := ⟨6, by decide +kernel, by decide, rfl⟩
theorem d_X8_when_18 : KI M_X8_when 18 (-2 : Int32) 20 := Or.inr (Or.inl ⟨(-2), ⟨by decide +kernel, rfl⟩, by decide⟩)
theorem d_X8_when_20 : Dc M_X8_when 20 (.ireturn) 1 21 := ⟨by decide +kernel, rfl⟩
theorem d_X8_when_21 : Dc M_X8_when 21 (.aload_n 0) 1 22 := ⟨by decide +kernel, rfl⟩
theorem d_X8_when_22 : GF M_X8_when 22 8 2 25 := ⟨28, ⟨by decide +kernel, rfl⟩, fl_X8_28⟩
theorem d_X8_when_25 : Dc M_X8_when 25 (.iload_n 1) 1 26 := ⟨by decide +kernel, rfl⟩
theorem d_X8_when_26 : Dc M_X8_when 26 (.iload_n 2) 1 27 := ⟨by decide +kernel, rfl⟩
theorem d_X8_when_27 : CV M_X8_when 27 M_X7_comesTo 2 30 := ⟨128, ⟨by decide +kernel, rfl⟩, Or.inr (inT (List.mem_append_right _ (List.mem_append_left _ (List.mem_of_getElem? (l := tables_1_2) (i := 133) (by decide +kernel))))), mf_X7_comesTo, mi_X7_comesTo, ⟨by decide, by decide⟩⟩
theorem d_X8_when_30 : Dc M_X8_when 30 (.ireturn) 1 31 := ⟨by decide +kernel, rfl⟩
theorem d_X8_alone_0 : Dc M_X8_alone 0 (.aload_n 0) 1 1 := ⟨by decide +kernel, rfl⟩
theorem d_X8_alone_1 : GF M_X8_alone 1 8 1 4 := ⟨24, ⟨by decide +kernel, rfl⟩, fl_X8_24⟩
theorem d_X8_alone_4 : Dc M_X8_alone 4 (.iload_n 1) 1 5 := ⟨by decide +kernel, rfl⟩
theorem d_X8_alone_5 : CV M_X8_alone 5 M_X4_isTold 1 8 := ⟨119, ⟨by decide +kernel, rfl⟩, Or.inr (inT (List.mem_append_right _ (List.mem_append_left _ (List.mem_of_getElem? (l := tables_1_2) (i := 106) (by decide +kernel))))), mf_X4_isTold, mi_X4_isTold, ⟨by decide, by decide⟩⟩
theorem d_X8_alone_8 : Db M_X8_alone 8 .eq 27 11 := ⟨19, by decide +kernel, by decide, rfl⟩
theorem d_X8_alone_11 : Dc M_X8_alone 11 (.iload_n 2) 1 12 := ⟨by decide +kernel, rfl⟩
theorem d_X8_alone_12 : CS M_X8_alone 12 M_X8_isShed 1 15 := ⟨83, ⟨by decide +kernel, rfl⟩, Or.inl (inT (List.mem_append_right _ (List.mem_append_left _ (List.mem_of_getElem? (l := tables_1_2) (i := 37) (by decide +kernel))))), mf_X8_isShed, ms_X8_isShed, ⟨by decide, by decide⟩⟩
theorem d_X8_alone_15 : Db M_X8_alone 15 .eq 27 18 := ⟨12, by decide +kernel, by decide, rfl⟩
theorem d_X8_alone_18 : Dc M_X8_alone 18 (.iload_n 3) 1 19 := ⟨by decide +kernel, rfl⟩
theorem d_X8_alone_19 : KI M_X8_alone 19 (nI 0) 20 := Or.inl ⟨0, ⟨by decide +kernel, rfl⟩, by decide⟩
theorem d_X8_alone_20 : KI M_X8_alone 20 (nI 1) 21 := Or.inl ⟨1, ⟨by decide +kernel, rfl⟩, by decide⟩
theorem d_X8_alone_21 : CS M_X8_alone 21 M_X8_within 3 24 := ⟨64, ⟨by decide +kernel, rfl⟩, Or.inl (inT (List.mem_append_left _ (List.mem_of_getElem? (l := tables_1_1) (i := 234) (by decide +kernel)))), mf_X8_within, ms_X8_within, ⟨by decide, by decide⟩⟩
theorem d_X8_alone_24 : Db M_X8_alone 24 .ne 30 27 := ⟨6, by decide +kernel, by decide, rfl⟩
theorem d_X8_alone_27 : KI M_X8_alone 27 (-2 : Int32) 29 := Or.inr (Or.inl ⟨(-2), ⟨by decide +kernel, rfl⟩, by decide⟩)
theorem d_X8_alone_29 : Dc M_X8_alone 29 (.ireturn) 1 30 := ⟨by decide +kernel, rfl⟩
theorem d_X8_alone_30 : Dc M_X8_alone 30 (.iload_n 3) 1 31 := ⟨by decide +kernel, rfl⟩
theorem d_X8_alone_31 : Db M_X8_alone 31 .ne 46 34 := ⟨15, by decide +kernel, by decide, rfl⟩
theorem d_X8_alone_34 : Dc M_X8_alone 34 (.aload_n 0) 1 35 := ⟨by decide +kernel, rfl⟩
theorem d_X8_alone_35 : GF M_X8_alone 35 8 2 38 := ⟨28, ⟨by decide +kernel, rfl⟩, fl_X8_28⟩
theorem d_X8_alone_38 : Dc M_X8_alone 38 (.iload_n 1) 1 39 := ⟨by decide +kernel, rfl⟩
theorem d_X8_alone_39 : Dc M_X8_alone 39 (.iload_n 2) 1 40 := ⟨by decide +kernel, rfl⟩
theorem d_X8_alone_40 : CV M_X8_alone 40 M_X7_aloneFor 2 43 := ⟨131, ⟨by decide +kernel, rfl⟩, Or.inr (inT (List.mem_append_right _ (List.mem_append_left _ (List.mem_of_getElem? (l := tables_1_2) (i := 141) (by decide +kernel))))), mf_X7_aloneFor, mi_X7_aloneFor, ⟨by decide, by decide⟩⟩
theorem d_X8_alone_43 : Dg M_X8_alone 43 55 := ⟨12, by decide +kernel, by decide⟩
theorem d_X8_alone_46 : Dc M_X8_alone 46 (.aload_n 0) 1 47 := ⟨by decide +kernel, rfl⟩
theorem d_X8_alone_47 : GF M_X8_alone 47 8 2 50 := ⟨28, ⟨by decide +kernel, rfl⟩, fl_X8_28⟩
theorem d_X8_alone_50 : Dc M_X8_alone 50 (.iload_n 1) 1 51 := ⟨by decide +kernel, rfl⟩
theorem d_X8_alone_51 : Dc M_X8_alone 51 (.iload_n 2) 1 52 := ⟨by decide +kernel, rfl⟩
theorem d_X8_alone_52 : CV M_X8_alone 52 M_X7_aloneFrom 2 55 := ⟨134, ⟨by decide +kernel, rfl⟩, Or.inr (inT (List.mem_append_right _ (List.mem_append_left _ (List.mem_of_getElem? (l := tables_1_2) (i := 149) (by decide +kernel))))), mf_X7_aloneFrom, mi_X7_aloneFrom, ⟨by decide, by decide⟩⟩
theorem d_X8_alone_55 : Dc M_X8_alone 55 (.ireturn) 1 56 := ⟨by decide +kernel, rfl⟩
theorem d_X8_steals_0 : Dc M_X8_steals 0 (.aload_n 0) 1 1 := ⟨by decide +kernel, rfl⟩
theorem d_X8_steals_1 : GF M_X8_steals 1 8 1 4 := ⟨24, ⟨by decide +kernel, rfl⟩, fl_X8_24⟩
theorem d_X8_steals_4 : Dc M_X8_steals 4 (.iload_n 1) 1 5 := ⟨by decide +kernel, rfl⟩
theorem d_X8_steals_5 : CV M_X8_steals 5 M_X4_isTold 1 8 := ⟨119, ⟨by decide +kernel, rfl⟩, Or.inr (inT (List.mem_append_right _ (List.mem_append_left _ (List.mem_of_getElem? (l := tables_1_2) (i := 106) (by decide +kernel))))), mf_X4_isTold, mi_X4_isTold, ⟨by decide, by decide⟩⟩
theorem d_X8_steals_8 : Db M_X8_steals 8 .eq 36 11 := ⟨28, by decide +kernel, by decide, rfl⟩
theorem d_X8_steals_11 : Dc M_X8_steals 11 (.iload_n 2) 1 12 := ⟨by decide +kernel, rfl⟩
theorem d_X8_steals_12 : CS M_X8_steals 12 M_X8_isShed 1 15 := ⟨83, ⟨by decide +kernel, rfl⟩, Or.inl (inT (List.mem_append_right _ (List.mem_append_left _ (List.mem_of_getElem? (l := tables_1_2) (i := 37) (by decide +kernel))))), mf_X8_isShed, ms_X8_isShed, ⟨by decide, by decide⟩⟩
theorem d_X8_steals_15 : Db M_X8_steals 15 .eq 36 18 := ⟨21, by decide +kernel, by decide, rfl⟩
theorem d_X8_steals_18 : Dc M_X8_steals 18 (.iload_n 3) 1 19 := ⟨by decide +kernel, rfl⟩
theorem d_X8_steals_19 : KI M_X8_steals 19 (nI 0) 20 := Or.inl ⟨0, ⟨by decide +kernel, rfl⟩, by decide⟩
theorem d_X8_steals_20 : KI M_X8_steals 20 (nI 60) 22 := Or.inr (Or.inl ⟨60, ⟨by decide +kernel, rfl⟩, by decide⟩)
theorem d_X8_steals_22 : Dc M_X8_steals 22 (.aload_n 0) 1 23 := ⟨by decide +kernel, rfl⟩
theorem d_X8_steals_23 : GF M_X8_steals 23 8 0 26 := ⟨18, ⟨by decide +kernel, rfl⟩, fl_X8_18⟩
theorem d_X8_steals_26 : GF M_X8_steals 26 3 3 29 := ⟨137, ⟨by decide +kernel, rfl⟩, fl_X8_137⟩
theorem d_X8_steals_29 : Dc M_X8_steals 29 (.isub) 1 30 := ⟨by decide +kernel, rfl⟩
theorem d_X8_steals_30 : CS M_X8_steals 30 M_X8_within 3 33 := ⟨64, ⟨by decide +kernel, rfl⟩, Or.inl (inT (List.mem_append_left _ (List.mem_of_getElem? (l := tables_1_1) (i := 234) (by decide +kernel)))), mf_X8_within, ms_X8_within, ⟨by decide, by decide⟩⟩
theorem d_X8_steals_33 : Db M_X8_steals 33 .ne 39 36 := ⟨6, by decide +kernel, by decide, rfl⟩
theorem d_X8_steals_36 : KI M_X8_steals 36 (-2 : Int32) 38 := Or.inr (Or.inl ⟨(-2), ⟨by decide +kernel, rfl⟩, by decide⟩)
theorem d_X8_steals_38 : Dc M_X8_steals 38 (.ireturn) 1 39 := ⟨by decide +kernel, rfl⟩
theorem d_X8_steals_39 : Dc M_X8_steals 39 (.aload_n 0) 1 40 := ⟨by decide +kernel, rfl⟩
theorem d_X8_steals_40 : GF M_X8_steals 40 8 4 43 := ⟨46, ⟨by decide +kernel, rfl⟩, fl_X8_46⟩
theorem d_X8_steals_43 : Dc M_X8_steals 43 (.iload_n 2) 1 44 := ⟨by decide +kernel, rfl⟩
theorem d_X8_steals_44 : Dc M_X8_steals 44 (.iload_n 3) 1 45 := ⟨by decide +kernel, rfl⟩
theorem d_X8_steals_45 : Dc M_X8_steals 45 (.aload_n 0) 1 46 := ⟨by decide +kernel, rfl⟩
theorem d_X8_steals_46 : GF M_X8_steals 46 8 2 49 := ⟨28, ⟨by decide +kernel, rfl⟩, fl_X8_28⟩
theorem d_X8_steals_49 : Dc M_X8_steals 49 (.iload_n 1) 1 50 := ⟨by decide +kernel, rfl⟩
theorem d_X8_steals_50 : Dc M_X8_steals 50 (.iload_n 2) 1 51 := ⟨by decide +kernel, rfl⟩
theorem d_X8_steals_51 : CV M_X8_steals 51 M_X7_comesTo 2 54 := ⟨128, ⟨by decide +kernel, rfl⟩, Or.inr (inT (List.mem_append_right _ (List.mem_append_left _ (List.mem_of_getElem? (l := tables_1_2) (i := 133) (by decide +kernel))))), mf_X7_comesTo, mi_X7_comesTo, ⟨by decide, by decide⟩⟩
theorem d_X8_steals_54 : CV M_X8_steals 54 M_X6_haul 3 57 := ⟨140, ⟨by decide +kernel, rfl⟩, Or.inr (inT (List.mem_append_right _ (List.mem_append_left _ (List.mem_of_getElem? (l := tables_1_2) (i := 157) (by decide +kernel))))), mf_X6_haul, mi_X6_haul, ⟨by decide, by decide⟩⟩
theorem d_X8_steals_57 : Dc M_X8_steals 57 (.ireturn) 1 58 := ⟨by decide +kernel, rfl⟩
theorem d_X8_next_0 : Dc M_X8_next 0 (.iload_n 1) 1 1 := ⟨by decide +kernel, rfl⟩
theorem d_X8_next_1 : KI M_X8_next 1 (nI 0) 2 := Or.inl ⟨0, ⟨by decide +kernel, rfl⟩, by decide⟩
theorem d_X8_next_2 : Dc M_X8_next 2 (.aload_n 0) 1 3 := ⟨by decide +kernel, rfl⟩
theorem d_X8_next_3 : GF M_X8_next 3 8 1 6 := ⟨24, ⟨by decide +kernel, rfl⟩, fl_X8_24⟩
theorem d_X8_next_6 : GF M_X8_next 6 4 4 9 := ⟨143, ⟨by decide +kernel, rfl⟩, fl_X8_143⟩
theorem d_X8_next_9 : CS M_X8_next 9 M_X8_within 3 12 := ⟨64, ⟨by decide +kernel, rfl⟩, Or.inl (inT (List.mem_append_left _ (List.mem_of_getElem? (l := tables_1_1) (i := 234) (by decide +kernel)))), mf_X8_within, ms_X8_within, ⟨by decide, by decide⟩⟩
theorem d_X8_next_12 : Db M_X8_next 12 .eq 41 15 := ⟨29, by decide +kernel, by decide, rfl⟩
theorem d_X8_next_15 : Dc M_X8_next 15 (.iload_n 2) 1 16 := ⟨by decide +kernel, rfl⟩
theorem d_X8_next_16 : KI M_X8_next 16 (-1 : Int32) 17 := Or.inl ⟨(-1), ⟨by decide +kernel, rfl⟩, by decide⟩
theorem d_X8_next_17 : KI M_X8_next 17 (nI 5) 18 := Or.inl ⟨5, ⟨by decide +kernel, rfl⟩, by decide⟩
theorem d_X8_next_18 : CS M_X8_next 18 M_X8_within 3 21 := ⟨64, ⟨by decide +kernel, rfl⟩, Or.inl (inT (List.mem_append_left _ (List.mem_of_getElem? (l := tables_1_1) (i := 234) (by decide +kernel)))), mf_X8_within, ms_X8_within, ⟨by decide, by decide⟩⟩
theorem d_X8_next_21 : Db M_X8_next 21 .eq 41 24 := ⟨20, by decide +kernel, by decide, rfl⟩
theorem d_X8_next_24 : Dc M_X8_next 24 (.iload_n 3) 1 25 := ⟨by decide +kernel, rfl⟩
theorem d_X8_next_25 : CS M_X8_next 25 M_X8_isShed 1 28 := ⟨83, ⟨by decide +kernel, rfl⟩, Or.inl (inT (List.mem_append_right _ (List.mem_append_left _ (List.mem_of_getElem? (l := tables_1_2) (i := 37) (by decide +kernel))))), mf_X8_isShed, ms_X8_isShed, ⟨by decide, by decide⟩⟩
theorem d_X8_next_28 : Db M_X8_next 28 .eq 41 31 := ⟨13, by decide +kernel, by decide, rfl⟩
theorem d_X8_next_31 : Dc M_X8_next 31 (.iload 4) 2 33 := ⟨by decide +kernel, rfl⟩
theorem d_X8_next_33 : KI M_X8_next 33 (nI 0) 34 := Or.inl ⟨0, ⟨by decide +kernel, rfl⟩, by decide⟩
theorem d_X8_next_34 : KI M_X8_next 34 (nI 1) 35 := Or.inl ⟨1, ⟨by decide +kernel, rfl⟩, by decide⟩
theorem d_X8_next_35 : CS M_X8_next 35 M_X8_within 3 38 := ⟨64, ⟨by decide +kernel, rfl⟩, Or.inl (inT (List.mem_append_left _ (List.mem_of_getElem? (l := tables_1_1) (i := 234) (by decide +kernel)))), mf_X8_within, ms_X8_within, ⟨by decide, by decide⟩⟩
theorem d_X8_next_38 : Db M_X8_next 38 .ne 47 41 := ⟨9, by decide +kernel, by decide, rfl⟩
theorem d_X8_next_41 : KI M_X8_next 41 (-2 : Int32) 43 := Or.inr (Or.inl ⟨(-2), ⟨by decide +kernel, rfl⟩, by decide⟩)
theorem d_X8_next_43 : CS M_X8_next 43 M_X8_refusal 1 46 := ⟨146, ⟨by decide +kernel, rfl⟩, Or.inl (inT (List.mem_append_right _ (List.mem_append_left _ (List.mem_of_getElem? (l := tables_1_2) (i := 166) (by decide +kernel))))), mf_X8_refusal, ms_X8_refusal, ⟨by decide, by decide⟩⟩
theorem d_X8_next_46 : Dc M_X8_next 46 (.lreturn) 1 47 := ⟨by decide +kernel, rfl⟩
theorem d_X8_next_47 : Dc M_X8_next 47 (.aload_n 0) 1 48 := ⟨by decide +kernel, rfl⟩
theorem d_X8_next_48 : GF M_X8_next 48 8 3 51 := ⟨37, ⟨by decide +kernel, rfl⟩, fl_X8_37⟩
theorem d_X8_next_51 : Dc M_X8_next 51 (.iload_n 1) 1 52 := ⟨by decide +kernel, rfl⟩
theorem d_X8_next_52 : Dc M_X8_next 52 (.iload_n 2) 1 53 := ⟨by decide +kernel, rfl⟩
theorem d_X8_next_53 : Dc M_X8_next 53 (.iload_n 3) 1 54 := ⟨by decide +kernel, rfl⟩
theorem d_X8_next_54 : CV M_X8_next 54 M_X0_nextBehind 3 57 := ⟨150, ⟨by decide +kernel, rfl⟩, Or.inr (inT (List.mem_append_right _ (List.mem_append_left _ (List.mem_of_getElem? (l := tables_1_2) (i := 170) (by decide +kernel))))), mf_X0_nextBehind, mi_X0_nextBehind, ⟨by decide, by decide⟩⟩
theorem d_X8_next_57 : Dc M_X8_next 57 (.iload 4) 2 59 := ⟨by decide +kernel, rfl⟩
theorem d_X8_next_59 : CV M_X8_next 59 M_X2_part 1 62 := ⟨154, ⟨by decide +kernel, rfl⟩, Or.inr (inT (List.mem_append_right _ (List.mem_append_left _ (List.mem_of_getElem? (l := tables_1_2) (i := 205) (by decide +kernel))))), mf_X2_part, mi_X2_part, ⟨by decide, by decide⟩⟩
theorem d_X8_next_62 : Dc M_X8_next 62 (.lreturn) 1 63 := ⟨by decide +kernel, rfl⟩
theorem d_X8_likely_0 : Dc M_X8_likely 0 (.aload_n 0) 1 1 := ⟨by decide +kernel, rfl⟩
theorem d_X8_likely_1 : GF M_X8_likely 1 8 1 4 := ⟨24, ⟨by decide +kernel, rfl⟩, fl_X8_24⟩
theorem d_X8_likely_4 : Dc M_X8_likely 4 (.iload_n 1) 1 5 := ⟨by decide +kernel, rfl⟩
theorem d_X8_likely_5 : CV M_X8_likely 5 M_X4_isTold 1 8 := ⟨119, ⟨by decide +kernel, rfl⟩, Or.inr (inT (List.mem_append_right _ (List.mem_append_left _ (List.mem_of_getElem? (l := tables_1_2) (i := 106) (by decide +kernel))))), mf_X4_isTold, mi_X4_isTold, ⟨by decide, by decide⟩⟩
theorem d_X8_likely_8 : Db M_X8_likely 8 .eq 20 11 := ⟨12, by decide +kernel, by decide, rfl⟩
theorem d_X8_likely_11 : Dc M_X8_likely 11 (.iload_n 2) 1 12 := ⟨by decide +kernel, rfl⟩
theorem d_X8_likely_12 : KI M_X8_likely 12 (nI 0) 13 := Or.inl ⟨0, ⟨by decide +kernel, rfl⟩, by decide⟩
theorem d_X8_likely_13 : KI M_X8_likely 13 (nI 1) 14 := Or.inl ⟨1, ⟨by decide +kernel, rfl⟩, by decide⟩
theorem d_X8_likely_14 : CS M_X8_likely 14 M_X8_within 3 17 := ⟨64, ⟨by decide +kernel, rfl⟩, Or.inl (inT (List.mem_append_left _ (List.mem_of_getElem? (l := tables_1_1) (i := 234) (by decide +kernel)))), mf_X8_within, ms_X8_within, ⟨by decide, by decide⟩⟩
theorem d_X8_likely_17 : Db M_X8_likely 17 .ne 26 20 := ⟨9, by decide +kernel, by decide, rfl⟩
theorem d_X8_likely_20 : KI M_X8_likely 20 (-2 : Int32) 22 := Or.inr (Or.inl ⟨(-2), ⟨by decide +kernel, rfl⟩, by decide⟩)
theorem d_X8_likely_22 : CS M_X8_likely 22 M_X8_refusal 1 25 := ⟨146, ⟨by decide +kernel, rfl⟩, Or.inl (inT (List.mem_append_right _ (List.mem_append_left _ (List.mem_of_getElem? (l := tables_1_2) (i := 166) (by decide +kernel))))), mf_X8_refusal, ms_X8_refusal, ⟨by decide, by decide⟩⟩
theorem d_X8_likely_25 : Dc M_X8_likely 25 (.lreturn) 1 26 := ⟨by decide +kernel, rfl⟩
theorem d_X8_likely_26 : Dc M_X8_likely 26 (.aload_n 0) 1 27 := ⟨by decide +kernel, rfl⟩
theorem d_X8_likely_27 : GF M_X8_likely 27 8 3 30 := ⟨37, ⟨by decide +kernel, rfl⟩, fl_X8_37⟩
theorem d_X8_likely_30 : Dc M_X8_likely 30 (.iload_n 1) 1 31 := ⟨by decide +kernel, rfl⟩
theorem d_X8_likely_31 : CV M_X8_likely 31 M_X0_likelihood 1 34 := ⟨159, ⟨by decide +kernel, rfl⟩, Or.inr (inT (List.mem_append_right _ (List.mem_append_left _ (List.mem_of_getElem? (l := tables_1_2) (i := 213) (by decide +kernel))))), mf_X0_likelihood, mi_X0_likelihood, ⟨by decide, by decide⟩⟩
theorem d_X8_likely_34 : Dc M_X8_likely 34 (.iload_n 2) 1 35 := ⟨by decide +kernel, rfl⟩
theorem d_X8_likely_35 : CV M_X8_likely 35 M_X2_part 1 38 := ⟨154, ⟨by decide +kernel, rfl⟩, Or.inr (inT (List.mem_append_right _ (List.mem_append_left _ (List.mem_of_getElem? (l := tables_1_2) (i := 205) (by decide +kernel))))), mf_X2_part, mi_X2_part, ⟨by decide, by decide⟩⟩
theorem d_X8_likely_38 : Dc M_X8_likely 38 (.lreturn) 1 39 := ⟨by decide +kernel, rfl⟩
theorem d_X8_fresh_0 : Dc M_X8_fresh 0 (.iload_n 1) 1 1 := ⟨by decide +kernel, rfl⟩
theorem d_X8_fresh_1 : KI M_X8_fresh 1 (-1 : Int32) 2 := Or.inl ⟨(-1), ⟨by decide +kernel, rfl⟩, by decide⟩
theorem d_X8_fresh_2 : KI M_X8_fresh 2 (nI 5) 3 := Or.inl ⟨5, ⟨by decide +kernel, rfl⟩, by decide⟩
theorem d_X8_fresh_3 : CS M_X8_fresh 3 M_X8_within 3 6 := ⟨64, ⟨by decide +kernel, rfl⟩, Or.inl (inT (List.mem_append_left _ (List.mem_of_getElem? (l := tables_1_1) (i := 234) (by decide +kernel)))), mf_X8_within, ms_X8_within, ⟨by decide, by decide⟩⟩
theorem d_X8_fresh_6 : Db M_X8_fresh 6 .ne 12 9 := ⟨6, by decide +kernel, by decide, rfl⟩
theorem d_X8_fresh_9 : KI M_X8_fresh 9 (-2 : Int32) 11 := Or.inr (Or.inl ⟨(-2), ⟨by decide +kernel, rfl⟩, by decide⟩)
theorem d_X8_fresh_11 : Dc M_X8_fresh 11 (.ireturn) 1 12 := ⟨by decide +kernel, rfl⟩
theorem d_X8_fresh_12 : Dc M_X8_fresh 12 (.aload_n 0) 1 13 := ⟨by decide +kernel, rfl⟩
theorem d_X8_fresh_13 : GF M_X8_fresh 13 8 3 16 := ⟨37, ⟨by decide +kernel, rfl⟩, fl_X8_37⟩
theorem d_X8_fresh_16 : CV M_X8_fresh 16 M_X0_findEndings 0 19 := ⟨163, ⟨by decide +kernel, rfl⟩, Or.inr (inT (List.mem_append_right _ (List.mem_append_left _ (List.mem_of_getElem? (l := tables_1_2) (i := 226) (by decide +kernel))))), mf_X0_findEndings, mi_X0_findEndings, ⟨by decide, by decide⟩⟩
theorem d_X8_fresh_19 : Dc M_X8_fresh 19 (.iload_n 1) 1 20 := ⟨by decide +kernel, rfl⟩
theorem d_X8_fresh_20 : KI M_X8_fresh 20 (-1 : Int32) 21 := Or.inl ⟨(-1), ⟨by decide +kernel, rfl⟩, by decide⟩
theorem d_X8_fresh_21 : Di M_X8_fresh 21 .ne 36 24 := ⟨15, by decide +kernel, by decide, rfl⟩
theorem d_X8_fresh_24 : Dc M_X8_fresh 24 (.aload_n 0) 1 25 := ⟨by decide +kernel, rfl⟩
theorem d_X8_fresh_25 : GF M_X8_fresh 25 8 3 28 := ⟨37, ⟨by decide +kernel, rfl⟩, fl_X8_37⟩
theorem d_X8_fresh_28 : KI M_X8_fresh 28 (nI 0) 29 := Or.inl ⟨0, ⟨by decide +kernel, rfl⟩, by decide⟩
theorem d_X8_fresh_29 : KI M_X8_fresh 29 (-1 : Int32) 30 := Or.inl ⟨(-1), ⟨by decide +kernel, rfl⟩, by decide⟩
theorem d_X8_fresh_30 : CV M_X8_fresh 30 M_X0_endingsBehind 2 33 := ⟨166, ⟨by decide +kernel, rfl⟩, Or.inr (inT (List.mem_append_right _ (List.mem_append_left _ (List.mem_of_getElem? (l := tables_1_2) (i := 239) (by decide +kernel))))), mf_X0_endingsBehind, mi_X0_endingsBehind, ⟨by decide, by decide⟩⟩
theorem d_X8_fresh_33 : Dg M_X8_fresh 33 44 := ⟨11, by decide +kernel, by decide⟩
theorem d_X8_fresh_36 : Dc M_X8_fresh 36 (.aload_n 0) 1 37 := ⟨by decide +kernel, rfl⟩
theorem d_X8_fresh_37 : GF M_X8_fresh 37 8 3 40 := ⟨37, ⟨by decide +kernel, rfl⟩, fl_X8_37⟩
theorem d_X8_fresh_40 : Dc M_X8_fresh 40 (.iload_n 1) 1 41 := ⟨by decide +kernel, rfl⟩
theorem d_X8_fresh_41 : CV M_X8_fresh 41 M_X0_leastNewRow 1 44 := ⟨169, ⟨by decide +kernel, rfl⟩, Or.inr (inT (List.mem_append_right _ (List.mem_append_right _ (List.mem_append_left _ (List.mem_of_getElem? (l := tables_1_3) (i := 0) (by decide +kernel)))))), mf_X0_leastNewRow, mi_X0_leastNewRow, ⟨by decide, by decide⟩⟩
theorem d_X8_fresh_44 : Dc M_X8_fresh 44 (.ireturn) 1 45 := ⟨by decide +kernel, rfl⟩
theorem d_X8_breaks_0 : Dc M_X8_breaks 0 (.aload_n 0) 1 1 := ⟨by decide +kernel, rfl⟩
theorem d_X8_breaks_1 : Dc M_X8_breaks 1 (.iload_n 1) 1 2 := ⟨by decide +kernel, rfl⟩
theorem d_X8_breaks_2 : Dc M_X8_breaks 2 (.iload_n 2) 1 3 := ⟨by decide +kernel, rfl⟩
theorem d_X8_breaks_3 : Dc M_X8_breaks 3 (.iload_n 3) 1 4 := ⟨by decide +kernel, rfl⟩
theorem d_X8_breaks_4 : CV M_X8_breaks 4 M_X8_isLot 3 7 := ⟨172, ⟨by decide +kernel, rfl⟩, Or.inl (inT (List.mem_append_right _ (List.mem_append_right _ (List.mem_append_left _ (List.mem_of_getElem? (l := tables_1_3) (i := 12) (by decide +kernel)))))), mf_X8_isLot, mi_X8_isLot, ⟨by decide, by decide⟩⟩
theorem d_X8_breaks_7 : Db M_X8_breaks 7 .eq 20 10 := ⟨13, by decide +kernel, by decide, rfl⟩
theorem d_X8_breaks_10 : Dc M_X8_breaks 10 (.iload 4) 2 12 := ⟨by decide +kernel, rfl⟩
theorem d_X8_breaks_12 : KI M_X8_breaks 12 (nI 0) 13 := Or.inl ⟨0, ⟨by decide +kernel, rfl⟩, by decide⟩
theorem d_X8_breaks_13 : KI M_X8_breaks 13 (nI 2) 14 := Or.inl ⟨2, ⟨by decide +kernel, rfl⟩, by decide⟩
theorem d_X8_breaks_14 : CS M_X8_breaks 14 M_X8_within 3 17 := ⟨64, ⟨by decide +kernel, rfl⟩, Or.inl (inT (List.mem_append_left _ (List.mem_of_getElem? (l := tables_1_1) (i := 234) (by decide +kernel)))), mf_X8_within, ms_X8_within, ⟨by decide, by decide⟩⟩
theorem d_X8_breaks_17 : Db M_X8_breaks 17 .ne 23 20 := ⟨6, by decide +kernel, by decide, rfl⟩
theorem d_X8_breaks_20 : KI M_X8_breaks 20 (-2 : Int32) 22 := Or.inr (Or.inl ⟨(-2), ⟨by decide +kernel, rfl⟩, by decide⟩)
theorem d_X8_breaks_22 : Dc M_X8_breaks 22 (.ireturn) 1 23 := ⟨by decide +kernel, rfl⟩
theorem d_X8_breaks_23 : Dc M_X8_breaks 23 (.aload_n 0) 1 24 := ⟨by decide +kernel, rfl⟩
theorem d_X8_breaks_24 : GF M_X8_breaks 24 8 4 27 := ⟨46, ⟨by decide +kernel, rfl⟩, fl_X8_46⟩
theorem d_X8_breaks_27 : Dc M_X8_breaks 27 (.iload_n 1) 1 28 := ⟨by decide +kernel, rfl⟩
theorem d_X8_breaks_28 : Dc M_X8_breaks 28 (.iload_n 3) 1 29 := ⟨by decide +kernel, rfl⟩
theorem d_X8_breaks_29 : Dc M_X8_breaks 29 (.iload_n 2) 1 30 := ⟨by decide +kernel, rfl⟩
theorem d_X8_breaks_30 : KI M_X8_breaks 30 (nI 16) 32 := Or.inr (Or.inl ⟨16, ⟨by decide +kernel, rfl⟩, by decide⟩)
theorem d_X8_breaks_32 : Dc M_X8_breaks 32 (.iload_n 3) 1 33 := ⟨by decide +kernel, rfl⟩
theorem d_X8_breaks_33 : Dc M_X8_breaks 33 (.isub) 1 34 := ⟨by decide +kernel, rfl⟩
theorem d_X8_breaks_34 : KI M_X8_breaks 34 (nI 0) 35 := Or.inl ⟨0, ⟨by decide +kernel, rfl⟩, by decide⟩
theorem d_X8_breaks_35 : KI M_X8_breaks 35 (-1 : Int32) 36 := Or.inl ⟨(-1), ⟨by decide +kernel, rfl⟩, by decide⟩
theorem d_X8_breaks_36 : CV M_X8_breaks 36 M_X6_seek 6 39 := ⟨175, ⟨by decide +kernel, rfl⟩, Or.inr (inT (List.mem_append_right _ (List.mem_append_right _ (List.mem_append_left _ (List.mem_of_getElem? (l := tables_1_3) (i := 19) (by decide +kernel)))))), mf_X6_seek, mi_X6_seek, ⟨by decide, by decide⟩⟩
theorem d_X8_breaks_39 : Dc M_X8_breaks 39 (.aload_n 0) 1 40 := ⟨by decide +kernel, rfl⟩
theorem d_X8_breaks_40 : GF M_X8_breaks 40 8 4 43 := ⟨46, ⟨by decide +kernel, rfl⟩, fl_X8_46⟩
theorem d_X8_breaks_43 : Dc M_X8_breaks 43 (.iload 4) 2 45 := ⟨by decide +kernel, rfl⟩
theorem d_X8_breaks_45 : CV M_X8_breaks 45 M_X6_part 1 48 := ⟨179, ⟨by decide +kernel, rfl⟩, Or.inr (inT (List.mem_append_right _ (List.mem_append_right _ (List.mem_append_left _ (List.mem_of_getElem? (l := tables_1_3) (i := 29) (by decide +kernel)))))), mf_X6_part, mi_X6_part, ⟨by decide, by decide⟩⟩
theorem d_X8_breaks_48 : Dc M_X8_breaks 48 (.ireturn) 1 49 := ⟨by decide +kernel, rfl⟩
theorem d_X8_seen_0 : Dc M_X8_seen 0 (.aload_n 0) 1 1 := ⟨by decide +kernel, rfl⟩
theorem d_X8_seen_1 : Dc M_X8_seen 1 (.iload_n 1) 1 2 := ⟨by decide +kernel, rfl⟩
theorem d_X8_seen_2 : Dc M_X8_seen 2 (.iload_n 2) 1 3 := ⟨by decide +kernel, rfl⟩
theorem d_X8_seen_3 : Dc M_X8_seen 3 (.iload_n 3) 1 4 := ⟨by decide +kernel, rfl⟩
theorem d_X8_seen_4 : CV M_X8_seen 4 M_X8_isLot 3 7 := ⟨172, ⟨by decide +kernel, rfl⟩, Or.inl (inT (List.mem_append_right _ (List.mem_append_right _ (List.mem_append_left _ (List.mem_of_getElem? (l := tables_1_3) (i := 12) (by decide +kernel)))))), mf_X8_isLot, mi_X8_isLot, ⟨by decide, by decide⟩⟩
theorem d_X8_seen_7 : Db M_X8_seen 7 .eq 28 10 := ⟨21, by decide +kernel, by decide, rfl⟩
theorem d_X8_seen_10 : Dc M_X8_seen 10 (.iload 4) 2 12 := ⟨by decide +kernel, rfl⟩
theorem d_X8_seen_12 : CS M_X8_seen 12 M_X8_isShed 1 15 := ⟨83, ⟨by decide +kernel, rfl⟩, Or.inl (inT (List.mem_append_right _ (List.mem_append_left _ (List.mem_of_getElem? (l := tables_1_2) (i := 37) (by decide +kernel))))), mf_X8_isShed, ms_X8_isShed, ⟨by decide, by decide⟩⟩
theorem d_X8_seen_15 : Db M_X8_seen 15 .eq 28 18 := ⟨13, by decide +kernel, by decide, rfl⟩
theorem d_X8_seen_18 : Dc M_X8_seen 18 (.iload 5) 2 20 := ⟨by decide +kernel, rfl⟩
theorem d_X8_seen_20 : KI M_X8_seen 20 (nI 0) 21 := Or.inl ⟨0, ⟨by decide +kernel, rfl⟩, by decide⟩
theorem d_X8_seen_21 : KI M_X8_seen 21 (nI 2) 22 := Or.inl ⟨2, ⟨by decide +kernel, rfl⟩, by decide⟩
theorem d_X8_seen_22 : CS M_X8_seen 22 M_X8_within 3 25 := ⟨64, ⟨by decide +kernel, rfl⟩, Or.inl (inT (List.mem_append_left _ (List.mem_of_getElem? (l := tables_1_1) (i := 234) (by decide +kernel)))), mf_X8_within, ms_X8_within, ⟨by decide, by decide⟩⟩
theorem d_X8_seen_25 : Db M_X8_seen 25 .ne 31 28 := ⟨6, by decide +kernel, by decide, rfl⟩
theorem d_X8_seen_28 : KI M_X8_seen 28 (-2 : Int32) 30 := Or.inr (Or.inl ⟨(-2), ⟨by decide +kernel, rfl⟩, by decide⟩)
theorem d_X8_seen_30 : Dc M_X8_seen 30 (.ireturn) 1 31 := ⟨by decide +kernel, rfl⟩
theorem d_X8_seen_31 : Dc M_X8_seen 31 (.aload_n 0) 1 32 := ⟨by decide +kernel, rfl⟩
theorem d_X8_seen_32 : GF M_X8_seen 32 8 1 35 := ⟨24, ⟨by decide +kernel, rfl⟩, fl_X8_24⟩
theorem d_X8_seen_35 : Dc M_X8_seen 35 (.iload_n 1) 1 36 := ⟨by decide +kernel, rfl⟩
theorem d_X8_seen_36 : KI M_X8_seen 36 (nI 0) 37 := Or.inl ⟨0, ⟨by decide +kernel, rfl⟩, by decide⟩
theorem d_X8_seen_37 : CV M_X8_seen 37 M_X4_shedOf 2 40 := ⟨122, ⟨by decide +kernel, rfl⟩, Or.inr (inT (List.mem_append_right _ (List.mem_append_left _ (List.mem_of_getElem? (l := tables_1_2) (i := 110) (by decide +kernel))))), mf_X4_shedOf, mi_X4_shedOf, ⟨by decide, by decide⟩⟩
theorem d_X8_seen_40 : Dc M_X8_seen 40 (.iload 4) 2 42 := ⟨by decide +kernel, rfl⟩
theorem d_X8_seen_42 : Di M_X8_seen 42 .ne 49 45 := ⟨7, by decide +kernel, by decide, rfl⟩
theorem d_X8_seen_45 : Dc M_X8_seen 45 (.iload_n 3) 1 46 := ⟨by decide +kernel, rfl⟩
theorem d_X8_seen_46 : Dg M_X8_seen 46 50 := ⟨4, by decide +kernel, by decide⟩
theorem d_X8_seen_49 : KI M_X8_seen 49 (nI 0) 50 := Or.inl ⟨0, ⟨by decide +kernel, rfl⟩, by decide⟩
theorem d_X8_seen_50 : Dc M_X8_seen 50 (.istore 6) 2 52 := ⟨by decide +kernel, rfl⟩
theorem d_X8_seen_52 : Dc M_X8_seen 52 (.aload_n 0) 1 53 := ⟨by decide +kernel, rfl⟩
theorem d_X8_seen_53 : GF M_X8_seen 53 8 1 56 := ⟨24, ⟨by decide +kernel, rfl⟩, fl_X8_24⟩
theorem d_X8_seen_56 : Dc M_X8_seen 56 (.iload_n 2) 1 57 := ⟨by decide +kernel, rfl⟩
theorem d_X8_seen_57 : KI M_X8_seen 57 (nI 0) 58 := Or.inl ⟨0, ⟨by decide +kernel, rfl⟩, by decide⟩
theorem d_X8_seen_58 : CV M_X8_seen 58 M_X4_shedOf 2 61 := ⟨122, ⟨by decide +kernel, rfl⟩, Or.inr (inT (List.mem_append_right _ (List.mem_append_left _ (List.mem_of_getElem? (l := tables_1_2) (i := 110) (by decide +kernel))))), mf_X4_shedOf, mi_X4_shedOf, ⟨by decide, by decide⟩⟩
theorem d_X8_seen_61 : Dc M_X8_seen 61 (.iload 4) 2 63 := ⟨by decide +kernel, rfl⟩
theorem d_X8_seen_63 : Di M_X8_seen 63 .ne 73 66 := ⟨10, by decide +kernel, by decide, rfl⟩
theorem d_X8_seen_66 : KI M_X8_seen 66 (nI 16) 68 := Or.inr (Or.inl ⟨16, ⟨by decide +kernel, rfl⟩, by decide⟩)
theorem d_X8_seen_68 : Dc M_X8_seen 68 (.iload_n 3) 1 69 := ⟨by decide +kernel, rfl⟩
theorem d_X8_seen_69 : Dc M_X8_seen 69 (.isub) 1 70 := ⟨by decide +kernel, rfl⟩
theorem d_X8_seen_70 : Dg M_X8_seen 70 74 := ⟨4, by decide +kernel, by decide⟩
theorem d_X8_seen_73 : KI M_X8_seen 73 (nI 0) 74 := Or.inl ⟨0, ⟨by decide +kernel, rfl⟩, by decide⟩
theorem d_X8_seen_74 : Dc M_X8_seen 74 (.istore 7) 2 76 := ⟨by decide +kernel, rfl⟩
theorem d_X8_seen_76 : Dc M_X8_seen 76 (.iload 6) 2 78 := ⟨by decide +kernel, rfl⟩
theorem d_X8_seen_78 : Dc M_X8_seen 78 (.iload 7) 2 80 := ⟨by decide +kernel, rfl⟩
theorem d_X8_seen_80 : Dc M_X8_seen 80 (.iadd) 1 81 := ⟨by decide +kernel, rfl⟩
theorem d_X8_seen_81 : Db M_X8_seen 81 .ne 87 84 := ⟨6, by decide +kernel, by decide, rfl⟩
theorem d_X8_seen_84 : KI M_X8_seen 84 (-3 : Int32) 86 := Or.inr (Or.inl ⟨(-3), ⟨by decide +kernel, rfl⟩, by decide⟩)
theorem d_X8_seen_86 : Dc M_X8_seen 86 (.ireturn) 1 87 := ⟨by decide +kernel, rfl⟩
theorem d_X8_seen_87 : Dc M_X8_seen 87 (.aload_n 0) 1 88 := ⟨by decide +kernel, rfl⟩
theorem d_X8_seen_88 : GF M_X8_seen 88 8 4 91 := ⟨46, ⟨by decide +kernel, rfl⟩, fl_X8_46⟩
theorem d_X8_seen_91 : Dc M_X8_seen 91 (.iload_n 1) 1 92 := ⟨by decide +kernel, rfl⟩
theorem d_X8_seen_92 : Dc M_X8_seen 92 (.iload 6) 2 94 := ⟨by decide +kernel, rfl⟩
theorem d_X8_seen_94 : Dc M_X8_seen 94 (.iload_n 2) 1 95 := ⟨by decide +kernel, rfl⟩
theorem d_X8_seen_95 : Dc M_X8_seen 95 (.iload 7) 2 97 := ⟨by decide +kernel, rfl⟩
theorem d_X8_seen_97 : KI M_X8_seen 97 (nI 1) 98 := Or.inl ⟨1, ⟨by decide +kernel, rfl⟩, by decide⟩
theorem d_X8_seen_98 : KI M_X8_seen 98 (-1 : Int32) 99 := Or.inl ⟨(-1), ⟨by decide +kernel, rfl⟩, by decide⟩
theorem d_X8_seen_99 : CV M_X8_seen 99 M_X6_seek 6 102 := ⟨175, ⟨by decide +kernel, rfl⟩, Or.inr (inT (List.mem_append_right _ (List.mem_append_right _ (List.mem_append_left _ (List.mem_of_getElem? (l := tables_1_3) (i := 19) (by decide +kernel)))))), mf_X6_seek, mi_X6_seek, ⟨by decide, by decide⟩⟩
theorem d_X8_seen_102 : Dc M_X8_seen 102 (.aload_n 0) 1 103 := ⟨by decide +kernel, rfl⟩
theorem d_X8_seen_103 : GF M_X8_seen 103 8 4 106 := ⟨46, ⟨by decide +kernel, rfl⟩, fl_X8_46⟩
theorem d_X8_seen_106 : Dc M_X8_seen 106 (.iload 5) 2 108 := ⟨by decide +kernel, rfl⟩
theorem d_X8_seen_108 : CV M_X8_seen 108 M_X6_part 1 111 := ⟨179, ⟨by decide +kernel, rfl⟩, Or.inr (inT (List.mem_append_right _ (List.mem_append_right _ (List.mem_append_left _ (List.mem_of_getElem? (l := tables_1_3) (i := 29) (by decide +kernel)))))), mf_X6_part, mi_X6_part, ⟨by decide, by decide⟩⟩
theorem d_X8_seen_111 : Dc M_X8_seen 111 (.ireturn) 1 112 := ⟨by decide +kernel, rfl⟩
theorem d_X8_least_0 : Dc M_X8_least 0 (.aload_n 0) 1 1 := ⟨by decide +kernel, rfl⟩
theorem d_X8_least_1 : GF M_X8_least 1 8 1 4 := ⟨24, ⟨by decide +kernel, rfl⟩, fl_X8_24⟩
theorem d_X8_least_4 : Dc M_X8_least 4 (.iload_n 1) 1 5 := ⟨by decide +kernel, rfl⟩
theorem d_X8_least_5 : CV M_X8_least 5 M_X4_isTold 1 8 := ⟨119, ⟨by decide +kernel, rfl⟩, Or.inr (inT (List.mem_append_right _ (List.mem_append_left _ (List.mem_of_getElem? (l := tables_1_2) (i := 106) (by decide +kernel))))), mf_X4_isTold, mi_X4_isTold, ⟨by decide, by decide⟩⟩
theorem d_X8_least_8 : Db M_X8_least 8 .eq 31 11 := ⟨23, by decide +kernel, by decide, rfl⟩
theorem d_X8_least_11 : Dc M_X8_least 11 (.aload_n 0) 1 12 := ⟨by decide +kernel, rfl⟩
theorem d_X8_least_12 : GF M_X8_least 12 8 1 15 := ⟨24, ⟨by decide +kernel, rfl⟩, fl_X8_24⟩
theorem d_X8_least_15 : Dc M_X8_least 15 (.iload_n 2) 1 16 := ⟨by decide +kernel, rfl⟩
theorem d_X8_least_16 : CV M_X8_least 16 M_X4_isTold 1 19 := ⟨119, ⟨by decide +kernel, rfl⟩, Or.inr (inT (List.mem_append_right _ (List.mem_append_left _ (List.mem_of_getElem? (l := tables_1_2) (i := 106) (by decide +kernel))))), mf_X4_isTold, mi_X4_isTold, ⟨by decide, by decide⟩⟩
theorem d_X8_least_19 : Db M_X8_least 19 .eq 31 22 := ⟨12, by decide +kernel, by decide, rfl⟩
theorem d_X8_least_22 : Dc M_X8_least 22 (.iload_n 3) 1 23 := ⟨by decide +kernel, rfl⟩
theorem d_X8_least_23 : KI M_X8_least 23 (nI 0) 24 := Or.inl ⟨0, ⟨by decide +kernel, rfl⟩, by decide⟩
theorem d_X8_least_24 : KI M_X8_least 24 (nI 3) 25 := Or.inl ⟨3, ⟨by decide +kernel, rfl⟩, by decide⟩
theorem d_X8_least_25 : CS M_X8_least 25 M_X8_within 3 28 := ⟨64, ⟨by decide +kernel, rfl⟩, Or.inl (inT (List.mem_append_left _ (List.mem_of_getElem? (l := tables_1_1) (i := 234) (by decide +kernel)))), mf_X8_within, ms_X8_within, ⟨by decide, by decide⟩⟩
theorem d_X8_least_28 : Db M_X8_least 28 .ne 37 31 := ⟨9, by decide +kernel, by decide, rfl⟩
theorem d_X8_least_31 : KI M_X8_least 31 (-2 : Int32) 33 := Or.inr (Or.inl ⟨(-2), ⟨by decide +kernel, rfl⟩, by decide⟩)
theorem d_X8_least_33 : CS M_X8_least 33 M_X8_refusal 1 36 := ⟨146, ⟨by decide +kernel, rfl⟩, Or.inl (inT (List.mem_append_right _ (List.mem_append_left _ (List.mem_of_getElem? (l := tables_1_2) (i := 166) (by decide +kernel))))), mf_X8_refusal, ms_X8_refusal, ⟨by decide, by decide⟩⟩
theorem d_X8_least_36 : Dc M_X8_least 36 (.lreturn) 1 37 := ⟨by decide +kernel, rfl⟩
theorem d_X8_least_37 : Dc M_X8_least 37 (.iload_n 3) 1 38 := ⟨by decide +kernel, rfl⟩
theorem d_X8_least_38 : KI M_X8_least 38 (nI 2) 39 := Or.inl ⟨2, ⟨by decide +kernel, rfl⟩, by decide⟩
theorem d_X8_least_39 : Di M_X8_least 39 .ge 58 42 := ⟨19, by decide +kernel, by decide, rfl⟩
theorem d_X8_least_42 : Dc M_X8_least 42 (.aload_n 0) 1 43 := ⟨by decide +kernel, rfl⟩
theorem d_X8_least_43 : GF M_X8_least 43 8 4 46 := ⟨46, ⟨by decide +kernel, rfl⟩, fl_X8_46⟩
theorem d_X8_least_46 : Dc M_X8_least 46 (.iload_n 1) 1 47 := ⟨by decide +kernel, rfl⟩
theorem d_X8_least_47 : Dc M_X8_least 47 (.iload_n 2) 1 48 := ⟨by decide +kernel, rfl⟩
theorem d_X8_least_48 : CV M_X8_least 48 M_X6_leastLot 2 51 := ⟨181, ⟨by decide +kernel, rfl⟩, Or.inr (inT (List.mem_append_right _ (List.mem_append_right _ (List.mem_append_left _ (List.mem_of_getElem? (l := tables_1_3) (i := 41) (by decide +kernel)))))), mf_X6_leastLot, mi_X6_leastLot, ⟨by decide, by decide⟩⟩
theorem d_X8_least_51 : Dc M_X8_least 51 (.iload_n 3) 1 52 := ⟨by decide +kernel, rfl⟩
theorem d_X8_least_52 : CV M_X8_least 52 M_X2_part 1 55 := ⟨154, ⟨by decide +kernel, rfl⟩, Or.inr (inT (List.mem_append_right _ (List.mem_append_left _ (List.mem_of_getElem? (l := tables_1_2) (i := 205) (by decide +kernel))))), mf_X2_part, mi_X2_part, ⟨by decide, by decide⟩⟩
theorem d_X8_least_55 : Dg M_X8_least 55 73 := ⟨18, by decide +kernel, by decide⟩
theorem d_X8_least_58 : Dc M_X8_least 58 (.aload_n 0) 1 59 := ⟨by decide +kernel, rfl⟩
theorem d_X8_least_59 : GF M_X8_least 59 8 4 62 := ⟨46, ⟨by decide +kernel, rfl⟩, fl_X8_46⟩
theorem d_X8_least_62 : Dc M_X8_least 62 (.iload_n 1) 1 63 := ⟨by decide +kernel, rfl⟩
theorem d_X8_least_63 : Dc M_X8_least 63 (.iload_n 2) 1 64 := ⟨by decide +kernel, rfl⟩
theorem d_X8_least_64 : CV M_X8_least 64 M_X6_leastMean 2 67 := ⟨185, ⟨by decide +kernel, rfl⟩, Or.inr (inT (List.mem_append_right _ (List.mem_append_right _ (List.mem_append_left _ (List.mem_of_getElem? (l := tables_1_3) (i := 59) (by decide +kernel)))))), mf_X6_leastMean, mi_X6_leastMean, ⟨by decide, by decide⟩⟩
theorem d_X8_least_67 : Dc M_X8_least 67 (.iload_n 3) 1 68 := ⟨by decide +kernel, rfl⟩
theorem d_X8_least_68 : KI M_X8_least 68 (nI 2) 69 := Or.inl ⟨2, ⟨by decide +kernel, rfl⟩, by decide⟩
theorem d_X8_least_69 : Dc M_X8_least 69 (.isub) 1 70 := ⟨by decide +kernel, rfl⟩
theorem d_X8_least_70 : CV M_X8_least 70 M_X2_part 1 73 := ⟨154, ⟨by decide +kernel, rfl⟩, Or.inr (inT (List.mem_append_right _ (List.mem_append_left _ (List.mem_of_getElem? (l := tables_1_2) (i := 205) (by decide +kernel))))), mf_X2_part, mi_X2_part, ⟨by decide, by decide⟩⟩
theorem d_X8_least_73 : Dc M_X8_least 73 (.lreturn) 1 74 := ⟨by decide +kernel, rfl⟩
theorem d_X8_lamp_0 : Dc M_X8_lamp 0 (.aload_n 0) 1 1 := ⟨by decide +kernel, rfl⟩
theorem d_X8_lamp_1 : Dc M_X8_lamp 1 (.iload_n 1) 1 2 := ⟨by decide +kernel, rfl⟩
theorem d_X8_lamp_2 : Dc M_X8_lamp 2 (.iload_n 2) 1 3 := ⟨by decide +kernel, rfl⟩
theorem d_X8_lamp_3 : Dc M_X8_lamp 3 (.iload_n 3) 1 4 := ⟨by decide +kernel, rfl⟩
theorem d_X8_lamp_4 : CV M_X8_lamp 4 M_X8_isLot 3 7 := ⟨172, ⟨by decide +kernel, rfl⟩, Or.inl (inT (List.mem_append_right _ (List.mem_append_right _ (List.mem_append_left _ (List.mem_of_getElem? (l := tables_1_3) (i := 12) (by decide +kernel)))))), mf_X8_isLot, mi_X8_isLot, ⟨by decide, by decide⟩⟩
theorem d_X8_lamp_7 : Db M_X8_lamp 7 .eq 18 10 := ⟨11, by decide +kernel, by decide, rfl⟩
theorem d_X8_lamp_10 : Dc M_X8_lamp 10 (.iload 4) 2 12 := ⟨by decide +kernel, rfl⟩
theorem d_X8_lamp_12 : CS M_X8_lamp 12 M_X8_isShed 1 15 := ⟨83, ⟨by decide +kernel, rfl⟩, Or.inl (inT (List.mem_append_right _ (List.mem_append_left _ (List.mem_of_getElem? (l := tables_1_2) (i := 37) (by decide +kernel))))), mf_X8_isShed, ms_X8_isShed, ⟨by decide, by decide⟩⟩
theorem d_X8_lamp_15 : Db M_X8_lamp 15 .ne 21 18 := ⟨6, by decide +kernel, by decide, rfl⟩
theorem d_X8_lamp_18 : KI M_X8_lamp 18 (-2 : Int32) 20 := Or.inr (Or.inl ⟨(-2), ⟨by decide +kernel, rfl⟩, by decide⟩)
theorem d_X8_lamp_20 : Dc M_X8_lamp 20 (.ireturn) 1 21 := ⟨by decide +kernel, rfl⟩
theorem d_X8_lamp_21 : Dc M_X8_lamp 21 (.aload_n 0) 1 22 := ⟨by decide +kernel, rfl⟩
theorem d_X8_lamp_22 : GF M_X8_lamp 22 8 4 25 := ⟨46, ⟨by decide +kernel, rfl⟩, fl_X8_46⟩
theorem d_X8_lamp_25 : Dc M_X8_lamp 25 (.iload_n 1) 1 26 := ⟨by decide +kernel, rfl⟩
theorem d_X8_lamp_26 : Dc M_X8_lamp 26 (.iload_n 3) 1 27 := ⟨by decide +kernel, rfl⟩
theorem d_X8_lamp_27 : Dc M_X8_lamp 27 (.iload_n 2) 1 28 := ⟨by decide +kernel, rfl⟩
theorem d_X8_lamp_28 : KI M_X8_lamp 28 (nI 16) 30 := Or.inr (Or.inl ⟨16, ⟨by decide +kernel, rfl⟩, by decide⟩)
theorem d_X8_lamp_30 : Dc M_X8_lamp 30 (.iload_n 3) 1 31 := ⟨by decide +kernel, rfl⟩
theorem d_X8_lamp_31 : Dc M_X8_lamp 31 (.isub) 1 32 := ⟨by decide +kernel, rfl⟩
theorem d_X8_lamp_32 : KI M_X8_lamp 32 (nI 0) 33 := Or.inl ⟨0, ⟨by decide +kernel, rfl⟩, by decide⟩
theorem d_X8_lamp_33 : KI M_X8_lamp 33 (-1 : Int32) 34 := Or.inl ⟨(-1), ⟨by decide +kernel, rfl⟩, by decide⟩
theorem d_X8_lamp_34 : CV M_X8_lamp 34 M_X6_seek 6 37 := ⟨175, ⟨by decide +kernel, rfl⟩, Or.inr (inT (List.mem_append_right _ (List.mem_append_right _ (List.mem_append_left _ (List.mem_of_getElem? (l := tables_1_3) (i := 19) (by decide +kernel)))))), mf_X6_seek, mi_X6_seek, ⟨by decide, by decide⟩⟩
theorem d_X8_lamp_37 : Dc M_X8_lamp 37 (.aload_n 0) 1 38 := ⟨by decide +kernel, rfl⟩
theorem d_X8_lamp_38 : GF M_X8_lamp 38 8 4 41 := ⟨46, ⟨by decide +kernel, rfl⟩, fl_X8_46⟩
theorem d_X8_lamp_41 : KI M_X8_lamp 41 (nI 2) 42 := Or.inl ⟨2, ⟨by decide +kernel, rfl⟩, by decide⟩
theorem d_X8_lamp_42 : CV M_X8_lamp 42 M_X6_part 1 45 := ⟨179, ⟨by decide +kernel, rfl⟩, Or.inr (inT (List.mem_append_right _ (List.mem_append_right _ (List.mem_append_left _ (List.mem_of_getElem? (l := tables_1_3) (i := 29) (by decide +kernel)))))), mf_X6_part, mi_X6_part, ⟨by decide, by decide⟩⟩
theorem d_X8_lamp_45 : Dc M_X8_lamp 45 (.istore 5) 2 47 := ⟨by decide +kernel, rfl⟩
theorem d_X8_lamp_47 : Dc M_X8_lamp 47 (.aload_n 0) 1 48 := ⟨by decide +kernel, rfl⟩
theorem d_X8_lamp_48 : GF M_X8_lamp 48 8 4 51 := ⟨46, ⟨by decide +kernel, rfl⟩, fl_X8_46⟩
theorem d_X8_lamp_51 : Dc M_X8_lamp 51 (.iload_n 1) 1 52 := ⟨by decide +kernel, rfl⟩
theorem d_X8_lamp_52 : Dc M_X8_lamp 52 (.iload_n 3) 1 53 := ⟨by decide +kernel, rfl⟩
theorem d_X8_lamp_53 : Dc M_X8_lamp 53 (.iload_n 2) 1 54 := ⟨by decide +kernel, rfl⟩
theorem d_X8_lamp_54 : KI M_X8_lamp 54 (nI 16) 56 := Or.inr (Or.inl ⟨16, ⟨by decide +kernel, rfl⟩, by decide⟩)
theorem d_X8_lamp_56 : Dc M_X8_lamp 56 (.iload_n 3) 1 57 := ⟨by decide +kernel, rfl⟩
theorem d_X8_lamp_57 : Dc M_X8_lamp 57 (.isub) 1 58 := ⟨by decide +kernel, rfl⟩
theorem d_X8_lamp_58 : KI M_X8_lamp 58 (nI 0) 59 := Or.inl ⟨0, ⟨by decide +kernel, rfl⟩, by decide⟩
theorem d_X8_lamp_59 : Dc M_X8_lamp 59 (.iload 4) 2 61 := ⟨by decide +kernel, rfl⟩
theorem d_X8_lamp_61 : CV M_X8_lamp 61 M_X6_seek 6 64 := ⟨175, ⟨by decide +kernel, rfl⟩, Or.inr (inT (List.mem_append_right _ (List.mem_append_right _ (List.mem_append_left _ (List.mem_of_getElem? (l := tables_1_3) (i := 19) (by decide +kernel)))))), mf_X6_seek, mi_X6_seek, ⟨by decide, by decide⟩⟩
theorem d_X8_lamp_64 : Dc M_X8_lamp 64 (.iload 5) 2 66 := ⟨by decide +kernel, rfl⟩
theorem d_X8_lamp_66 : Dc M_X8_lamp 66 (.aload_n 0) 1 67 := ⟨by decide +kernel, rfl⟩
theorem d_X8_lamp_67 : GF M_X8_lamp 67 8 4 70 := ⟨46, ⟨by decide +kernel, rfl⟩, fl_X8_46⟩
theorem d_X8_lamp_70 : KI M_X8_lamp 70 (nI 2) 71 := Or.inl ⟨2, ⟨by decide +kernel, rfl⟩, by decide⟩
theorem d_X8_lamp_71 : CV M_X8_lamp 71 M_X6_part 1 74 := ⟨179, ⟨by decide +kernel, rfl⟩, Or.inr (inT (List.mem_append_right _ (List.mem_append_right _ (List.mem_append_left _ (List.mem_of_getElem? (l := tables_1_3) (i := 29) (by decide +kernel)))))), mf_X6_part, mi_X6_part, ⟨by decide, by decide⟩⟩
theorem d_X8_lamp_74 : Dc M_X8_lamp 74 (.isub) 1 75 := ⟨by decide +kernel, rfl⟩
theorem d_X8_lamp_75 : Dc M_X8_lamp 75 (.ireturn) 1 76 := ⟨by decide +kernel, rfl⟩
theorem d_X8_learn_0 : Dc M_X8_learn 0 (.aload_n 0) 1 1 := ⟨by decide +kernel, rfl⟩
theorem d_X8_learn_1 : GF M_X8_learn 1 8 1 4 := ⟨24, ⟨by decide +kernel, rfl⟩, fl_X8_24⟩
theorem d_X8_learn_4 : Dc M_X8_learn 4 (.iload_n 1) 1 5 := ⟨by decide +kernel, rfl⟩
theorem d_X8_learn_5 : CV M_X8_learn 5 M_X4_isTold 1 8 := ⟨119, ⟨by decide +kernel, rfl⟩, Or.inr (inT (List.mem_append_right _ (List.mem_append_left _ (List.mem_of_getElem? (l := tables_1_2) (i := 106) (by decide +kernel))))), mf_X4_isTold, mi_X4_isTold, ⟨by decide, by decide⟩⟩
theorem d_X8_learn_8 : Db M_X8_learn 8 .eq 42 11 := ⟨34, by decide +kernel, by decide, rfl⟩
theorem d_X8_learn_11 : Dc M_X8_learn 11 (.aload_n 0) 1 12 := ⟨by decide +kernel, rfl⟩
theorem d_X8_learn_12 : GF M_X8_learn 12 8 1 15 := ⟨24, ⟨by decide +kernel, rfl⟩, fl_X8_24⟩
theorem d_X8_learn_15 : Dc M_X8_learn 15 (.iload_n 2) 1 16 := ⟨by decide +kernel, rfl⟩
theorem d_X8_learn_16 : CV M_X8_learn 16 M_X4_isTold 1 19 := ⟨119, ⟨by decide +kernel, rfl⟩, Or.inr (inT (List.mem_append_right _ (List.mem_append_left _ (List.mem_of_getElem? (l := tables_1_2) (i := 106) (by decide +kernel))))), mf_X4_isTold, mi_X4_isTold, ⟨by decide, by decide⟩⟩
theorem d_X8_learn_19 : Db M_X8_learn 19 .eq 42 22 := ⟨23, by decide +kernel, by decide, rfl⟩
theorem d_X8_learn_22 : Dc M_X8_learn 22 (.iload_n 3) 1 23 := ⟨by decide +kernel, rfl⟩
theorem d_X8_learn_23 : KI M_X8_learn 23 (nI 1) 24 := Or.inl ⟨1, ⟨by decide +kernel, rfl⟩, by decide⟩
theorem d_X8_learn_24 : KI M_X8_learn 24 (nI 99) 26 := Or.inr (Or.inl ⟨99, ⟨by decide +kernel, rfl⟩, by decide⟩)
theorem d_X8_learn_26 : CS M_X8_learn 26 M_X8_within 3 29 := ⟨64, ⟨by decide +kernel, rfl⟩, Or.inl (inT (List.mem_append_left _ (List.mem_of_getElem? (l := tables_1_1) (i := 234) (by decide +kernel)))), mf_X8_within, ms_X8_within, ⟨by decide, by decide⟩⟩
theorem d_X8_learn_29 : Db M_X8_learn 29 .eq 42 32 := ⟨13, by decide +kernel, by decide, rfl⟩
theorem d_X8_learn_32 : Dc M_X8_learn 32 (.iload 4) 2 34 := ⟨by decide +kernel, rfl⟩
theorem d_X8_learn_34 : KI M_X8_learn 34 (nI 0) 35 := Or.inl ⟨0, ⟨by decide +kernel, rfl⟩, by decide⟩
theorem d_X8_learn_35 : KI M_X8_learn 35 (nI 1) 36 := Or.inl ⟨1, ⟨by decide +kernel, rfl⟩, by decide⟩
theorem d_X8_learn_36 : CS M_X8_learn 36 M_X8_within 3 39 := ⟨64, ⟨by decide +kernel, rfl⟩, Or.inl (inT (List.mem_append_left _ (List.mem_of_getElem? (l := tables_1_1) (i := 234) (by decide +kernel)))), mf_X8_within, ms_X8_within, ⟨by decide, by decide⟩⟩
theorem d_X8_learn_39 : Db M_X8_learn 39 .ne 45 42 := ⟨6, by decide +kernel, by decide, rfl⟩
theorem d_X8_learn_42 : KI M_X8_learn 42 (-2 : Int32) 44 := Or.inr (Or.inl ⟨(-2), ⟨by decide +kernel, rfl⟩, by decide⟩)
theorem d_X8_learn_44 : Dc M_X8_learn 44 (.ireturn) 1 45 := ⟨by decide +kernel, rfl⟩
theorem d_X8_learn_45 : Dc M_X8_learn 45 (.aload_n 0) 1 46 := ⟨by decide +kernel, rfl⟩
theorem d_X8_learn_46 : GF M_X8_learn 46 8 4 49 := ⟨46, ⟨by decide +kernel, rfl⟩, fl_X8_46⟩
theorem d_X8_learn_49 : Dc M_X8_learn 49 (.iload_n 1) 1 50 := ⟨by decide +kernel, rfl⟩
theorem d_X8_learn_50 : Dc M_X8_learn 50 (.iload_n 2) 1 51 := ⟨by decide +kernel, rfl⟩
theorem d_X8_learn_51 : Dc M_X8_learn 51 (.iload_n 3) 1 52 := ⟨by decide +kernel, rfl⟩
theorem d_X8_learn_52 : CV M_X8_learn 52 M_X6_learnBy 3 55 := ⟨188, ⟨by decide +kernel, rfl⟩, Or.inr (inT (List.mem_append_right _ (List.mem_append_right _ (List.mem_append_left _ (List.mem_of_getElem? (l := tables_1_3) (i := 71) (by decide +kernel)))))), mf_X6_learnBy, mi_X6_learnBy, ⟨by decide, by decide⟩⟩
theorem d_X8_learn_55 : Dc M_X8_learn 55 (.iload 4) 2 57 := ⟨by decide +kernel, rfl⟩
theorem d_X8_learn_57 : Db M_X8_learn 57 .ne 70 60 := ⟨13, by decide +kernel, by decide, rfl⟩
theorem d_X8_learn_60 : Dc M_X8_learn 60 (.aload_n 0) 1 61 := ⟨by decide +kernel, rfl⟩
theorem d_X8_learn_61 : GF M_X8_learn 61 8 4 64 := ⟨46, ⟨by decide +kernel, rfl⟩, fl_X8_46⟩
theorem d_X8_learn_64 : GF M_X8_learn 64 6 9 67 := ⟨192, ⟨by decide +kernel, rfl⟩, fl_X8_192⟩
theorem d_X8_learn_67 : Dg M_X8_learn 67 77 := ⟨10, by decide +kernel, by decide⟩
theorem d_X8_learn_70 : Dc M_X8_learn 70 (.aload_n 0) 1 71 := ⟨by decide +kernel, rfl⟩
theorem d_X8_learn_71 : GF M_X8_learn 71 8 4 74 := ⟨46, ⟨by decide +kernel, rfl⟩, fl_X8_46⟩
theorem d_X8_learn_74 : GF M_X8_learn 74 6 10 77 := ⟨195, ⟨by decide +kernel, rfl⟩, fl_X8_195⟩
theorem d_X8_learn_77 : Dc M_X8_learn 77 (.ireturn) 1 78 := ⟨by decide +kernel, rfl⟩
theorem d_X8_dice_0 : Dc M_X8_dice 0 (.aload_n 0) 1 1 := ⟨by decide +kernel, rfl⟩
theorem d_X8_dice_1 : GF M_X8_dice 1 8 1 4 := ⟨24, ⟨by decide +kernel, rfl⟩, fl_X8_24⟩
theorem d_X8_dice_4 : Dc M_X8_dice 4 (.iload_n 1) 1 5 := ⟨by decide +kernel, rfl⟩
theorem d_X8_dice_5 : CV M_X8_dice 5 M_X4_isTold 1 8 := ⟨119, ⟨by decide +kernel, rfl⟩, Or.inr (inT (List.mem_append_right _ (List.mem_append_left _ (List.mem_of_getElem? (l := tables_1_2) (i := 106) (by decide +kernel))))), mf_X4_isTold, mi_X4_isTold, ⟨by decide, by decide⟩⟩
theorem d_X8_dice_8 : Db M_X8_dice 8 .eq 27 11 := ⟨19, by decide +kernel, by decide, rfl⟩
theorem d_X8_dice_11 : Dc M_X8_dice 11 (.iload_n 2) 1 12 := ⟨by decide +kernel, rfl⟩
theorem d_X8_dice_12 : CS M_X8_dice 12 M_X8_isSixteenths 1 15 := ⟨198, ⟨by decide +kernel, rfl⟩, Or.inl (inT (List.mem_append_right _ (List.mem_append_right _ (List.mem_append_left _ (List.mem_of_getElem? (l := tables_1_3) (i := 16) (by decide +kernel)))))), mf_X8_isSixteenths, ms_X8_isSixteenths, ⟨by decide, by decide⟩⟩
theorem d_X8_dice_15 : Db M_X8_dice 15 .eq 27 18 := ⟨12, by decide +kernel, by decide, rfl⟩
theorem d_X8_dice_18 : Dc M_X8_dice 18 (.iload_n 3) 1 19 := ⟨by decide +kernel, rfl⟩
theorem d_X8_dice_19 : KI M_X8_dice 19 (-1 : Int32) 20 := Or.inl ⟨(-1), ⟨by decide +kernel, rfl⟩, by decide⟩
theorem d_X8_dice_20 : KI M_X8_dice 20 (nI 1) 21 := Or.inl ⟨1, ⟨by decide +kernel, rfl⟩, by decide⟩
theorem d_X8_dice_21 : CS M_X8_dice 21 M_X8_within 3 24 := ⟨64, ⟨by decide +kernel, rfl⟩, Or.inl (inT (List.mem_append_left _ (List.mem_of_getElem? (l := tables_1_1) (i := 234) (by decide +kernel)))), mf_X8_within, ms_X8_within, ⟨by decide, by decide⟩⟩
theorem d_X8_dice_24 : Db M_X8_dice 24 .ne 33 27 := ⟨9, by decide +kernel, by decide, rfl⟩
theorem d_X8_dice_27 : KI M_X8_dice 27 (-2 : Int32) 29 := Or.inr (Or.inl ⟨(-2), ⟨by decide +kernel, rfl⟩, by decide⟩)
theorem d_X8_dice_29 : CS M_X8_dice 29 M_X8_refusal 1 32 := ⟨146, ⟨by decide +kernel, rfl⟩, Or.inl (inT (List.mem_append_right _ (List.mem_append_left _ (List.mem_of_getElem? (l := tables_1_2) (i := 166) (by decide +kernel))))), mf_X8_refusal, ms_X8_refusal, ⟨by decide, by decide⟩⟩
theorem d_X8_dice_32 : Dc M_X8_dice 32 (.lreturn) 1 33 := ⟨by decide +kernel, rfl⟩
theorem d_X8_dice_33 : Dc M_X8_dice 33 (.iload_n 3) 1 34 := ⟨by decide +kernel, rfl⟩
theorem d_X8_dice_34 : KI M_X8_dice 34 (-1 : Int32) 35 := Or.inl ⟨(-1), ⟨by decide +kernel, rfl⟩, by decide⟩
theorem d_X8_dice_35 : Di M_X8_dice 35 .ne 50 38 := ⟨15, by decide +kernel, by decide, rfl⟩
theorem d_X8_dice_38 : Dc M_X8_dice 38 (.aload_n 0) 1 39 := ⟨by decide +kernel, rfl⟩
theorem d_X8_dice_39 : GF M_X8_dice 39 8 5 42 := ⟨53, ⟨by decide +kernel, rfl⟩, fl_X8_53⟩
theorem d_X8_dice_42 : Dc M_X8_dice 42 (.iload_n 1) 1 43 := ⟨by decide +kernel, rfl⟩
theorem d_X8_dice_43 : CV M_X8_dice 43 M_X1_alike 1 46 := ⟨201, ⟨by decide +kernel, rfl⟩, Or.inr (inT (List.mem_append_right _ (List.mem_append_right _ (List.mem_append_left _ (List.mem_of_getElem? (l := tables_1_3) (i := 80) (by decide +kernel)))))), mf_X1_alike, mi_X1_alike, ⟨by decide, by decide⟩⟩
theorem d_X8_dice_46 : Dc M_X8_dice 46 (.i2l) 1 47 := ⟨by decide +kernel, rfl⟩
theorem d_X8_dice_47 : Dg M_X8_dice 47 63 := ⟨16, by decide +kernel, by decide⟩
theorem d_X8_dice_50 : Dc M_X8_dice 50 (.aload_n 0) 1 51 := ⟨by decide +kernel, rfl⟩
theorem d_X8_dice_51 : GF M_X8_dice 51 8 5 54 := ⟨53, ⟨by decide +kernel, rfl⟩, fl_X8_53⟩
theorem d_X8_dice_54 : Dc M_X8_dice 54 (.iload_n 1) 1 55 := ⟨by decide +kernel, rfl⟩
theorem d_X8_dice_55 : Dc M_X8_dice 55 (.iload_n 2) 1 56 := ⟨by decide +kernel, rfl⟩
theorem d_X8_dice_56 : CV M_X8_dice 56 M_X1_chance 2 59 := ⟨204, ⟨by decide +kernel, rfl⟩, Or.inr (inT (List.mem_append_right _ (List.mem_append_right _ (List.mem_append_left _ (List.mem_of_getElem? (l := tables_1_3) (i := 89) (by decide +kernel)))))), mf_X1_chance, mi_X1_chance, ⟨by decide, by decide⟩⟩
theorem d_X8_dice_59 : Dc M_X8_dice 59 (.iload_n 3) 1 60 := ⟨by decide +kernel, rfl⟩
theorem d_X8_dice_60 : CV M_X8_dice 60 M_X2_part 1 63 := ⟨154, ⟨by decide +kernel, rfl⟩, Or.inr (inT (List.mem_append_right _ (List.mem_append_left _ (List.mem_of_getElem? (l := tables_1_2) (i := 205) (by decide +kernel))))), mf_X2_part, mi_X2_part, ⟨by decide, by decide⟩⟩
theorem d_X8_dice_63 : Dc M_X8_dice 63 (.lreturn) 1 64 := ⟨by decide +kernel, rfl⟩
theorem d_X8_seeds_0 : Dc M_X8_seeds 0 (.iload_n 1) 1 1 := ⟨by decide +kernel, rfl⟩
theorem d_X8_seeds_1 : KI M_X8_seeds 1 (nI 0) 2 := Or.inl ⟨0, ⟨by decide +kernel, rfl⟩, by decide⟩
theorem d_X8_seeds_2 : KI M_X8_seeds 2 (nI 1) 3 := Or.inl ⟨1, ⟨by decide +kernel, rfl⟩, by decide⟩
theorem d_X8_seeds_3 : CS M_X8_seeds 3 M_X8_within 3 6 := ⟨64, ⟨by decide +kernel, rfl⟩, Or.inl (inT (List.mem_append_left _ (List.mem_of_getElem? (l := tables_1_1) (i := 234) (by decide +kernel)))), mf_X8_within, ms_X8_within, ⟨by decide, by decide⟩⟩
theorem d_X8_seeds_6 : Db M_X8_seeds 6 .ne 12 9 := ⟨6, by decide +kernel, by decide, rfl⟩
theorem d_X8_seeds_9 : KI M_X8_seeds 9 (-2 : Int32) 11 := Or.inr (Or.inl ⟨(-2), ⟨by decide +kernel, rfl⟩, by decide⟩)
theorem d_X8_seeds_11 : Dc M_X8_seeds 11 (.ireturn) 1 12 := ⟨by decide +kernel, rfl⟩
theorem d_X8_seeds_12 : Dc M_X8_seeds 12 (.iload_n 1) 1 13 := ⟨by decide +kernel, rfl⟩
theorem d_X8_seeds_13 : Db M_X8_seeds 13 .ne 26 16 := ⟨13, by decide +kernel, by decide, rfl⟩
theorem d_X8_seeds_16 : Dc M_X8_seeds 16 (.aload_n 0) 1 17 := ⟨by decide +kernel, rfl⟩
theorem d_X8_seeds_17 : GF M_X8_seeds 17 8 5 20 := ⟨53, ⟨by decide +kernel, rfl⟩, fl_X8_53⟩
theorem d_X8_seeds_20 : CV M_X8_seeds 20 M_X1_fittingSeeds 0 23 := ⟨207, ⟨by decide +kernel, rfl⟩, Or.inr (inT (List.mem_append_right _ (List.mem_append_right _ (List.mem_append_left _ (List.mem_of_getElem? (l := tables_1_3) (i := 101) (by decide +kernel)))))), mf_X1_fittingSeeds, mi_X1_fittingSeeds, ⟨by decide, by decide⟩⟩
theorem d_X8_seeds_23 : Dg M_X8_seeds 23 33 := ⟨10, by decide +kernel, by decide⟩
theorem d_X8_seeds_26 : Dc M_X8_seeds 26 (.aload_n 0) 1 27 := ⟨by decide +kernel, rfl⟩
theorem d_X8_seeds_27 : GF M_X8_seeds 27 8 5 30 := ⟨53, ⟨by decide +kernel, rfl⟩, fl_X8_53⟩
theorem d_X8_seeds_30 : CV M_X8_seeds 30 M_X1_leastSeed 0 33 := ⟨210, ⟨by decide +kernel, rfl⟩, Or.inr (inT (List.mem_append_right _ (List.mem_append_right _ (List.mem_append_left _ (List.mem_of_getElem? (l := tables_1_3) (i := 110) (by decide +kernel)))))), mf_X1_leastSeed, mi_X1_leastSeed, ⟨by decide, by decide⟩⟩
theorem d_X8_seeds_33 : Dc M_X8_seeds 33 (.ireturn) 1 34 := ⟨by decide +kernel, rfl⟩
theorem d_X8_sheet_0 : Dc M_X8_sheet 0 (.iload_n 1) 1 1 := ⟨by decide +kernel, rfl⟩
theorem d_X8_sheet_1 : CS M_X8_sheet 1 M_X8_isSheet 1 4 := ⟨104, ⟨by decide +kernel, rfl⟩, Or.inl (inT (List.mem_append_right _ (List.mem_append_left _ (List.mem_of_getElem? (l := tables_1_2) (i := 78) (by decide +kernel))))), mf_X8_isSheet, ms_X8_isSheet, ⟨by decide, by decide⟩⟩
theorem d_X8_sheet_4 : Db M_X8_sheet 4 .eq 20 7 := ⟨16, by decide +kernel, by decide, rfl⟩
theorem d_X8_sheet_7 : Dc M_X8_sheet 7 (.iload_n 2) 1 8 := ⟨by decide +kernel, rfl⟩
theorem d_X8_sheet_8 : CS M_X8_sheet 8 M_X8_isForm 1 11 := ⟨213, ⟨by decide +kernel, rfl⟩, Or.inl (inT (List.mem_append_right _ (List.mem_append_right _ (List.mem_append_left _ (List.mem_of_getElem? (l := tables_1_3) (i := 118) (by decide +kernel)))))), mf_X8_isForm, ms_X8_isForm, ⟨by decide, by decide⟩⟩
theorem d_X8_sheet_11 : Db M_X8_sheet 11 .eq 20 14 := ⟨9, by decide +kernel, by decide, rfl⟩
theorem d_X8_sheet_14 : Dc M_X8_sheet 14 (.iload_n 3) 1 15 := ⟨by decide +kernel, rfl⟩
theorem d_X8_sheet_15 : KI M_X8_sheet 15 (nI 48) 17 := Or.inr (Or.inl ⟨48, ⟨by decide +kernel, rfl⟩, by decide⟩)
theorem d_X8_sheet_17 : Di M_X8_sheet 17 .le 23 20 := ⟨6, by decide +kernel, by decide, rfl⟩
theorem d_X8_sheet_20 : KI M_X8_sheet 20 (-2 : Int32) 22 := Or.inr (Or.inl ⟨(-2), ⟨by decide +kernel, rfl⟩, by decide⟩)
theorem d_X8_sheet_22 : Dc M_X8_sheet 22 (.ireturn) 1 23 := ⟨by decide +kernel, rfl⟩
theorem d_X8_sheet_23 : Dc M_X8_sheet 23 (.iload_n 3) 1 24 := ⟨by decide +kernel, rfl⟩
theorem d_X8_sheet_24 : Db M_X8_sheet 24 .ge 36 27 := ⟨12, by decide +kernel, by decide, rfl⟩
theorem d_X8_sheet_27 : Dc M_X8_sheet 27 (.aload_n 0) 1 28 := ⟨by decide +kernel, rfl⟩
theorem d_X8_sheet_28 : GF M_X8_sheet 28 8 6 31 := ⟨60, ⟨by decide +kernel, rfl⟩, fl_X8_60⟩
theorem d_X8_sheet_31 : KI M_X8_sheet 31 (nI 5) 32 := Or.inl ⟨5, ⟨by decide +kernel, rfl⟩, by decide⟩
theorem d_X8_sheet_32 : CV M_X8_sheet 32 M_X5_found 1 35 := ⟨110, ⟨by decide +kernel, rfl⟩, Or.inr (inT (List.mem_append_right _ (List.mem_append_left _ (List.mem_of_getElem? (l := tables_1_2) (i := 90) (by decide +kernel))))), mf_X5_found, mi_X5_found, ⟨by decide, by decide⟩⟩
theorem d_X8_sheet_35 : Dc M_X8_sheet 35 (.ireturn) 1 36 := ⟨by decide +kernel, rfl⟩
theorem d_X8_sheet_36 : Dc M_X8_sheet 36 (.aload_n 0) 1 37 := ⟨by decide +kernel, rfl⟩
theorem d_X8_sheet_37 : GF M_X8_sheet 37 8 6 40 := ⟨60, ⟨by decide +kernel, rfl⟩, fl_X8_60⟩
theorem d_X8_sheet_40 : Dc M_X8_sheet 40 (.iload_n 1) 1 41 := ⟨by decide +kernel, rfl⟩
theorem d_X8_sheet_41 : Dc M_X8_sheet 41 (.iload_n 2) 1 42 := ⟨by decide +kernel, rfl⟩
theorem d_X8_sheet_42 : Dc M_X8_sheet 42 (.iload_n 3) 1 43 := ⟨by decide +kernel, rfl⟩
theorem d_X8_sheet_43 : CV M_X8_sheet 43 M_X5_make 3 46 := ⟨216, ⟨by decide +kernel, rfl⟩, Or.inr (inT (List.mem_append_right _ (List.mem_append_right _ (List.mem_append_left _ (List.mem_of_getElem? (l := tables_1_3) (i := 121) (by decide +kernel)))))), mf_X5_make, mi_X5_make, ⟨by decide, by decide⟩⟩
theorem d_X8_sheet_46 : Dc M_X8_sheet 46 (.iload_n 3) 1 47 := ⟨by decide +kernel, rfl⟩
theorem d_X8_sheet_47 : Dc M_X8_sheet 47 (.ireturn) 1 48 := ⟨by decide +kernel, rfl⟩
theorem d_X8_lose_0 : Dc M_X8_lose 0 (.iload_n 1) 1 1 := ⟨by decide +kernel, rfl⟩
theorem d_X8_lose_1 : CS M_X8_lose 1 M_X8_isSheet 1 4 := ⟨104, ⟨by decide +kernel, rfl⟩, Or.inl (inT (List.mem_append_right _ (List.mem_append_left _ (List.mem_of_getElem? (l := tables_1_2) (i := 78) (by decide +kernel))))), mf_X8_isSheet, ms_X8_isSheet, ⟨by decide, by decide⟩⟩
theorem d_X8_lose_4 : Db M_X8_lose 4 .ne 10 7 := ⟨6, by decide +kernel, by decide, rfl⟩
theorem d_X8_lose_7 : KI M_X8_lose 7 (-2 : Int32) 9 := Or.inr (Or.inl ⟨(-2), ⟨by decide +kernel, rfl⟩, by decide⟩)
theorem d_X8_lose_9 : Dc M_X8_lose 9 (.ireturn) 1 10 := ⟨by decide +kernel, rfl⟩
theorem d_X8_lose_10 : Dc M_X8_lose 10 (.aload_n 0) 1 11 := ⟨by decide +kernel, rfl⟩
theorem d_X8_lose_11 : GF M_X8_lose 11 8 6 14 := ⟨60, ⟨by decide +kernel, rfl⟩, fl_X8_60⟩
theorem d_X8_lose_14 : Dc M_X8_lose 14 (.iload_n 1) 1 15 := ⟨by decide +kernel, rfl⟩
theorem d_X8_lose_15 : CV M_X8_lose 15 M_X5_isLost 1 18 := ⟨107, ⟨by decide +kernel, rfl⟩, Or.inr (inT (List.mem_append_right _ (List.mem_append_left _ (List.mem_of_getElem? (l := tables_1_2) (i := 81) (by decide +kernel))))), mf_X5_isLost, mi_X5_isLost, ⟨by decide, by decide⟩⟩
theorem d_X8_lose_18 : Db M_X8_lose 18 .eq 32 21 := ⟨14, by decide +kernel, by decide, rfl⟩
theorem d_X8_lose_21 : Dc M_X8_lose 21 (.aload_n 0) 1 22 := ⟨by decide +kernel, rfl⟩
theorem d_X8_lose_22 : GF M_X8_lose 22 8 6 25 := ⟨60, ⟨by decide +kernel, rfl⟩, fl_X8_60⟩
theorem d_X8_lose_25 : KI M_X8_lose 25 (nI 1) 26 := Or.inl ⟨1, ⟨by decide +kernel, rfl⟩, by decide⟩
theorem d_X8_lose_26 : CV M_X8_lose 26 M_X5_found 1 29 := ⟨110, ⟨by decide +kernel, rfl⟩, Or.inr (inT (List.mem_append_right _ (List.mem_append_left _ (List.mem_of_getElem? (l := tables_1_2) (i := 90) (by decide +kernel))))), mf_X5_found, mi_X5_found, ⟨by decide, by decide⟩⟩
theorem d_X8_lose_29 : Dg M_X8_lose 29 40 := ⟨11, by decide +kernel, by decide⟩
theorem d_X8_lose_32 : Dc M_X8_lose 32 (.aload_n 0) 1 33 := ⟨by decide +kernel, rfl⟩
theorem d_X8_lose_33 : GF M_X8_lose 33 8 6 36 := ⟨60, ⟨by decide +kernel, rfl⟩, fl_X8_60⟩
theorem d_X8_lose_36 : Dc M_X8_lose 36 (.iload_n 1) 1 37 := ⟨by decide +kernel, rfl⟩
theorem d_X8_lose_37 : CV M_X8_lose 37 M_X5_drop 1 40 := ⟨219, ⟨by decide +kernel, rfl⟩, Or.inr (inT (List.mem_append_right _ (List.mem_append_right _ (List.mem_append_left _ (List.mem_of_getElem? (l := tables_1_3) (i := 137) (by decide +kernel)))))), mf_X5_drop, mi_X5_drop, ⟨by decide, by decide⟩⟩
theorem d_X8_lose_40 : Dc M_X8_lose 40 (.ireturn) 1 41 := ⟨by decide +kernel, rfl⟩
theorem d_X8_put_0 : Dc M_X8_put 0 (.iload_n 1) 1 1 := ⟨by decide +kernel, rfl⟩
theorem d_X8_put_1 : CS M_X8_put 1 M_X8_isSheet 1 4 := ⟨104, ⟨by decide +kernel, rfl⟩, Or.inl (inT (List.mem_append_right _ (List.mem_append_left _ (List.mem_of_getElem? (l := tables_1_2) (i := 78) (by decide +kernel))))), mf_X8_isSheet, ms_X8_isSheet, ⟨by decide, by decide⟩⟩
theorem d_X8_put_4 : Db M_X8_put 4 .eq 14 7 := ⟨10, by decide +kernel, by decide, rfl⟩
theorem d_X8_put_7 : Dc M_X8_put 7 (.iload_n 2) 1 8 := ⟨by decide +kernel, rfl⟩
theorem d_X8_put_8 : CS M_X8_put 8 M_X8_isForm 1 11 := ⟨213, ⟨by decide +kernel, rfl⟩, Or.inl (inT (List.mem_append_right _ (List.mem_append_right _ (List.mem_append_left _ (List.mem_of_getElem? (l := tables_1_3) (i := 118) (by decide +kernel)))))), mf_X8_isForm, ms_X8_isForm, ⟨by decide, by decide⟩⟩
theorem d_X8_put_11 : Db M_X8_put 11 .ne 17 14 := ⟨6, by decide +kernel, by decide, rfl⟩
theorem d_X8_put_14 : KI M_X8_put 14 (-2 : Int32) 16 := Or.inr (Or.inl ⟨(-2), ⟨by decide +kernel, rfl⟩, by decide⟩)
theorem d_X8_put_16 : Dc M_X8_put 16 (.ireturn) 1 17 := ⟨by decide +kernel, rfl⟩
theorem d_X8_put_17 : Dc M_X8_put 17 (.aload_n 0) 1 18 := ⟨by decide +kernel, rfl⟩
theorem d_X8_put_18 : GF M_X8_put 18 8 6 21 := ⟨60, ⟨by decide +kernel, rfl⟩, fl_X8_60⟩
theorem d_X8_put_21 : Dc M_X8_put 21 (.iload_n 1) 1 22 := ⟨by decide +kernel, rfl⟩
theorem d_X8_put_22 : Dc M_X8_put 22 (.iload_n 2) 1 23 := ⟨by decide +kernel, rfl⟩
theorem d_X8_put_23 : Dc M_X8_put 23 (.iload_n 3) 1 24 := ⟨by decide +kernel, rfl⟩
theorem d_X8_put_24 : CV M_X8_put 24 M_X5_hindrance 3 27 := ⟨222, ⟨by decide +kernel, rfl⟩, Or.inr (inT (List.mem_append_right _ (List.mem_append_right _ (List.mem_append_left _ (List.mem_of_getElem? (l := tables_1_3) (i := 146) (by decide +kernel)))))), mf_X5_hindrance, mi_X5_hindrance, ⟨by decide, by decide⟩⟩
theorem d_X8_put_27 : Dc M_X8_put 27 (.istore 5) 2 29 := ⟨by decide +kernel, rfl⟩
theorem d_X8_put_29 : Dc M_X8_put 29 (.iload 5) 2 31 := ⟨by decide +kernel, rfl⟩
theorem d_X8_put_31 : Db M_X8_put 31 .eq 44 34 := ⟨13, by decide +kernel, by decide, rfl⟩
theorem d_X8_put_34 : Dc M_X8_put 34 (.aload_n 0) 1 35 := ⟨by decide +kernel, rfl⟩
theorem d_X8_put_35 : GF M_X8_put 35 8 6 38 := ⟨60, ⟨by decide +kernel, rfl⟩, fl_X8_60⟩
theorem d_X8_put_38 : Dc M_X8_put 38 (.iload 5) 2 40 := ⟨by decide +kernel, rfl⟩
theorem d_X8_put_40 : CV M_X8_put 40 M_X5_found 1 43 := ⟨110, ⟨by decide +kernel, rfl⟩, Or.inr (inT (List.mem_append_right _ (List.mem_append_left _ (List.mem_of_getElem? (l := tables_1_2) (i := 90) (by decide +kernel))))), mf_X5_found, mi_X5_found, ⟨by decide, by decide⟩⟩
theorem d_X8_put_43 : Dc M_X8_put 43 (.ireturn) 1 44 := ⟨by decide +kernel, rfl⟩
theorem d_X8_put_44 : Dc M_X8_put 44 (.aload_n 0) 1 45 := ⟨by decide +kernel, rfl⟩
theorem d_X8_put_45 : GF M_X8_put 45 8 6 48 := ⟨60, ⟨by decide +kernel, rfl⟩, fl_X8_60⟩
theorem d_X8_put_48 : Dc M_X8_put 48 (.iload_n 1) 1 49 := ⟨by decide +kernel, rfl⟩
theorem d_X8_put_49 : Dc M_X8_put 49 (.iload_n 3) 1 50 := ⟨by decide +kernel, rfl⟩
theorem d_X8_put_50 : Dc M_X8_put 50 (.iload 4) 2 52 := ⟨by decide +kernel, rfl⟩
theorem d_X8_put_52 : CV M_X8_put 52 M_X5_change 3 55 := ⟨225, ⟨by decide +kernel, rfl⟩, Or.inr (inT (List.mem_append_right _ (List.mem_append_right _ (List.mem_append_left _ (List.mem_of_getElem? (l := tables_1_3) (i := 152) (by decide +kernel)))))), mf_X5_change, mi_X5_change, ⟨by decide, by decide⟩⟩
theorem d_X8_put_55 : KI M_X8_put 55 (nI 1) 56 := Or.inl ⟨1, ⟨by decide +kernel, rfl⟩, by decide⟩
theorem d_X8_put_56 : Dc M_X8_put 56 (.ireturn) 1 57 := ⟨by decide +kernel, rfl⟩
theorem d_X8_get_0 : Dc M_X8_get 0 (.iload_n 1) 1 1 := ⟨by decide +kernel, rfl⟩
theorem d_X8_get_1 : CS M_X8_get 1 M_X8_isSheet 1 4 := ⟨104, ⟨by decide +kernel, rfl⟩, Or.inl (inT (List.mem_append_right _ (List.mem_append_left _ (List.mem_of_getElem? (l := tables_1_2) (i := 78) (by decide +kernel))))), mf_X8_isSheet, ms_X8_isSheet, ⟨by decide, by decide⟩⟩
theorem d_X8_get_4 : Db M_X8_get 4 .eq 14 7 := ⟨10, by decide +kernel, by decide, rfl⟩
theorem d_X8_get_7 : Dc M_X8_get 7 (.iload_n 2) 1 8 := ⟨by decide +kernel, rfl⟩
theorem d_X8_get_8 : CS M_X8_get 8 M_X8_isForm 1 11 := ⟨213, ⟨by decide +kernel, rfl⟩, Or.inl (inT (List.mem_append_right _ (List.mem_append_right _ (List.mem_append_left _ (List.mem_of_getElem? (l := tables_1_3) (i := 118) (by decide +kernel)))))), mf_X8_isForm, ms_X8_isForm, ⟨by decide, by decide⟩⟩
theorem d_X8_get_11 : Db M_X8_get 11 .ne 17 14 := ⟨6, by decide +kernel, by decide, rfl⟩
theorem d_X8_get_14 : LI M_X8_get 14 (-2147483648 : Int32) 16 := ⟨228, ⟨by decide +kernel, rfl⟩, inT (List.mem_append_right _ (List.mem_append_right _ (List.mem_append_left _ (List.mem_of_getElem? (l := tables_1_3) (i := 157) (by decide +kernel)))))⟩
theorem d_X8_get_16 : Dc M_X8_get 16 (.ireturn) 1 17 := ⟨by decide +kernel, rfl⟩
theorem d_X8_get_17 : Dc M_X8_get 17 (.aload_n 0) 1 18 := ⟨by decide +kernel, rfl⟩
theorem d_X8_get_18 : GF M_X8_get 18 8 6 21 := ⟨60, ⟨by decide +kernel, rfl⟩, fl_X8_60⟩
theorem d_X8_get_21 : Dc M_X8_get 21 (.iload_n 1) 1 22 := ⟨by decide +kernel, rfl⟩
theorem d_X8_get_22 : Dc M_X8_get 22 (.iload_n 2) 1 23 := ⟨by decide +kernel, rfl⟩
theorem d_X8_get_23 : Dc M_X8_get 23 (.iload_n 3) 1 24 := ⟨by decide +kernel, rfl⟩
theorem d_X8_get_24 : CV M_X8_get 24 M_X5_hindrance 3 27 := ⟨222, ⟨by decide +kernel, rfl⟩, Or.inr (inT (List.mem_append_right _ (List.mem_append_right _ (List.mem_append_left _ (List.mem_of_getElem? (l := tables_1_3) (i := 146) (by decide +kernel)))))), mf_X5_hindrance, mi_X5_hindrance, ⟨by decide, by decide⟩⟩
theorem d_X8_get_27 : Dc M_X8_get 27 (.istore 4) 2 29 := ⟨by decide +kernel, rfl⟩
theorem d_X8_get_29 : Dc M_X8_get 29 (.iload 4) 2 31 := ⟨by decide +kernel, rfl⟩
theorem d_X8_get_31 : Db M_X8_get 31 .eq 47 34 := ⟨16, by decide +kernel, by decide, rfl⟩
theorem d_X8_get_34 : Dc M_X8_get 34 (.aload_n 0) 1 35 := ⟨by decide +kernel, rfl⟩
theorem d_X8_get_35 : GF M_X8_get 35 8 6 38 := ⟨60, ⟨by decide +kernel, rfl⟩, fl_X8_60⟩
theorem d_X8_get_38 : Dc M_X8_get 38 (.iload 4) 2 40 := ⟨by decide +kernel, rfl⟩
theorem d_X8_get_40 : CV M_X8_get 40 M_X5_found 1 43 := ⟨110, ⟨by decide +kernel, rfl⟩, Or.inr (inT (List.mem_append_right _ (List.mem_append_left _ (List.mem_of_getElem? (l := tables_1_2) (i := 90) (by decide +kernel))))), mf_X5_found, mi_X5_found, ⟨by decide, by decide⟩⟩
theorem d_X8_get_43 : Dc M_X8_get 43 (.pop) 1 44 := ⟨by decide +kernel, rfl⟩
theorem d_X8_get_44 : LI M_X8_get 44 (-2147483648 : Int32) 46 := ⟨228, ⟨by decide +kernel, rfl⟩, inT (List.mem_append_right _ (List.mem_append_right _ (List.mem_append_left _ (List.mem_of_getElem? (l := tables_1_3) (i := 157) (by decide +kernel)))))⟩
theorem d_X8_get_46 : Dc M_X8_get 46 (.ireturn) 1 47 := ⟨by decide +kernel, rfl⟩
theorem d_X8_get_47 : Dc M_X8_get 47 (.aload_n 0) 1 48 := ⟨by decide +kernel, rfl⟩
theorem d_X8_get_48 : GF M_X8_get 48 8 6 51 := ⟨60, ⟨by decide +kernel, rfl⟩, fl_X8_60⟩
theorem d_X8_get_51 : Dc M_X8_get 51 (.iload_n 1) 1 52 := ⟨by decide +kernel, rfl⟩
theorem d_X8_get_52 : Dc M_X8_get 52 (.iload_n 3) 1 53 := ⟨by decide +kernel, rfl⟩
theorem d_X8_get_53 : CV M_X8_get 53 M_X5_itemOf 2 56 := ⟨116, ⟨by decide +kernel, rfl⟩, Or.inr (inT (List.mem_append_right _ (List.mem_append_left _ (List.mem_of_getElem? (l := tables_1_2) (i := 98) (by decide +kernel))))), mf_X5_itemOf, mi_X5_itemOf, ⟨by decide, by decide⟩⟩
theorem d_X8_get_56 : Dc M_X8_get 56 (.ireturn) 1 57 := ⟨by decide +kernel, rfl⟩
theorem d_X8_copy_0 : Dc M_X8_copy 0 (.iload_n 1) 1 1 := ⟨by decide +kernel, rfl⟩
theorem d_X8_copy_1 : CS M_X8_copy 1 M_X8_isSheet 1 4 := ⟨104, ⟨by decide +kernel, rfl⟩, Or.inl (inT (List.mem_append_right _ (List.mem_append_left _ (List.mem_of_getElem? (l := tables_1_2) (i := 78) (by decide +kernel))))), mf_X8_isSheet, ms_X8_isSheet, ⟨by decide, by decide⟩⟩
theorem d_X8_copy_4 : Db M_X8_copy 4 .eq 14 7 := ⟨10, by decide +kernel, by decide, rfl⟩
theorem d_X8_copy_7 : Dc M_X8_copy 7 (.iload_n 3) 1 8 := ⟨by decide +kernel, rfl⟩
theorem d_X8_copy_8 : CS M_X8_copy 8 M_X8_isSheet 1 11 := ⟨104, ⟨by decide +kernel, rfl⟩, Or.inl (inT (List.mem_append_right _ (List.mem_append_left _ (List.mem_of_getElem? (l := tables_1_2) (i := 78) (by decide +kernel))))), mf_X8_isSheet, ms_X8_isSheet, ⟨by decide, by decide⟩⟩
theorem d_X8_copy_11 : Db M_X8_copy 11 .ne 17 14 := ⟨6, by decide +kernel, by decide, rfl⟩
theorem d_X8_copy_14 : KI M_X8_copy 14 (-2 : Int32) 16 := Or.inr (Or.inl ⟨(-2), ⟨by decide +kernel, rfl⟩, by decide⟩)
theorem d_X8_copy_16 : Dc M_X8_copy 16 (.ireturn) 1 17 := ⟨by decide +kernel, rfl⟩
theorem d_X8_copy_17 : Dc M_X8_copy 17 (.aload_n 0) 1 18 := ⟨by decide +kernel, rfl⟩
theorem d_X8_copy_18 : GF M_X8_copy 18 8 6 21 := ⟨60, ⟨by decide +kernel, rfl⟩, fl_X8_60⟩
theorem d_X8_copy_21 : Dc M_X8_copy 21 (.iload_n 1) 1 22 := ⟨by decide +kernel, rfl⟩
theorem d_X8_copy_22 : CV M_X8_copy 22 M_X5_isLost 1 25 := ⟨107, ⟨by decide +kernel, rfl⟩, Or.inr (inT (List.mem_append_right _ (List.mem_append_left _ (List.mem_of_getElem? (l := tables_1_2) (i := 81) (by decide +kernel))))), mf_X5_isLost, mi_X5_isLost, ⟨by decide, by decide⟩⟩
theorem d_X8_copy_25 : Db M_X8_copy 25 .ne 39 28 := ⟨14, by decide +kernel, by decide, rfl⟩
theorem d_X8_copy_28 : Dc M_X8_copy 28 (.aload_n 0) 1 29 := ⟨by decide +kernel, rfl⟩
theorem d_X8_copy_29 : GF M_X8_copy 29 8 6 32 := ⟨60, ⟨by decide +kernel, rfl⟩, fl_X8_60⟩
theorem d_X8_copy_32 : Dc M_X8_copy 32 (.iload_n 3) 1 33 := ⟨by decide +kernel, rfl⟩
theorem d_X8_copy_33 : CV M_X8_copy 33 M_X5_isLost 1 36 := ⟨107, ⟨by decide +kernel, rfl⟩, Or.inr (inT (List.mem_append_right _ (List.mem_append_left _ (List.mem_of_getElem? (l := tables_1_2) (i := 81) (by decide +kernel))))), mf_X5_isLost, mi_X5_isLost, ⟨by decide, by decide⟩⟩
theorem d_X8_copy_36 : Db M_X8_copy 36 .eq 48 39 := ⟨12, by decide +kernel, by decide, rfl⟩
theorem d_X8_copy_39 : Dc M_X8_copy 39 (.aload_n 0) 1 40 := ⟨by decide +kernel, rfl⟩
theorem d_X8_copy_40 : GF M_X8_copy 40 8 6 43 := ⟨60, ⟨by decide +kernel, rfl⟩, fl_X8_60⟩
theorem d_X8_copy_43 : KI M_X8_copy 43 (nI 1) 44 := Or.inl ⟨1, ⟨by decide +kernel, rfl⟩, by decide⟩
theorem d_X8_copy_44 : CV M_X8_copy 44 M_X5_found 1 47 := ⟨110, ⟨by decide +kernel, rfl⟩, Or.inr (inT (List.mem_append_right _ (List.mem_append_left _ (List.mem_of_getElem? (l := tables_1_2) (i := 90) (by decide +kernel))))), mf_X5_found, mi_X5_found, ⟨by decide, by decide⟩⟩
theorem d_X8_copy_47 : Dc M_X8_copy 47 (.ireturn) 1 48 := ⟨by decide +kernel, rfl⟩
theorem d_X8_copy_48 : Dc M_X8_copy 48 (.aload_n 0) 1 49 := ⟨by decide +kernel, rfl⟩
theorem d_X8_copy_49 : GF M_X8_copy 49 8 6 52 := ⟨60, ⟨by decide +kernel, rfl⟩, fl_X8_60⟩
theorem d_X8_copy_52 : Dc M_X8_copy 52 (.iload_n 1) 1 53 := ⟨by decide +kernel, rfl⟩
theorem d_X8_copy_53 : CV M_X8_copy 53 M_X5_formOf 1 56 := ⟨229, ⟨by decide +kernel, rfl⟩, Or.inr (inT (List.mem_append_right _ (List.mem_append_right _ (List.mem_append_left _ (List.mem_of_getElem? (l := tables_1_3) (i := 162) (by decide +kernel)))))), mf_X5_formOf, mi_X5_formOf, ⟨by decide, by decide⟩⟩
theorem d_X8_copy_56 : Dc M_X8_copy 56 (.aload_n 0) 1 57 := ⟨by decide +kernel, rfl⟩
theorem d_X8_copy_57 : GF M_X8_copy 57 8 6 60 := ⟨60, ⟨by decide +kernel, rfl⟩, fl_X8_60⟩
theorem d_X8_copy_60 : Dc M_X8_copy 60 (.iload_n 3) 1 61 := ⟨by decide +kernel, rfl⟩
theorem d_X8_copy_61 : CV M_X8_copy 61 M_X5_formOf 1 64 := ⟨229, ⟨by decide +kernel, rfl⟩, Or.inr (inT (List.mem_append_right _ (List.mem_append_right _ (List.mem_append_left _ (List.mem_of_getElem? (l := tables_1_3) (i := 162) (by decide +kernel)))))), mf_X5_formOf, mi_X5_formOf, ⟨by decide, by decide⟩⟩
theorem d_X8_copy_64 : Di M_X8_copy 64 .eq 76 67 := ⟨12, by decide +kernel, by decide, rfl⟩
theorem d_X8_copy_67 : Dc M_X8_copy 67 (.aload_n 0) 1 68 := ⟨by decide +kernel, rfl⟩
theorem d_X8_copy_68 : GF M_X8_copy 68 8 6 71 := ⟨60, ⟨by decide +kernel, rfl⟩, fl_X8_60⟩
theorem d_X8_copy_71 : KI M_X8_copy 71 (nI 4) 72 := Or.inl ⟨4, ⟨by decide +kernel, rfl⟩, by decide⟩
theorem d_X8_copy_72 : CV M_X8_copy 72 M_X5_found 1 75 := ⟨110, ⟨by decide +kernel, rfl⟩, Or.inr (inT (List.mem_append_right _ (List.mem_append_left _ (List.mem_of_getElem? (l := tables_1_2) (i := 90) (by decide +kernel))))), mf_X5_found, mi_X5_found, ⟨by decide, by decide⟩⟩
theorem d_X8_copy_75 : Dc M_X8_copy 75 (.ireturn) 1 76 := ⟨by decide +kernel, rfl⟩
theorem d_X8_copy_76 : Dc M_X8_copy 76 (.aload_n 0) 1 77 := ⟨by decide +kernel, rfl⟩
theorem d_X8_copy_77 : GF M_X8_copy 77 8 6 80 := ⟨60, ⟨by decide +kernel, rfl⟩, fl_X8_60⟩
theorem d_X8_copy_80 : Dc M_X8_copy 80 (.iload_n 1) 1 81 := ⟨by decide +kernel, rfl⟩
theorem d_X8_copy_81 : Dc M_X8_copy 81 (.iload_n 2) 1 82 := ⟨by decide +kernel, rfl⟩
theorem d_X8_copy_82 : Dc M_X8_copy 82 (.iload 5) 2 84 := ⟨by decide +kernel, rfl⟩
theorem d_X8_copy_84 : CV M_X8_copy 84 M_X5_hasItems 3 87 := ⟨232, ⟨by decide +kernel, rfl⟩, Or.inr (inT (List.mem_append_right _ (List.mem_append_right _ (List.mem_append_left _ (List.mem_of_getElem? (l := tables_1_3) (i := 163) (by decide +kernel)))))), mf_X5_hasItems, mi_X5_hasItems, ⟨by decide, by decide⟩⟩
theorem d_X8_copy_87 : Db M_X8_copy 87 .eq 105 90 := ⟨18, by decide +kernel, by decide, rfl⟩
theorem d_X8_copy_90 : Dc M_X8_copy 90 (.aload_n 0) 1 91 := ⟨by decide +kernel, rfl⟩
theorem d_X8_copy_91 : GF M_X8_copy 91 8 6 94 := ⟨60, ⟨by decide +kernel, rfl⟩, fl_X8_60⟩
theorem d_X8_copy_94 : Dc M_X8_copy 94 (.iload_n 3) 1 95 := ⟨by decide +kernel, rfl⟩
theorem d_X8_copy_95 : Dc M_X8_copy 95 (.iload 4) 2 97 := ⟨by decide +kernel, rfl⟩
theorem d_X8_copy_97 : Dc M_X8_copy 97 (.iload 5) 2 99 := ⟨by decide +kernel, rfl⟩
theorem d_X8_copy_99 : CV M_X8_copy 99 M_X5_hasItems 3 102 := ⟨232, ⟨by decide +kernel, rfl⟩, Or.inr (inT (List.mem_append_right _ (List.mem_append_right _ (List.mem_append_left _ (List.mem_of_getElem? (l := tables_1_3) (i := 163) (by decide +kernel)))))), mf_X5_hasItems, mi_X5_hasItems, ⟨by decide, by decide⟩⟩
theorem d_X8_copy_102 : Db M_X8_copy 102 .ne 114 105 := ⟨12, by decide +kernel, by decide, rfl⟩
theorem d_X8_copy_105 : Dc M_X8_copy 105 (.aload_n 0) 1 106 := ⟨by decide +kernel, rfl⟩
theorem d_X8_copy_106 : GF M_X8_copy 106 8 6 109 := ⟨60, ⟨by decide +kernel, rfl⟩, fl_X8_60⟩
theorem d_X8_copy_109 : KI M_X8_copy 109 (nI 2) 110 := Or.inl ⟨2, ⟨by decide +kernel, rfl⟩, by decide⟩
theorem d_X8_copy_110 : CV M_X8_copy 110 M_X5_found 1 113 := ⟨110, ⟨by decide +kernel, rfl⟩, Or.inr (inT (List.mem_append_right _ (List.mem_append_left _ (List.mem_of_getElem? (l := tables_1_2) (i := 90) (by decide +kernel))))), mf_X5_found, mi_X5_found, ⟨by decide, by decide⟩⟩
theorem d_X8_copy_113 : Dc M_X8_copy 113 (.ireturn) 1 114 := ⟨by decide +kernel, rfl⟩
theorem d_X8_copy_114 : Dc M_X8_copy 114 (.aload_n 0) 1 115 := ⟨by decide +kernel, rfl⟩
theorem d_X8_copy_115 : GF M_X8_copy 115 8 6 118 := ⟨60, ⟨by decide +kernel, rfl⟩, fl_X8_60⟩
theorem d_X8_copy_118 : Dc M_X8_copy 118 (.iload_n 1) 1 119 := ⟨by decide +kernel, rfl⟩
theorem d_X8_copy_119 : Dc M_X8_copy 119 (.iload_n 2) 1 120 := ⟨by decide +kernel, rfl⟩
theorem d_X8_copy_120 : Dc M_X8_copy 120 (.iload_n 3) 1 121 := ⟨by decide +kernel, rfl⟩
theorem d_X8_copy_121 : Dc M_X8_copy 121 (.iload 4) 2 123 := ⟨by decide +kernel, rfl⟩
theorem d_X8_copy_123 : Dc M_X8_copy 123 (.iload 5) 2 125 := ⟨by decide +kernel, rfl⟩
theorem d_X8_copy_125 : CV M_X8_copy 125 M_X5_move 5 128 := ⟨235, ⟨by decide +kernel, rfl⟩, Or.inr (inT (List.mem_append_right _ (List.mem_append_right _ (List.mem_append_left _ (List.mem_of_getElem? (l := tables_1_3) (i := 167) (by decide +kernel)))))), mf_X5_move, mi_X5_move, ⟨by decide, by decide⟩⟩
theorem d_X8_copy_128 : KI M_X8_copy 128 (nI 1) 129 := Or.inl ⟨1, ⟨by decide +kernel, rfl⟩, by decide⟩
theorem d_X8_copy_129 : Dc M_X8_copy 129 (.ireturn) 1 130 := ⟨by decide +kernel, rfl⟩
theorem d_X8_write_0 : Dc M_X8_write 0 (.aload_n 0) 1 1 := ⟨by decide +kernel, rfl⟩
theorem d_X8_write_1 : GF M_X8_write 1 8 1 4 := ⟨24, ⟨by decide +kernel, rfl⟩, fl_X8_24⟩
theorem d_X8_write_4 : Dc M_X8_write 4 (.iload_n 1) 1 5 := ⟨by decide +kernel, rfl⟩
theorem d_X8_write_5 : CV M_X8_write 5 M_X4_isTold 1 8 := ⟨119, ⟨by decide +kernel, rfl⟩, Or.inr (inT (List.mem_append_right _ (List.mem_append_left _ (List.mem_of_getElem? (l := tables_1_2) (i := 106) (by decide +kernel))))), mf_X4_isTold, mi_X4_isTold, ⟨by decide, by decide⟩⟩
theorem d_X8_write_8 : Db M_X8_write 8 .eq 18 11 := ⟨10, by decide +kernel, by decide, rfl⟩
theorem d_X8_write_11 : Dc M_X8_write 11 (.iload_n 2) 1 12 := ⟨by decide +kernel, rfl⟩
theorem d_X8_write_12 : CS M_X8_write 12 M_X8_isSheet 1 15 := ⟨104, ⟨by decide +kernel, rfl⟩, Or.inl (inT (List.mem_append_right _ (List.mem_append_left _ (List.mem_of_getElem? (l := tables_1_2) (i := 78) (by decide +kernel))))), mf_X8_isSheet, ms_X8_isSheet, ⟨by decide, by decide⟩⟩
theorem d_X8_write_15 : Db M_X8_write 15 .ne 21 18 := ⟨6, by decide +kernel, by decide, rfl⟩
theorem d_X8_write_18 : KI M_X8_write 18 (-2 : Int32) 20 := Or.inr (Or.inl ⟨(-2), ⟨by decide +kernel, rfl⟩, by decide⟩)
theorem d_X8_write_20 : Dc M_X8_write 20 (.ireturn) 1 21 := ⟨by decide +kernel, rfl⟩
theorem d_X8_write_21 : Dc M_X8_write 21 (.aload_n 0) 1 22 := ⟨by decide +kernel, rfl⟩
theorem d_X8_write_22 : GF M_X8_write 22 8 6 25 := ⟨60, ⟨by decide +kernel, rfl⟩, fl_X8_60⟩
theorem d_X8_write_25 : Dc M_X8_write 25 (.iload_n 2) 1 26 := ⟨by decide +kernel, rfl⟩
theorem d_X8_write_26 : CV M_X8_write 26 M_X5_isLost 1 29 := ⟨107, ⟨by decide +kernel, rfl⟩, Or.inr (inT (List.mem_append_right _ (List.mem_append_left _ (List.mem_of_getElem? (l := tables_1_2) (i := 81) (by decide +kernel))))), mf_X5_isLost, mi_X5_isLost, ⟨by decide, by decide⟩⟩
theorem d_X8_write_29 : Db M_X8_write 29 .eq 41 32 := ⟨12, by decide +kernel, by decide, rfl⟩
theorem d_X8_write_32 : Dc M_X8_write 32 (.aload_n 0) 1 33 := ⟨by decide +kernel, rfl⟩
theorem d_X8_write_33 : GF M_X8_write 33 8 6 36 := ⟨60, ⟨by decide +kernel, rfl⟩, fl_X8_60⟩
theorem d_X8_write_36 : KI M_X8_write 36 (nI 1) 37 := Or.inl ⟨1, ⟨by decide +kernel, rfl⟩, by decide⟩
theorem d_X8_write_37 : CV M_X8_write 37 M_X5_found 1 40 := ⟨110, ⟨by decide +kernel, rfl⟩, Or.inr (inT (List.mem_append_right _ (List.mem_append_left _ (List.mem_of_getElem? (l := tables_1_2) (i := 90) (by decide +kernel))))), mf_X5_found, mi_X5_found, ⟨by decide, by decide⟩⟩
theorem d_X8_write_40 : Dc M_X8_write 40 (.ireturn) 1 41 := ⟨by decide +kernel, rfl⟩
theorem d_X8_write_41 : Dc M_X8_write 41 (.aload_n 0) 1 42 := ⟨by decide +kernel, rfl⟩
theorem d_X8_write_42 : GF M_X8_write 42 8 6 45 := ⟨60, ⟨by decide +kernel, rfl⟩, fl_X8_60⟩
theorem d_X8_write_45 : Dc M_X8_write 45 (.iload_n 2) 1 46 := ⟨by decide +kernel, rfl⟩
theorem d_X8_write_46 : CV M_X8_write 46 M_X5_sizeOf 1 49 := ⟨113, ⟨by decide +kernel, rfl⟩, Or.inr (inT (List.mem_append_right _ (List.mem_append_left _ (List.mem_of_getElem? (l := tables_1_2) (i := 94) (by decide +kernel))))), mf_X5_sizeOf, mi_X5_sizeOf, ⟨by decide, by decide⟩⟩
theorem d_X8_write_49 : Dc M_X8_write 49 (.istore_n 3) 1 50 := ⟨by decide +kernel, rfl⟩
theorem d_X8_write_50 : KI M_X8_write 50 (nI 0) 51 := Or.inl ⟨0, ⟨by decide +kernel, rfl⟩, by decide⟩
theorem d_X8_write_51 : Dc M_X8_write 51 (.istore 4) 2 53 := ⟨by decide +kernel, rfl⟩
theorem d_X8_write_53 : Dc M_X8_write 53 (.iload 4) 2 55 := ⟨by decide +kernel, rfl⟩
theorem d_X8_write_55 : Dc M_X8_write 55 (.iload_n 3) 1 56 := ⟨by decide +kernel, rfl⟩
theorem d_X8_write_56 : Di M_X8_write 56 .ge 85 59 := ⟨29, by decide +kernel, by decide, rfl⟩
theorem d_X8_write_59 : Dc M_X8_write 59 (.aload_n 0) 1 60 := ⟨by decide +kernel, rfl⟩
theorem d_X8_write_60 : GF M_X8_write 60 8 6 63 := ⟨60, ⟨by decide +kernel, rfl⟩, fl_X8_60⟩
theorem d_X8_write_63 : Dc M_X8_write 63 (.iload_n 2) 1 64 := ⟨by decide +kernel, rfl⟩
theorem d_X8_write_64 : Dc M_X8_write 64 (.iload 4) 2 66 := ⟨by decide +kernel, rfl⟩
theorem d_X8_write_66 : Dc M_X8_write 66 (.aload_n 0) 1 67 := ⟨by decide +kernel, rfl⟩
theorem d_X8_write_67 : GF M_X8_write 67 8 2 70 := ⟨28, ⟨by decide +kernel, rfl⟩, fl_X8_28⟩
theorem d_X8_write_70 : Dc M_X8_write 70 (.iload_n 1) 1 71 := ⟨by decide +kernel, rfl⟩
theorem d_X8_write_71 : Dc M_X8_write 71 (.iload 4) 2 73 := ⟨by decide +kernel, rfl⟩
theorem d_X8_write_73 : CV M_X8_write 73 M_X7_shedIn 2 76 := ⟨125, ⟨by decide +kernel, rfl⟩, Or.inr (inT (List.mem_append_right _ (List.mem_append_left _ (List.mem_of_getElem? (l := tables_1_2) (i := 118) (by decide +kernel))))), mf_X7_shedIn, mi_X7_shedIn, ⟨by decide, by decide⟩⟩
theorem d_X8_write_76 : CV M_X8_write 76 M_X5_change 3 79 := ⟨225, ⟨by decide +kernel, rfl⟩, Or.inr (inT (List.mem_append_right _ (List.mem_append_right _ (List.mem_append_left _ (List.mem_of_getElem? (l := tables_1_3) (i := 152) (by decide +kernel)))))), mf_X5_change, mi_X5_change, ⟨by decide, by decide⟩⟩
theorem d_X8_write_79 : Dc M_X8_write 79 (.iinc 4 1) 3 82 := ⟨by decide +kernel, rfl⟩
theorem d_X8_write_82 : Dg M_X8_write 82 53 := ⟨(-29), by decide +kernel, by decide⟩
theorem d_X8_write_85 : Dc M_X8_write 85 (.iload_n 3) 1 86 := ⟨by decide +kernel, rfl⟩
theorem d_X8_write_86 : Dc M_X8_write 86 (.ireturn) 1 87 := ⟨by decide +kernel, rfl⟩
theorem d_X8_count_0 : Dc M_X8_count 0 (.iload_n 1) 1 1 := ⟨by decide +kernel, rfl⟩
theorem d_X8_count_1 : Dt M_X8_count 1 0 8 #[51, 59, 67, 75, 83, 91, 99, 107, 115] 124 := ⟨123, 51, by decide +kernel, by decide⟩
theorem d_X8_count_52 : Dc M_X8_count 52 (.aload_n 0) 1 53 := ⟨by decide +kernel, rfl⟩
theorem d_X8_count_53 : GF M_X8_count 53 8 1 56 := ⟨24, ⟨by decide +kernel, rfl⟩, fl_X8_24⟩
theorem d_X8_count_56 : GF M_X8_count 56 4 4 59 := ⟨143, ⟨by decide +kernel, rfl⟩, fl_X8_143⟩
theorem d_X8_count_59 : Dc M_X8_count 59 (.ireturn) 1 60 := ⟨by decide +kernel, rfl⟩
theorem d_X8_count_60 : Dc M_X8_count 60 (.aload_n 0) 1 61 := ⟨by decide +kernel, rfl⟩
theorem d_X8_count_61 : GF M_X8_count 61 8 1 64 := ⟨24, ⟨by decide +kernel, rfl⟩, fl_X8_24⟩
theorem d_X8_count_64 : GF M_X8_count 64 4 3 67 := ⟨72, ⟨by decide +kernel, rfl⟩, fl_X8_72⟩
theorem d_X8_count_67 : Dc M_X8_count 67 (.ireturn) 1 68 := ⟨by decide +kernel, rfl⟩
theorem d_X8_count_68 : Dc M_X8_count 68 (.aload_n 0) 1 69 := ⟨by decide +kernel, rfl⟩
theorem d_X8_count_69 : GF M_X8_count 69 8 0 72 := ⟨18, ⟨by decide +kernel, rfl⟩, fl_X8_18⟩
theorem d_X8_count_72 : GF M_X8_count 72 3 2 75 := ⟨239, ⟨by decide +kernel, rfl⟩, fl_X8_239⟩
theorem d_X8_count_75 : Dc M_X8_count 75 (.ireturn) 1 76 := ⟨by decide +kernel, rfl⟩
theorem d_X8_count_76 : Dc M_X8_count 76 (.aload_n 0) 1 77 := ⟨by decide +kernel, rfl⟩
theorem d_X8_count_77 : GF M_X8_count 77 8 0 80 := ⟨18, ⟨by decide +kernel, rfl⟩, fl_X8_18⟩
theorem d_X8_count_80 : GF M_X8_count 80 3 3 83 := ⟨137, ⟨by decide +kernel, rfl⟩, fl_X8_137⟩
theorem d_X8_count_83 : Dc M_X8_count 83 (.ireturn) 1 84 := ⟨by decide +kernel, rfl⟩
theorem d_X8_count_84 : Dc M_X8_count 84 (.aload_n 0) 1 85 := ⟨by decide +kernel, rfl⟩
theorem d_X8_count_85 : GF M_X8_count 85 8 0 88 := ⟨18, ⟨by decide +kernel, rfl⟩, fl_X8_18⟩
theorem d_X8_count_88 : CV M_X8_count 88 M_X3_allWorths 0 91 := ⟨242, ⟨by decide +kernel, rfl⟩, Or.inr (inT (List.mem_append_right _ (List.mem_append_right _ (List.mem_append_left _ (List.mem_of_getElem? (l := tables_1_3) (i := 180) (by decide +kernel)))))), mf_X3_allWorths, mi_X3_allWorths, ⟨by decide, by decide⟩⟩
theorem d_X8_count_91 : Dc M_X8_count 91 (.ireturn) 1 92 := ⟨by decide +kernel, rfl⟩
theorem d_X8_count_92 : Dc M_X8_count 92 (.aload_n 0) 1 93 := ⟨by decide +kernel, rfl⟩
theorem d_X8_count_93 : GF M_X8_count 93 8 0 96 := ⟨18, ⟨by decide +kernel, rfl⟩, fl_X8_18⟩
theorem d_X8_count_96 : CV M_X8_count 96 M_X3_allWays 0 99 := ⟨245, ⟨by decide +kernel, rfl⟩, Or.inr (inT (List.mem_append_right _ (List.mem_append_right _ (List.mem_append_left _ (List.mem_of_getElem? (l := tables_1_3) (i := 184) (by decide +kernel)))))), mf_X3_allWays, mi_X3_allWays, ⟨by decide, by decide⟩⟩
theorem d_X8_count_99 : Dc M_X8_count 99 (.ireturn) 1 100 := ⟨by decide +kernel, rfl⟩
theorem d_X8_count_100 : Dc M_X8_count 100 (.aload_n 0) 1 101 := ⟨by decide +kernel, rfl⟩
theorem d_X8_count_101 : GF M_X8_count 101 8 3 104 := ⟨37, ⟨by decide +kernel, rfl⟩, fl_X8_37⟩
theorem d_X8_count_104 : CV M_X8_count 104 M_X0_unlikeSteps 0 107 := ⟨248, ⟨by decide +kernel, rfl⟩, Or.inr (inT (List.mem_append_right _ (List.mem_append_right _ (List.mem_append_left _ (List.mem_of_getElem? (l := tables_1_3) (i := 188) (by decide +kernel)))))), mf_X0_unlikeSteps, mi_X0_unlikeSteps, ⟨by decide, by decide⟩⟩
theorem d_X8_count_107 : Dc M_X8_count 107 (.ireturn) 1 108 := ⟨by decide +kernel, rfl⟩
theorem d_X8_count_108 : Dc M_X8_count 108 (.aload_n 0) 1 109 := ⟨by decide +kernel, rfl⟩
theorem d_X8_count_109 : GF M_X8_count 109 8 3 112 := ⟨37, ⟨by decide +kernel, rfl⟩, fl_X8_37⟩
theorem d_X8_count_112 : CV M_X8_count 112 M_X0_allSteps 0 115 := ⟨251, ⟨by decide +kernel, rfl⟩, Or.inr (inT (List.mem_append_right _ (List.mem_append_right _ (List.mem_append_left _ (List.mem_of_getElem? (l := tables_1_3) (i := 192) (by decide +kernel)))))), mf_X0_allSteps, mi_X0_allSteps, ⟨by decide, by decide⟩⟩
theorem d_X8_count_115 : Dc M_X8_count 115 (.ireturn) 1 116 := ⟨by decide +kernel, rfl⟩
theorem d_X8_count_116 : Dc M_X8_count 116 (.aload_n 0) 1 117 := ⟨by decide +kernel, rfl⟩
theorem d_X8_count_117 : GF M_X8_count 117 8 6 120 := ⟨60, ⟨by decide +kernel, rfl⟩, fl_X8_60⟩
theorem d_X8_count_120 : GF M_X8_count 120 5 4 123 := ⟨254, ⟨by decide +kernel, rfl⟩, fl_X8_254⟩
theorem d_X8_count_123 : Dc M_X8_count 123 (.ireturn) 1 124 := ⟨by decide +kernel, rfl⟩
theorem d_X8_count_124 : KI M_X8_count 124 (-2 : Int32) 126 := Or.inr (Or.inl ⟨(-2), ⟨by decide +kernel, rfl⟩, by decide⟩)
theorem d_X8_count_126 : Dc M_X8_count 126 (.ireturn) 1 127 := ⟨by decide +kernel, rfl⟩
theorem d_X8_digest_0 : LL M_X8_digest 0 (lN 17) 3 := ⟨257, ⟨by decide +kernel, rfl⟩, inT (List.mem_append_right _ (List.mem_append_right _ (List.mem_append_left _ (List.mem_of_getElem? (l := tables_1_3) (i := 200) (by decide +kernel)))))⟩
theorem d_X8_digest_3 : Dc M_X8_digest 3 (.lstore_n 1) 1 4 := ⟨by decide +kernel, rfl⟩
theorem d_X8_digest_4 : KI M_X8_digest 4 (nI 0) 5 := Or.inl ⟨0, ⟨by decide +kernel, rfl⟩, by decide⟩
theorem d_X8_digest_5 : Dc M_X8_digest 5 (.istore_n 3) 1 6 := ⟨by decide +kernel, rfl⟩
theorem d_X8_digest_6 : Dc M_X8_digest 6 (.iload_n 3) 1 7 := ⟨by decide +kernel, rfl⟩
theorem d_X8_digest_7 : KI M_X8_digest 7 (nI 7) 9 := Or.inr (Or.inl ⟨7, ⟨by decide +kernel, rfl⟩, by decide⟩)
theorem d_X8_digest_9 : Di M_X8_digest 9 .gt 29 12 := ⟨20, by decide +kernel, by decide, rfl⟩
theorem d_X8_digest_12 : Dc M_X8_digest 12 (.lload_n 1) 1 13 := ⟨by decide +kernel, rfl⟩
theorem d_X8_digest_13 : Dc M_X8_digest 13 (.aload_n 0) 1 14 := ⟨by decide +kernel, rfl⟩
theorem d_X8_digest_14 : Dc M_X8_digest 14 (.iload_n 3) 1 15 := ⟨by decide +kernel, rfl⟩
theorem d_X8_digest_15 : CV M_X8_digest 15 M_X8_count 1 18 := ⟨259, ⟨by decide +kernel, rfl⟩, Or.inl (inT (List.mem_append_right _ (List.mem_append_right _ (List.mem_append_left _ (List.mem_of_getElem? (l := tables_1_3) (i := 201) (by decide +kernel)))))), mf_X8_count, mi_X8_count, ⟨by decide, by decide⟩⟩
theorem d_X8_digest_18 : Dc M_X8_digest 18 (.i2l) 1 19 := ⟨by decide +kernel, rfl⟩
theorem d_X8_digest_19 : CS M_X8_digest 19 M_X8_join 2 22 := ⟨262, ⟨by decide +kernel, rfl⟩, Or.inl (inT (List.mem_append_right _ (List.mem_append_right _ (List.mem_append_left _ (List.mem_of_getElem? (l := tables_1_3) (i := 202) (by decide +kernel)))))), mf_X8_join, ms_X8_join, ⟨by decide, by decide⟩⟩
theorem d_X8_digest_22 : Dc M_X8_digest 22 (.lstore_n 1) 1 23 := ⟨by decide +kernel, rfl⟩
theorem d_X8_digest_23 : Dc M_X8_digest 23 (.iinc 3 1) 3 26 := ⟨by decide +kernel, rfl⟩
theorem d_X8_digest_26 : Dg M_X8_digest 26 6 := ⟨(-20), by decide +kernel, by decide⟩
theorem d_X8_digest_29 : Dc M_X8_digest 29 (.lload_n 1) 1 30 := ⟨by decide +kernel, rfl⟩
theorem d_X8_digest_30 : Dc M_X8_digest 30 (.aload_n 0) 1 31 := ⟨by decide +kernel, rfl⟩
theorem d_X8_digest_31 : CV M_X8_digest 31 M_X8_fault 0 34 := ⟨266, ⟨by decide +kernel, rfl⟩, Or.inl (inT (List.mem_append_right _ (List.mem_append_right _ (List.mem_append_left _ (List.mem_of_getElem? (l := tables_1_3) (i := 206) (by decide +kernel)))))), mf_X8_fault, mi_X8_fault, ⟨by decide, by decide⟩⟩
theorem d_X8_digest_34 : Dc M_X8_digest 34 (.i2l) 1 35 := ⟨by decide +kernel, rfl⟩
theorem d_X8_digest_35 : CS M_X8_digest 35 M_X8_join 2 38 := ⟨262, ⟨by decide +kernel, rfl⟩, Or.inl (inT (List.mem_append_right _ (List.mem_append_right _ (List.mem_append_left _ (List.mem_of_getElem? (l := tables_1_3) (i := 202) (by decide +kernel)))))), mf_X8_join, ms_X8_join, ⟨by decide, by decide⟩⟩
theorem d_X8_digest_38 : Dc M_X8_digest 38 (.lstore_n 1) 1 39 := ⟨by decide +kernel, rfl⟩
theorem d_X8_digest_39 : KI M_X8_digest 39 (nI 0) 40 := Or.inl ⟨0, ⟨by decide +kernel, rfl⟩, by decide⟩
theorem d_X8_digest_40 : Dc M_X8_digest 40 (.istore_n 3) 1 41 := ⟨by decide +kernel, rfl⟩
theorem d_X8_digest_41 : Dc M_X8_digest 41 (.iload_n 3) 1 42 := ⟨by decide +kernel, rfl⟩
theorem d_X8_digest_42 : Dc M_X8_digest 42 (.aload_n 0) 1 43 := ⟨by decide +kernel, rfl⟩
theorem d_X8_digest_43 : GF M_X8_digest 43 8 1 46 := ⟨24, ⟨by decide +kernel, rfl⟩, fl_X8_24⟩
theorem d_X8_digest_46 : GF M_X8_digest 46 4 4 49 := ⟨143, ⟨by decide +kernel, rfl⟩, fl_X8_143⟩
theorem d_X8_digest_49 : Di M_X8_digest 49 .ge 65 52 := ⟨16, by decide +kernel, by decide, rfl⟩
theorem d_X8_digest_52 : Dc M_X8_digest 52 (.aload_n 0) 1 53 := ⟨by decide +kernel, rfl⟩
theorem d_X8_digest_53 : Dc M_X8_digest 53 (.lload_n 1) 1 54 := ⟨by decide +kernel, rfl⟩
theorem d_X8_digest_54 : Dc M_X8_digest 54 (.iload_n 3) 1 55 := ⟨by decide +kernel, rfl⟩
theorem d_X8_digest_55 : CV M_X8_digest 55 M_X8_joinNight 2 58 := ⟨269, ⟨by decide +kernel, rfl⟩, Or.inl (inT (List.mem_append_right _ (List.mem_append_right _ (List.mem_append_left _ (List.mem_of_getElem? (l := tables_1_3) (i := 207) (by decide +kernel)))))), mf_X8_joinNight, mi_X8_joinNight, ⟨by decide, by decide⟩⟩
theorem d_X8_digest_58 : Dc M_X8_digest 58 (.lstore_n 1) 1 59 := ⟨by decide +kernel, rfl⟩
theorem d_X8_digest_59 : Dc M_X8_digest 59 (.iinc 3 1) 3 62 := ⟨by decide +kernel, rfl⟩
theorem d_X8_digest_62 : Dg M_X8_digest 62 41 := ⟨(-21), by decide +kernel, by decide⟩
theorem d_X8_digest_65 : Dc M_X8_digest 65 (.aload_n 0) 1 66 := ⟨by decide +kernel, rfl⟩
theorem d_X8_digest_66 : Dc M_X8_digest 66 (.lload_n 1) 1 67 := ⟨by decide +kernel, rfl⟩
theorem d_X8_digest_67 : CV M_X8_digest 67 M_X8_joinBook 1 70 := ⟨273, ⟨by decide +kernel, rfl⟩, Or.inl (inT (List.mem_append_right _ (List.mem_append_right _ (List.mem_append_left _ (List.mem_of_getElem? (l := tables_1_3) (i := 218) (by decide +kernel)))))), mf_X8_joinBook, mi_X8_joinBook, ⟨by decide, by decide⟩⟩
theorem d_X8_digest_70 : Dc M_X8_digest 70 (.lstore_n 1) 1 71 := ⟨by decide +kernel, rfl⟩
theorem d_X8_digest_71 : Dc M_X8_digest 71 (.aload_n 0) 1 72 := ⟨by decide +kernel, rfl⟩
theorem d_X8_digest_72 : Dc M_X8_digest 72 (.lload_n 1) 1 73 := ⟨by decide +kernel, rfl⟩
theorem d_X8_digest_73 : CV M_X8_digest 73 M_X8_joinLots 1 76 := ⟨277, ⟨by decide +kernel, rfl⟩, Or.inl (inT (List.mem_append_right _ (List.mem_append_right _ (List.mem_append_left _ (List.mem_of_getElem? (l := tables_1_3) (i := 224) (by decide +kernel)))))), mf_X8_joinLots, mi_X8_joinLots, ⟨by decide, by decide⟩⟩
theorem d_X8_digest_76 : Dc M_X8_digest 76 (.lstore_n 1) 1 77 := ⟨by decide +kernel, rfl⟩
theorem d_X8_digest_77 : Dc M_X8_digest 77 (.lload_n 1) 1 78 := ⟨by decide +kernel, rfl⟩
theorem d_X8_digest_78 : Dc M_X8_digest 78 (.aload_n 0) 1 79 := ⟨by decide +kernel, rfl⟩
theorem d_X8_digest_79 : KI M_X8_digest 79 (nI 0) 80 := Or.inl ⟨0, ⟨by decide +kernel, rfl⟩, by decide⟩
theorem d_X8_digest_80 : CV M_X8_digest 80 M_X8_seeds 1 83 := ⟨280, ⟨by decide +kernel, rfl⟩, Or.inl (inT (List.mem_append_right _ (List.mem_append_right _ (List.mem_append_left _ (List.mem_of_getElem? (l := tables_1_3) (i := 233) (by decide +kernel)))))), mf_X8_seeds, mi_X8_seeds, ⟨by decide, by decide⟩⟩
theorem d_X8_digest_83 : Dc M_X8_digest 83 (.i2l) 1 84 := ⟨by decide +kernel, rfl⟩
theorem d_X8_digest_84 : CS M_X8_digest 84 M_X8_join 2 87 := ⟨262, ⟨by decide +kernel, rfl⟩, Or.inl (inT (List.mem_append_right _ (List.mem_append_right _ (List.mem_append_left _ (List.mem_of_getElem? (l := tables_1_3) (i := 202) (by decide +kernel)))))), mf_X8_join, ms_X8_join, ⟨by decide, by decide⟩⟩
theorem d_X8_digest_87 : Dc M_X8_digest 87 (.aload_n 0) 1 88 := ⟨by decide +kernel, rfl⟩
theorem d_X8_digest_88 : KI M_X8_digest 88 (nI 1) 89 := Or.inl ⟨1, ⟨by decide +kernel, rfl⟩, by decide⟩
theorem d_X8_digest_89 : CV M_X8_digest 89 M_X8_seeds 1 92 := ⟨280, ⟨by decide +kernel, rfl⟩, Or.inl (inT (List.mem_append_right _ (List.mem_append_right _ (List.mem_append_left _ (List.mem_of_getElem? (l := tables_1_3) (i := 233) (by decide +kernel)))))), mf_X8_seeds, mi_X8_seeds, ⟨by decide, by decide⟩⟩
theorem d_X8_digest_92 : Dc M_X8_digest 92 (.i2l) 1 93 := ⟨by decide +kernel, rfl⟩
theorem d_X8_digest_93 : CS M_X8_digest 93 M_X8_join 2 96 := ⟨262, ⟨by decide +kernel, rfl⟩, Or.inl (inT (List.mem_append_right _ (List.mem_append_right _ (List.mem_append_left _ (List.mem_of_getElem? (l := tables_1_3) (i := 202) (by decide +kernel)))))), mf_X8_join, ms_X8_join, ⟨by decide, by decide⟩⟩
theorem d_X8_digest_96 : Dc M_X8_digest 96 (.lreturn) 1 97 := ⟨by decide +kernel, rfl⟩
theorem d_X8_joinNight_0 : Dc M_X8_joinNight 0 (.lload_n 1) 1 1 := ⟨by decide +kernel, rfl⟩
theorem d_X8_joinNight_1 : Dc M_X8_joinNight 1 (.lstore 4) 2 3 := ⟨by decide +kernel, rfl⟩
theorem d_X8_joinNight_3 : KI M_X8_joinNight 3 (nI 0) 4 := Or.inl ⟨0, ⟨by decide +kernel, rfl⟩, by decide⟩
theorem d_X8_joinNight_4 : Dc M_X8_joinNight 4 (.istore 6) 2 6 := ⟨by decide +kernel, rfl⟩
theorem d_X8_joinNight_6 : Dc M_X8_joinNight 6 (.iload 6) 2 8 := ⟨by decide +kernel, rfl⟩
theorem d_X8_joinNight_8 : KI M_X8_joinNight 8 (nI 6) 10 := Or.inr (Or.inl ⟨6, ⟨by decide +kernel, rfl⟩, by decide⟩)
theorem d_X8_joinNight_10 : Di M_X8_joinNight 10 .ge 34 13 := ⟨24, by decide +kernel, by decide, rfl⟩
theorem d_X8_joinNight_13 : Dc M_X8_joinNight 13 (.lload 4) 2 15 := ⟨by decide +kernel, rfl⟩
theorem d_X8_joinNight_15 : Dc M_X8_joinNight 15 (.aload_n 0) 1 16 := ⟨by decide +kernel, rfl⟩
theorem d_X8_joinNight_16 : Dc M_X8_joinNight 16 (.iload_n 3) 1 17 := ⟨by decide +kernel, rfl⟩
theorem d_X8_joinNight_17 : Dc M_X8_joinNight 17 (.iload 6) 2 19 := ⟨by decide +kernel, rfl⟩
theorem d_X8_joinNight_19 : CV M_X8_joinNight 19 M_X8_night 2 22 := ⟨283, ⟨by decide +kernel, rfl⟩, Or.inl (inT (List.mem_append_right _ (List.mem_append_right _ (List.mem_append_left _ (List.mem_of_getElem? (l := tables_1_3) (i := 211) (by decide +kernel)))))), mf_X8_night, mi_X8_night, ⟨by decide, by decide⟩⟩
theorem d_X8_joinNight_22 : Dc M_X8_joinNight 22 (.i2l) 1 23 := ⟨by decide +kernel, rfl⟩
theorem d_X8_joinNight_23 : CS M_X8_joinNight 23 M_X8_join 2 26 := ⟨262, ⟨by decide +kernel, rfl⟩, Or.inl (inT (List.mem_append_right _ (List.mem_append_right _ (List.mem_append_left _ (List.mem_of_getElem? (l := tables_1_3) (i := 202) (by decide +kernel)))))), mf_X8_join, ms_X8_join, ⟨by decide, by decide⟩⟩
theorem d_X8_joinNight_26 : Dc M_X8_joinNight 26 (.lstore 4) 2 28 := ⟨by decide +kernel, rfl⟩
theorem d_X8_joinNight_28 : Dc M_X8_joinNight 28 (.iinc 6 1) 3 31 := ⟨by decide +kernel, rfl⟩
theorem d_X8_joinNight_31 : Dg M_X8_joinNight 31 6 := ⟨(-25), by decide +kernel, by decide⟩
theorem d_X8_joinNight_34 : Dc M_X8_joinNight 34 (.lload 4) 2 36 := ⟨by decide +kernel, rfl⟩
theorem d_X8_joinNight_36 : Dc M_X8_joinNight 36 (.aload_n 0) 1 37 := ⟨by decide +kernel, rfl⟩
theorem d_X8_joinNight_37 : Dc M_X8_joinNight 37 (.iload_n 3) 1 38 := ⟨by decide +kernel, rfl⟩
theorem d_X8_joinNight_38 : KI M_X8_joinNight 38 (nI 0) 39 := Or.inl ⟨0, ⟨by decide +kernel, rfl⟩, by decide⟩
theorem d_X8_joinNight_39 : CV M_X8_joinNight 39 M_X8_at 2 42 := ⟨286, ⟨by decide +kernel, rfl⟩, Or.inl (inT (List.mem_append_right _ (List.mem_append_right _ (List.mem_append_left _ (List.mem_of_getElem? (l := tables_1_3) (i := 212) (by decide +kernel)))))), mf_X8_at, mi_X8_at, ⟨by decide, by decide⟩⟩
theorem d_X8_joinNight_42 : Dc M_X8_joinNight 42 (.i2l) 1 43 := ⟨by decide +kernel, rfl⟩
theorem d_X8_joinNight_43 : CS M_X8_joinNight 43 M_X8_join 2 46 := ⟨262, ⟨by decide +kernel, rfl⟩, Or.inl (inT (List.mem_append_right _ (List.mem_append_right _ (List.mem_append_left _ (List.mem_of_getElem? (l := tables_1_3) (i := 202) (by decide +kernel)))))), mf_X8_join, ms_X8_join, ⟨by decide, by decide⟩⟩
theorem d_X8_joinNight_46 : Dc M_X8_joinNight 46 (.aload_n 0) 1 47 := ⟨by decide +kernel, rfl⟩
theorem d_X8_joinNight_47 : Dc M_X8_joinNight 47 (.iload_n 3) 1 48 := ⟨by decide +kernel, rfl⟩
theorem d_X8_joinNight_48 : KI M_X8_joinNight 48 (nI 7) 50 := Or.inr (Or.inl ⟨7, ⟨by decide +kernel, rfl⟩, by decide⟩)
theorem d_X8_joinNight_50 : CV M_X8_joinNight 50 M_X8_at 2 53 := ⟨286, ⟨by decide +kernel, rfl⟩, Or.inl (inT (List.mem_append_right _ (List.mem_append_right _ (List.mem_append_left _ (List.mem_of_getElem? (l := tables_1_3) (i := 212) (by decide +kernel)))))), mf_X8_at, mi_X8_at, ⟨by decide, by decide⟩⟩
theorem d_X8_joinNight_53 : Dc M_X8_joinNight 53 (.i2l) 1 54 := ⟨by decide +kernel, rfl⟩
theorem d_X8_joinNight_54 : CS M_X8_joinNight 54 M_X8_join 2 57 := ⟨262, ⟨by decide +kernel, rfl⟩, Or.inl (inT (List.mem_append_right _ (List.mem_append_right _ (List.mem_append_left _ (List.mem_of_getElem? (l := tables_1_3) (i := 202) (by decide +kernel)))))), mf_X8_join, ms_X8_join, ⟨by decide, by decide⟩⟩
theorem d_X8_joinNight_57 : Dc M_X8_joinNight 57 (.aload_n 0) 1 58 := ⟨by decide +kernel, rfl⟩
theorem d_X8_joinNight_58 : Dc M_X8_joinNight 58 (.iload_n 3) 1 59 := ⟨by decide +kernel, rfl⟩
theorem d_X8_joinNight_59 : KI M_X8_joinNight 59 (nI 20) 61 := Or.inr (Or.inl ⟨20, ⟨by decide +kernel, rfl⟩, by decide⟩)
theorem d_X8_joinNight_61 : CV M_X8_joinNight 61 M_X8_at 2 64 := ⟨286, ⟨by decide +kernel, rfl⟩, Or.inl (inT (List.mem_append_right _ (List.mem_append_right _ (List.mem_append_left _ (List.mem_of_getElem? (l := tables_1_3) (i := 212) (by decide +kernel)))))), mf_X8_at, mi_X8_at, ⟨by decide, by decide⟩⟩
theorem d_X8_joinNight_64 : Dc M_X8_joinNight 64 (.i2l) 1 65 := ⟨by decide +kernel, rfl⟩
theorem d_X8_joinNight_65 : CS M_X8_joinNight 65 M_X8_join 2 68 := ⟨262, ⟨by decide +kernel, rfl⟩, Or.inl (inT (List.mem_append_right _ (List.mem_append_right _ (List.mem_append_left _ (List.mem_of_getElem? (l := tables_1_3) (i := 202) (by decide +kernel)))))), mf_X8_join, ms_X8_join, ⟨by decide, by decide⟩⟩
theorem d_X8_joinNight_68 : Dc M_X8_joinNight 68 (.lstore 4) 2 70 := ⟨by decide +kernel, rfl⟩
theorem d_X8_joinNight_70 : KI M_X8_joinNight 70 (nI 0) 71 := Or.inl ⟨0, ⟨by decide +kernel, rfl⟩, by decide⟩
theorem d_X8_joinNight_71 : Dc M_X8_joinNight 71 (.istore 6) 2 73 := ⟨by decide +kernel, rfl⟩
theorem d_X8_joinNight_73 : Dc M_X8_joinNight 73 (.iload 6) 2 75 := ⟨by decide +kernel, rfl⟩
theorem d_X8_joinNight_75 : KI M_X8_joinNight 75 (nI 6) 77 := Or.inr (Or.inl ⟨6, ⟨by decide +kernel, rfl⟩, by decide⟩)
theorem d_X8_joinNight_77 : Di M_X8_joinNight 77 .ge 129 80 := ⟨52, by decide +kernel, by decide, rfl⟩
theorem d_X8_joinNight_80 : Dc M_X8_joinNight 80 (.lload 4) 2 82 := ⟨by decide +kernel, rfl⟩
theorem d_X8_joinNight_82 : Dc M_X8_joinNight 82 (.aload_n 0) 1 83 := ⟨by decide +kernel, rfl⟩
theorem d_X8_joinNight_83 : Dc M_X8_joinNight 83 (.iload_n 3) 1 84 := ⟨by decide +kernel, rfl⟩
theorem d_X8_joinNight_84 : Dc M_X8_joinNight 84 (.iload 6) 2 86 := ⟨by decide +kernel, rfl⟩
theorem d_X8_joinNight_86 : CV M_X8_joinNight 86 M_X8_when 2 89 := ⟨289, ⟨by decide +kernel, rfl⟩, Or.inl (inT (List.mem_append_right _ (List.mem_append_right _ (List.mem_append_left _ (List.mem_of_getElem? (l := tables_1_3) (i := 213) (by decide +kernel)))))), mf_X8_when, mi_X8_when, ⟨by decide, by decide⟩⟩
theorem d_X8_joinNight_89 : Dc M_X8_joinNight 89 (.i2l) 1 90 := ⟨by decide +kernel, rfl⟩
theorem d_X8_joinNight_90 : CS M_X8_joinNight 90 M_X8_join 2 93 := ⟨262, ⟨by decide +kernel, rfl⟩, Or.inl (inT (List.mem_append_right _ (List.mem_append_right _ (List.mem_append_left _ (List.mem_of_getElem? (l := tables_1_3) (i := 202) (by decide +kernel)))))), mf_X8_join, ms_X8_join, ⟨by decide, by decide⟩⟩
theorem d_X8_joinNight_93 : Dc M_X8_joinNight 93 (.lstore 4) 2 95 := ⟨by decide +kernel, rfl⟩
theorem d_X8_joinNight_95 : Dc M_X8_joinNight 95 (.lload 4) 2 97 := ⟨by decide +kernel, rfl⟩
theorem d_X8_joinNight_97 : Dc M_X8_joinNight 97 (.aload_n 0) 1 98 := ⟨by decide +kernel, rfl⟩
theorem d_X8_joinNight_98 : Dc M_X8_joinNight 98 (.iload_n 3) 1 99 := ⟨by decide +kernel, rfl⟩
theorem d_X8_joinNight_99 : Dc M_X8_joinNight 99 (.iload 6) 2 101 := ⟨by decide +kernel, rfl⟩
theorem d_X8_joinNight_101 : KI M_X8_joinNight 101 (nI 0) 102 := Or.inl ⟨0, ⟨by decide +kernel, rfl⟩, by decide⟩
theorem d_X8_joinNight_102 : CV M_X8_joinNight 102 M_X8_alone 3 105 := ⟨292, ⟨by decide +kernel, rfl⟩, Or.inl (inT (List.mem_append_right _ (List.mem_append_right _ (List.mem_append_left _ (List.mem_of_getElem? (l := tables_1_3) (i := 214) (by decide +kernel)))))), mf_X8_alone, mi_X8_alone, ⟨by decide, by decide⟩⟩
theorem d_X8_joinNight_105 : Dc M_X8_joinNight 105 (.i2l) 1 106 := ⟨by decide +kernel, rfl⟩
theorem d_X8_joinNight_106 : CS M_X8_joinNight 106 M_X8_join 2 109 := ⟨262, ⟨by decide +kernel, rfl⟩, Or.inl (inT (List.mem_append_right _ (List.mem_append_right _ (List.mem_append_left _ (List.mem_of_getElem? (l := tables_1_3) (i := 202) (by decide +kernel)))))), mf_X8_join, ms_X8_join, ⟨by decide, by decide⟩⟩
theorem d_X8_joinNight_109 : Dc M_X8_joinNight 109 (.aload_n 0) 1 110 := ⟨by decide +kernel, rfl⟩
theorem d_X8_joinNight_110 : Dc M_X8_joinNight 110 (.iload_n 3) 1 111 := ⟨by decide +kernel, rfl⟩
theorem d_X8_joinNight_111 : Dc M_X8_joinNight 111 (.iload 6) 2 113 := ⟨by decide +kernel, rfl⟩
theorem d_X8_joinNight_113 : KI M_X8_joinNight 113 (nI 1) 114 := Or.inl ⟨1, ⟨by decide +kernel, rfl⟩, by decide⟩
theorem d_X8_joinNight_114 : CV M_X8_joinNight 114 M_X8_alone 3 117 := ⟨292, ⟨by decide +kernel, rfl⟩, Or.inl (inT (List.mem_append_right _ (List.mem_append_right _ (List.mem_append_left _ (List.mem_of_getElem? (l := tables_1_3) (i := 214) (by decide +kernel)))))), mf_X8_alone, mi_X8_alone, ⟨by decide, by decide⟩⟩
theorem d_X8_joinNight_117 : Dc M_X8_joinNight 117 (.i2l) 1 118 := ⟨by decide +kernel, rfl⟩
theorem d_X8_joinNight_118 : CS M_X8_joinNight 118 M_X8_join 2 121 := ⟨262, ⟨by decide +kernel, rfl⟩, Or.inl (inT (List.mem_append_right _ (List.mem_append_right _ (List.mem_append_left _ (List.mem_of_getElem? (l := tables_1_3) (i := 202) (by decide +kernel)))))), mf_X8_join, ms_X8_join, ⟨by decide, by decide⟩⟩
theorem d_X8_joinNight_121 : Dc M_X8_joinNight 121 (.lstore 4) 2 123 := ⟨by decide +kernel, rfl⟩
theorem d_X8_joinNight_123 : Dc M_X8_joinNight 123 (.iinc 6 1) 3 126 := ⟨by decide +kernel, rfl⟩
theorem d_X8_joinNight_126 : Dg M_X8_joinNight 126 73 := ⟨(-53), by decide +kernel, by decide⟩
theorem d_X8_joinNight_129 : Dc M_X8_joinNight 129 (.lload 4) 2 131 := ⟨by decide +kernel, rfl⟩
theorem d_X8_joinNight_131 : Dc M_X8_joinNight 131 (.aload_n 0) 1 132 := ⟨by decide +kernel, rfl⟩
theorem d_X8_joinNight_132 : Dc M_X8_joinNight 132 (.iload_n 3) 1 133 := ⟨by decide +kernel, rfl⟩
theorem d_X8_joinNight_133 : KI M_X8_joinNight 133 (nI 1) 134 := Or.inl ⟨1, ⟨by decide +kernel, rfl⟩, by decide⟩
theorem d_X8_joinNight_134 : KI M_X8_joinNight 134 (nI 5) 135 := Or.inl ⟨5, ⟨by decide +kernel, rfl⟩, by decide⟩
theorem d_X8_joinNight_135 : CV M_X8_joinNight 135 M_X8_steals 3 138 := ⟨295, ⟨by decide +kernel, rfl⟩, Or.inl (inT (List.mem_append_right _ (List.mem_append_right _ (List.mem_append_left _ (List.mem_of_getElem? (l := tables_1_3) (i := 215) (by decide +kernel)))))), mf_X8_steals, mi_X8_steals, ⟨by decide, by decide⟩⟩
theorem d_X8_joinNight_138 : Dc M_X8_joinNight 138 (.i2l) 1 139 := ⟨by decide +kernel, rfl⟩
theorem d_X8_joinNight_139 : CS M_X8_joinNight 139 M_X8_join 2 142 := ⟨262, ⟨by decide +kernel, rfl⟩, Or.inl (inT (List.mem_append_right _ (List.mem_append_right _ (List.mem_append_left _ (List.mem_of_getElem? (l := tables_1_3) (i := 202) (by decide +kernel)))))), mf_X8_join, ms_X8_join, ⟨by decide, by decide⟩⟩
theorem d_X8_joinNight_142 : Dc M_X8_joinNight 142 (.lstore 4) 2 144 := ⟨by decide +kernel, rfl⟩
theorem d_X8_joinNight_144 : Dc M_X8_joinNight 144 (.lload 4) 2 146 := ⟨by decide +kernel, rfl⟩
theorem d_X8_joinNight_146 : Dc M_X8_joinNight 146 (.aload_n 0) 1 147 := ⟨by decide +kernel, rfl⟩
theorem d_X8_joinNight_147 : Dc M_X8_joinNight 147 (.iload_n 3) 1 148 := ⟨by decide +kernel, rfl⟩
theorem d_X8_joinNight_148 : KI M_X8_joinNight 148 (nI 0) 149 := Or.inl ⟨0, ⟨by decide +kernel, rfl⟩, by decide⟩
theorem d_X8_joinNight_149 : CV M_X8_joinNight 149 M_X8_likely 2 152 := ⟨298, ⟨by decide +kernel, rfl⟩, Or.inl (inT (List.mem_append_right _ (List.mem_append_right _ (List.mem_append_left _ (List.mem_of_getElem? (l := tables_1_3) (i := 216) (by decide +kernel)))))), mf_X8_likely, mi_X8_likely, ⟨by decide, by decide⟩⟩
theorem d_X8_joinNight_152 : CS M_X8_joinNight 152 M_X8_join 2 155 := ⟨262, ⟨by decide +kernel, rfl⟩, Or.inl (inT (List.mem_append_right _ (List.mem_append_right _ (List.mem_append_left _ (List.mem_of_getElem? (l := tables_1_3) (i := 202) (by decide +kernel)))))), mf_X8_join, ms_X8_join, ⟨by decide, by decide⟩⟩
theorem d_X8_joinNight_155 : Dc M_X8_joinNight 155 (.aload_n 0) 1 156 := ⟨by decide +kernel, rfl⟩
theorem d_X8_joinNight_156 : Dc M_X8_joinNight 156 (.iload_n 3) 1 157 := ⟨by decide +kernel, rfl⟩
theorem d_X8_joinNight_157 : KI M_X8_joinNight 157 (nI 1) 158 := Or.inl ⟨1, ⟨by decide +kernel, rfl⟩, by decide⟩
theorem d_X8_joinNight_158 : CV M_X8_joinNight 158 M_X8_likely 2 161 := ⟨298, ⟨by decide +kernel, rfl⟩, Or.inl (inT (List.mem_append_right _ (List.mem_append_right _ (List.mem_append_left _ (List.mem_of_getElem? (l := tables_1_3) (i := 216) (by decide +kernel)))))), mf_X8_likely, mi_X8_likely, ⟨by decide, by decide⟩⟩
theorem d_X8_joinNight_161 : CS M_X8_joinNight 161 M_X8_join 2 164 := ⟨262, ⟨by decide +kernel, rfl⟩, Or.inl (inT (List.mem_append_right _ (List.mem_append_right _ (List.mem_append_left _ (List.mem_of_getElem? (l := tables_1_3) (i := 202) (by decide +kernel)))))), mf_X8_join, ms_X8_join, ⟨by decide, by decide⟩⟩
theorem d_X8_joinNight_164 : Dc M_X8_joinNight 164 (.lstore 4) 2 166 := ⟨by decide +kernel, rfl⟩
theorem d_X8_joinNight_166 : Dc M_X8_joinNight 166 (.lload 4) 2 168 := ⟨by decide +kernel, rfl⟩
theorem d_X8_joinNight_168 : Dc M_X8_joinNight 168 (.aload_n 0) 1 169 := ⟨by decide +kernel, rfl⟩
theorem d_X8_joinNight_169 : Dc M_X8_joinNight 169 (.iload_n 3) 1 170 := ⟨by decide +kernel, rfl⟩
theorem d_X8_joinNight_170 : KI M_X8_joinNight 170 (nI 4) 171 := Or.inl ⟨4, ⟨by decide +kernel, rfl⟩, by decide⟩
theorem d_X8_joinNight_171 : KI M_X8_joinNight 171 (nI 0) 172 := Or.inl ⟨0, ⟨by decide +kernel, rfl⟩, by decide⟩
theorem d_X8_joinNight_172 : CV M_X8_joinNight 172 M_X8_dice 3 175 := ⟨302, ⟨by decide +kernel, rfl⟩, Or.inl (inT (List.mem_append_right _ (List.mem_append_right _ (List.mem_append_left _ (List.mem_of_getElem? (l := tables_1_3) (i := 217) (by decide +kernel)))))), mf_X8_dice, mi_X8_dice, ⟨by decide, by decide⟩⟩
theorem d_X8_joinNight_175 : CS M_X8_joinNight 175 M_X8_join 2 178 := ⟨262, ⟨by decide +kernel, rfl⟩, Or.inl (inT (List.mem_append_right _ (List.mem_append_right _ (List.mem_append_left _ (List.mem_of_getElem? (l := tables_1_3) (i := 202) (by decide +kernel)))))), mf_X8_join, ms_X8_join, ⟨by decide, by decide⟩⟩
theorem d_X8_joinNight_178 : Dc M_X8_joinNight 178 (.aload_n 0) 1 179 := ⟨by decide +kernel, rfl⟩
theorem d_X8_joinNight_179 : Dc M_X8_joinNight 179 (.iload_n 3) 1 180 := ⟨by decide +kernel, rfl⟩
theorem d_X8_joinNight_180 : KI M_X8_joinNight 180 (nI 4) 181 := Or.inl ⟨4, ⟨by decide +kernel, rfl⟩, by decide⟩
theorem d_X8_joinNight_181 : KI M_X8_joinNight 181 (nI 1) 182 := Or.inl ⟨1, ⟨by decide +kernel, rfl⟩, by decide⟩
theorem d_X8_joinNight_182 : CV M_X8_joinNight 182 M_X8_dice 3 185 := ⟨302, ⟨by decide +kernel, rfl⟩, Or.inl (inT (List.mem_append_right _ (List.mem_append_right _ (List.mem_append_left _ (List.mem_of_getElem? (l := tables_1_3) (i := 217) (by decide +kernel)))))), mf_X8_dice, mi_X8_dice, ⟨by decide, by decide⟩⟩
theorem d_X8_joinNight_185 : CS M_X8_joinNight 185 M_X8_join 2 188 := ⟨262, ⟨by decide +kernel, rfl⟩, Or.inl (inT (List.mem_append_right _ (List.mem_append_right _ (List.mem_append_left _ (List.mem_of_getElem? (l := tables_1_3) (i := 202) (by decide +kernel)))))), mf_X8_join, ms_X8_join, ⟨by decide, by decide⟩⟩
theorem d_X8_joinNight_188 : Dc M_X8_joinNight 188 (.lreturn) 1 189 := ⟨by decide +kernel, rfl⟩
theorem d_X8_joinBook_0 : Dc M_X8_joinBook 0 (.aload_n 0) 1 1 := ⟨by decide +kernel, rfl⟩
theorem d_X8_joinBook_1 : GF M_X8_joinBook 1 8 1 4 := ⟨24, ⟨by decide +kernel, rfl⟩, fl_X8_24⟩
theorem d_X8_joinBook_4 : GF M_X8_joinBook 4 4 4 7 := ⟨143, ⟨by decide +kernel, rfl⟩, fl_X8_143⟩
theorem d_X8_joinBook_7 : Dc M_X8_joinBook 7 (.istore_n 3) 1 8 := ⟨by decide +kernel, rfl⟩
theorem d_X8_joinBook_8 : Dc M_X8_joinBook 8 (.lload_n 1) 1 9 := ⟨by decide +kernel, rfl⟩
theorem d_X8_joinBook_9 : Dc M_X8_joinBook 9 (.aload_n 0) 1 10 := ⟨by decide +kernel, rfl⟩
theorem d_X8_joinBook_10 : Dc M_X8_joinBook 10 (.iload_n 3) 1 11 := ⟨by decide +kernel, rfl⟩
theorem d_X8_joinBook_11 : KI M_X8_joinBook 11 (-1 : Int32) 12 := Or.inl ⟨(-1), ⟨by decide +kernel, rfl⟩, by decide⟩
theorem d_X8_joinBook_12 : KI M_X8_joinBook 12 (nI 0) 13 := Or.inl ⟨0, ⟨by decide +kernel, rfl⟩, by decide⟩
theorem d_X8_joinBook_13 : KI M_X8_joinBook 13 (nI 0) 14 := Or.inl ⟨0, ⟨by decide +kernel, rfl⟩, by decide⟩
theorem d_X8_joinBook_14 : CV M_X8_joinBook 14 M_X8_next 4 17 := ⟨305, ⟨by decide +kernel, rfl⟩, Or.inl (inT (List.mem_append_right _ (List.mem_append_right _ (List.mem_append_left _ (List.mem_of_getElem? (l := tables_1_3) (i := 222) (by decide +kernel)))))), mf_X8_next, mi_X8_next, ⟨by decide, by decide⟩⟩
theorem d_X8_joinBook_17 : CS M_X8_joinBook 17 M_X8_join 2 20 := ⟨262, ⟨by decide +kernel, rfl⟩, Or.inl (inT (List.mem_append_right _ (List.mem_append_right _ (List.mem_append_left _ (List.mem_of_getElem? (l := tables_1_3) (i := 202) (by decide +kernel)))))), mf_X8_join, ms_X8_join, ⟨by decide, by decide⟩⟩
theorem d_X8_joinBook_20 : Dc M_X8_joinBook 20 (.aload_n 0) 1 21 := ⟨by decide +kernel, rfl⟩
theorem d_X8_joinBook_21 : Dc M_X8_joinBook 21 (.iload_n 3) 1 22 := ⟨by decide +kernel, rfl⟩
theorem d_X8_joinBook_22 : KI M_X8_joinBook 22 (-1 : Int32) 23 := Or.inl ⟨(-1), ⟨by decide +kernel, rfl⟩, by decide⟩
theorem d_X8_joinBook_23 : KI M_X8_joinBook 23 (nI 0) 24 := Or.inl ⟨0, ⟨by decide +kernel, rfl⟩, by decide⟩
theorem d_X8_joinBook_24 : KI M_X8_joinBook 24 (nI 1) 25 := Or.inl ⟨1, ⟨by decide +kernel, rfl⟩, by decide⟩
theorem d_X8_joinBook_25 : CV M_X8_joinBook 25 M_X8_next 4 28 := ⟨305, ⟨by decide +kernel, rfl⟩, Or.inl (inT (List.mem_append_right _ (List.mem_append_right _ (List.mem_append_left _ (List.mem_of_getElem? (l := tables_1_3) (i := 222) (by decide +kernel)))))), mf_X8_next, mi_X8_next, ⟨by decide, by decide⟩⟩
theorem d_X8_joinBook_28 : CS M_X8_joinBook 28 M_X8_join 2 31 := ⟨262, ⟨by decide +kernel, rfl⟩, Or.inl (inT (List.mem_append_right _ (List.mem_append_right _ (List.mem_append_left _ (List.mem_of_getElem? (l := tables_1_3) (i := 202) (by decide +kernel)))))), mf_X8_join, ms_X8_join, ⟨by decide, by decide⟩⟩
theorem d_X8_joinBook_31 : Dc M_X8_joinBook 31 (.lstore 4) 2 33 := ⟨by decide +kernel, rfl⟩
theorem d_X8_joinBook_33 : Dc M_X8_joinBook 33 (.lload 4) 2 35 := ⟨by decide +kernel, rfl⟩
theorem d_X8_joinBook_35 : Dc M_X8_joinBook 35 (.aload_n 0) 1 36 := ⟨by decide +kernel, rfl⟩
theorem d_X8_joinBook_36 : Dc M_X8_joinBook 36 (.iload_n 3) 1 37 := ⟨by decide +kernel, rfl⟩
theorem d_X8_joinBook_37 : KI M_X8_joinBook 37 (nI 1) 38 := Or.inl ⟨1, ⟨by decide +kernel, rfl⟩, by decide⟩
theorem d_X8_joinBook_38 : KI M_X8_joinBook 38 (nI 2) 39 := Or.inl ⟨2, ⟨by decide +kernel, rfl⟩, by decide⟩
theorem d_X8_joinBook_39 : KI M_X8_joinBook 39 (nI 0) 40 := Or.inl ⟨0, ⟨by decide +kernel, rfl⟩, by decide⟩
theorem d_X8_joinBook_40 : CV M_X8_joinBook 40 M_X8_next 4 43 := ⟨305, ⟨by decide +kernel, rfl⟩, Or.inl (inT (List.mem_append_right _ (List.mem_append_right _ (List.mem_append_left _ (List.mem_of_getElem? (l := tables_1_3) (i := 222) (by decide +kernel)))))), mf_X8_next, mi_X8_next, ⟨by decide, by decide⟩⟩
theorem d_X8_joinBook_43 : CS M_X8_joinBook 43 M_X8_join 2 46 := ⟨262, ⟨by decide +kernel, rfl⟩, Or.inl (inT (List.mem_append_right _ (List.mem_append_right _ (List.mem_append_left _ (List.mem_of_getElem? (l := tables_1_3) (i := 202) (by decide +kernel)))))), mf_X8_join, ms_X8_join, ⟨by decide, by decide⟩⟩
theorem d_X8_joinBook_46 : Dc M_X8_joinBook 46 (.aload_n 0) 1 47 := ⟨by decide +kernel, rfl⟩
theorem d_X8_joinBook_47 : Dc M_X8_joinBook 47 (.iload_n 3) 1 48 := ⟨by decide +kernel, rfl⟩
theorem d_X8_joinBook_48 : KI M_X8_joinBook 48 (nI 1) 49 := Or.inl ⟨1, ⟨by decide +kernel, rfl⟩, by decide⟩
theorem d_X8_joinBook_49 : KI M_X8_joinBook 49 (nI 2) 50 := Or.inl ⟨2, ⟨by decide +kernel, rfl⟩, by decide⟩
theorem d_X8_joinBook_50 : KI M_X8_joinBook 50 (nI 1) 51 := Or.inl ⟨1, ⟨by decide +kernel, rfl⟩, by decide⟩
theorem d_X8_joinBook_51 : CV M_X8_joinBook 51 M_X8_next 4 54 := ⟨305, ⟨by decide +kernel, rfl⟩, Or.inl (inT (List.mem_append_right _ (List.mem_append_right _ (List.mem_append_left _ (List.mem_of_getElem? (l := tables_1_3) (i := 222) (by decide +kernel)))))), mf_X8_next, mi_X8_next, ⟨by decide, by decide⟩⟩
theorem d_X8_joinBook_54 : CS M_X8_joinBook 54 M_X8_join 2 57 := ⟨262, ⟨by decide +kernel, rfl⟩, Or.inl (inT (List.mem_append_right _ (List.mem_append_right _ (List.mem_append_left _ (List.mem_of_getElem? (l := tables_1_3) (i := 202) (by decide +kernel)))))), mf_X8_join, ms_X8_join, ⟨by decide, by decide⟩⟩
theorem d_X8_joinBook_57 : Dc M_X8_joinBook 57 (.lstore 4) 2 59 := ⟨by decide +kernel, rfl⟩
theorem d_X8_joinBook_59 : KI M_X8_joinBook 59 (-1 : Int32) 60 := Or.inl ⟨(-1), ⟨by decide +kernel, rfl⟩, by decide⟩
theorem d_X8_joinBook_60 : Dc M_X8_joinBook 60 (.istore 6) 2 62 := ⟨by decide +kernel, rfl⟩
theorem d_X8_joinBook_62 : Dc M_X8_joinBook 62 (.iload 6) 2 64 := ⟨by decide +kernel, rfl⟩
theorem d_X8_joinBook_64 : KI M_X8_joinBook 64 (nI 6) 66 := Or.inr (Or.inl ⟨6, ⟨by decide +kernel, rfl⟩, by decide⟩)
theorem d_X8_joinBook_66 : Di M_X8_joinBook 66 .ge 89 69 := ⟨23, by decide +kernel, by decide, rfl⟩
theorem d_X8_joinBook_69 : Dc M_X8_joinBook 69 (.lload 4) 2 71 := ⟨by decide +kernel, rfl⟩
theorem d_X8_joinBook_71 : Dc M_X8_joinBook 71 (.aload_n 0) 1 72 := ⟨by decide +kernel, rfl⟩
theorem d_X8_joinBook_72 : Dc M_X8_joinBook 72 (.iload 6) 2 74 := ⟨by decide +kernel, rfl⟩
theorem d_X8_joinBook_74 : CV M_X8_joinBook 74 M_X8_fresh 1 77 := ⟨309, ⟨by decide +kernel, rfl⟩, Or.inl (inT (List.mem_append_right _ (List.mem_append_right _ (List.mem_append_left _ (List.mem_of_getElem? (l := tables_1_3) (i := 223) (by decide +kernel)))))), mf_X8_fresh, mi_X8_fresh, ⟨by decide, by decide⟩⟩
theorem d_X8_joinBook_77 : Dc M_X8_joinBook 77 (.i2l) 1 78 := ⟨by decide +kernel, rfl⟩
theorem d_X8_joinBook_78 : CS M_X8_joinBook 78 M_X8_join 2 81 := ⟨262, ⟨by decide +kernel, rfl⟩, Or.inl (inT (List.mem_append_right _ (List.mem_append_right _ (List.mem_append_left _ (List.mem_of_getElem? (l := tables_1_3) (i := 202) (by decide +kernel)))))), mf_X8_join, ms_X8_join, ⟨by decide, by decide⟩⟩
theorem d_X8_joinBook_81 : Dc M_X8_joinBook 81 (.lstore 4) 2 83 := ⟨by decide +kernel, rfl⟩
theorem d_X8_joinBook_83 : Dc M_X8_joinBook 83 (.iinc 6 1) 3 86 := ⟨by decide +kernel, rfl⟩
theorem d_X8_joinBook_86 : Dg M_X8_joinBook 86 62 := ⟨(-24), by decide +kernel, by decide⟩
theorem d_X8_joinBook_89 : Dc M_X8_joinBook 89 (.lload 4) 2 91 := ⟨by decide +kernel, rfl⟩
theorem d_X8_joinBook_91 : Dc M_X8_joinBook 91 (.lreturn) 1 92 := ⟨by decide +kernel, rfl⟩
theorem d_X8_joinLots_0 : Dc M_X8_joinLots 0 (.lload_n 1) 1 1 := ⟨by decide +kernel, rfl⟩
theorem d_X8_joinLots_1 : Dc M_X8_joinLots 1 (.lstore_n 3) 1 2 := ⟨by decide +kernel, rfl⟩
theorem d_X8_joinLots_2 : KI M_X8_joinLots 2 (nI 0) 3 := Or.inl ⟨0, ⟨by decide +kernel, rfl⟩, by decide⟩
theorem d_X8_joinLots_3 : Dc M_X8_joinLots 3 (.istore 5) 2 5 := ⟨by decide +kernel, rfl⟩
theorem d_X8_joinLots_5 : Dc M_X8_joinLots 5 (.iload 5) 2 7 := ⟨by decide +kernel, rfl⟩
theorem d_X8_joinLots_7 : KI M_X8_joinLots 7 (nI 2) 8 := Or.inl ⟨2, ⟨by decide +kernel, rfl⟩, by decide⟩
theorem d_X8_joinLots_8 : Di M_X8_joinLots 8 .gt 33 11 := ⟨25, by decide +kernel, by decide, rfl⟩
theorem d_X8_joinLots_11 : Dc M_X8_joinLots 11 (.lload_n 3) 1 12 := ⟨by decide +kernel, rfl⟩
theorem d_X8_joinLots_12 : Dc M_X8_joinLots 12 (.aload_n 0) 1 13 := ⟨by decide +kernel, rfl⟩
theorem d_X8_joinLots_13 : KI M_X8_joinLots 13 (nI 0) 14 := Or.inl ⟨0, ⟨by decide +kernel, rfl⟩, by decide⟩
theorem d_X8_joinLots_14 : KI M_X8_joinLots 14 (nI 1) 15 := Or.inl ⟨1, ⟨by decide +kernel, rfl⟩, by decide⟩
theorem d_X8_joinLots_15 : KI M_X8_joinLots 15 (nI 6) 17 := Or.inr (Or.inl ⟨6, ⟨by decide +kernel, rfl⟩, by decide⟩)
theorem d_X8_joinLots_17 : Dc M_X8_joinLots 17 (.iload 5) 2 19 := ⟨by decide +kernel, rfl⟩
theorem d_X8_joinLots_19 : CV M_X8_joinLots 19 M_X8_breaks 4 22 := ⟨312, ⟨by decide +kernel, rfl⟩, Or.inl (inT (List.mem_append_right _ (List.mem_append_right _ (List.mem_append_left _ (List.mem_of_getElem? (l := tables_1_3) (i := 228) (by decide +kernel)))))), mf_X8_breaks, mi_X8_breaks, ⟨by decide, by decide⟩⟩
theorem d_X8_joinLots_22 : Dc M_X8_joinLots 22 (.i2l) 1 23 := ⟨by decide +kernel, rfl⟩
theorem d_X8_joinLots_23 : CS M_X8_joinLots 23 M_X8_join 2 26 := ⟨262, ⟨by decide +kernel, rfl⟩, Or.inl (inT (List.mem_append_right _ (List.mem_append_right _ (List.mem_append_left _ (List.mem_of_getElem? (l := tables_1_3) (i := 202) (by decide +kernel)))))), mf_X8_join, ms_X8_join, ⟨by decide, by decide⟩⟩
theorem d_X8_joinLots_26 : Dc M_X8_joinLots 26 (.lstore_n 3) 1 27 := ⟨by decide +kernel, rfl⟩
theorem d_X8_joinLots_27 : Dc M_X8_joinLots 27 (.iinc 5 1) 3 30 := ⟨by decide +kernel, rfl⟩
theorem d_X8_joinLots_30 : Dg M_X8_joinLots 30 5 := ⟨(-25), by decide +kernel, by decide⟩
theorem d_X8_joinLots_33 : KI M_X8_joinLots 33 (nI 0) 34 := Or.inl ⟨0, ⟨by decide +kernel, rfl⟩, by decide⟩
theorem d_X8_joinLots_34 : Dc M_X8_joinLots 34 (.istore 5) 2 36 := ⟨by decide +kernel, rfl⟩
theorem d_X8_joinLots_36 : Dc M_X8_joinLots 36 (.iload 5) 2 38 := ⟨by decide +kernel, rfl⟩
theorem d_X8_joinLots_38 : KI M_X8_joinLots 38 (nI 2) 39 := Or.inl ⟨2, ⟨by decide +kernel, rfl⟩, by decide⟩
theorem d_X8_joinLots_39 : Di M_X8_joinLots 39 .gt 65 42 := ⟨26, by decide +kernel, by decide, rfl⟩
theorem d_X8_joinLots_42 : Dc M_X8_joinLots 42 (.lload_n 3) 1 43 := ⟨by decide +kernel, rfl⟩
theorem d_X8_joinLots_43 : Dc M_X8_joinLots 43 (.aload_n 0) 1 44 := ⟨by decide +kernel, rfl⟩
theorem d_X8_joinLots_44 : KI M_X8_joinLots 44 (nI 0) 45 := Or.inl ⟨0, ⟨by decide +kernel, rfl⟩, by decide⟩
theorem d_X8_joinLots_45 : KI M_X8_joinLots 45 (nI 1) 46 := Or.inl ⟨1, ⟨by decide +kernel, rfl⟩, by decide⟩
theorem d_X8_joinLots_46 : KI M_X8_joinLots 46 (nI 6) 48 := Or.inr (Or.inl ⟨6, ⟨by decide +kernel, rfl⟩, by decide⟩)
theorem d_X8_joinLots_48 : KI M_X8_joinLots 48 (nI 0) 49 := Or.inl ⟨0, ⟨by decide +kernel, rfl⟩, by decide⟩
theorem d_X8_joinLots_49 : Dc M_X8_joinLots 49 (.iload 5) 2 51 := ⟨by decide +kernel, rfl⟩
theorem d_X8_joinLots_51 : CV M_X8_joinLots 51 M_X8_seen 5 54 := ⟨316, ⟨by decide +kernel, rfl⟩, Or.inl (inT (List.mem_append_right _ (List.mem_append_right _ (List.mem_append_left _ (List.mem_of_getElem? (l := tables_1_3) (i := 229) (by decide +kernel)))))), mf_X8_seen, mi_X8_seen, ⟨by decide, by decide⟩⟩
theorem d_X8_joinLots_54 : Dc M_X8_joinLots 54 (.i2l) 1 55 := ⟨by decide +kernel, rfl⟩
theorem d_X8_joinLots_55 : CS M_X8_joinLots 55 M_X8_join 2 58 := ⟨262, ⟨by decide +kernel, rfl⟩, Or.inl (inT (List.mem_append_right _ (List.mem_append_right _ (List.mem_append_left _ (List.mem_of_getElem? (l := tables_1_3) (i := 202) (by decide +kernel)))))), mf_X8_join, ms_X8_join, ⟨by decide, by decide⟩⟩
theorem d_X8_joinLots_58 : Dc M_X8_joinLots 58 (.lstore_n 3) 1 59 := ⟨by decide +kernel, rfl⟩
theorem d_X8_joinLots_59 : Dc M_X8_joinLots 59 (.iinc 5 1) 3 62 := ⟨by decide +kernel, rfl⟩
theorem d_X8_joinLots_62 : Dg M_X8_joinLots 62 36 := ⟨(-26), by decide +kernel, by decide⟩
theorem d_X8_joinLots_65 : KI M_X8_joinLots 65 (nI 0) 66 := Or.inl ⟨0, ⟨by decide +kernel, rfl⟩, by decide⟩
theorem d_X8_joinLots_66 : Dc M_X8_joinLots 66 (.istore 5) 2 68 := ⟨by decide +kernel, rfl⟩
theorem d_X8_joinLots_68 : Dc M_X8_joinLots 68 (.iload 5) 2 70 := ⟨by decide +kernel, rfl⟩
theorem d_X8_joinLots_70 : KI M_X8_joinLots 70 (nI 3) 71 := Or.inl ⟨3, ⟨by decide +kernel, rfl⟩, by decide⟩
theorem d_X8_joinLots_71 : Di M_X8_joinLots 71 .gt 93 74 := ⟨22, by decide +kernel, by decide, rfl⟩
theorem d_X8_joinLots_74 : Dc M_X8_joinLots 74 (.lload_n 3) 1 75 := ⟨by decide +kernel, rfl⟩
theorem d_X8_joinLots_75 : Dc M_X8_joinLots 75 (.aload_n 0) 1 76 := ⟨by decide +kernel, rfl⟩
theorem d_X8_joinLots_76 : KI M_X8_joinLots 76 (nI 0) 77 := Or.inl ⟨0, ⟨by decide +kernel, rfl⟩, by decide⟩
theorem d_X8_joinLots_77 : KI M_X8_joinLots 77 (nI 1) 78 := Or.inl ⟨1, ⟨by decide +kernel, rfl⟩, by decide⟩
theorem d_X8_joinLots_78 : Dc M_X8_joinLots 78 (.iload 5) 2 80 := ⟨by decide +kernel, rfl⟩
theorem d_X8_joinLots_80 : CV M_X8_joinLots 80 M_X8_least 3 83 := ⟨320, ⟨by decide +kernel, rfl⟩, Or.inl (inT (List.mem_append_right _ (List.mem_append_right _ (List.mem_append_left _ (List.mem_of_getElem? (l := tables_1_3) (i := 230) (by decide +kernel)))))), mf_X8_least, mi_X8_least, ⟨by decide, by decide⟩⟩
theorem d_X8_joinLots_83 : CS M_X8_joinLots 83 M_X8_join 2 86 := ⟨262, ⟨by decide +kernel, rfl⟩, Or.inl (inT (List.mem_append_right _ (List.mem_append_right _ (List.mem_append_left _ (List.mem_of_getElem? (l := tables_1_3) (i := 202) (by decide +kernel)))))), mf_X8_join, ms_X8_join, ⟨by decide, by decide⟩⟩
theorem d_X8_joinLots_86 : Dc M_X8_joinLots 86 (.lstore_n 3) 1 87 := ⟨by decide +kernel, rfl⟩
theorem d_X8_joinLots_87 : Dc M_X8_joinLots 87 (.iinc 5 1) 3 90 := ⟨by decide +kernel, rfl⟩
theorem d_X8_joinLots_90 : Dg M_X8_joinLots 90 68 := ⟨(-22), by decide +kernel, by decide⟩
theorem d_X8_joinLots_93 : Dc M_X8_joinLots 93 (.lload_n 3) 1 94 := ⟨by decide +kernel, rfl⟩
theorem d_X8_joinLots_94 : Dc M_X8_joinLots 94 (.aload_n 0) 1 95 := ⟨by decide +kernel, rfl⟩
theorem d_X8_joinLots_95 : KI M_X8_joinLots 95 (nI 0) 96 := Or.inl ⟨0, ⟨by decide +kernel, rfl⟩, by decide⟩
theorem d_X8_joinLots_96 : KI M_X8_joinLots 96 (nI 1) 97 := Or.inl ⟨1, ⟨by decide +kernel, rfl⟩, by decide⟩
theorem d_X8_joinLots_97 : KI M_X8_joinLots 97 (nI 6) 99 := Or.inr (Or.inl ⟨6, ⟨by decide +kernel, rfl⟩, by decide⟩)
theorem d_X8_joinLots_99 : KI M_X8_joinLots 99 (nI 2) 100 := Or.inl ⟨2, ⟨by decide +kernel, rfl⟩, by decide⟩
theorem d_X8_joinLots_100 : CV M_X8_joinLots 100 M_X8_lamp 4 103 := ⟨323, ⟨by decide +kernel, rfl⟩, Or.inl (inT (List.mem_append_right _ (List.mem_append_right _ (List.mem_append_left _ (List.mem_of_getElem? (l := tables_1_3) (i := 231) (by decide +kernel)))))), mf_X8_lamp, mi_X8_lamp, ⟨by decide, by decide⟩⟩
theorem d_X8_joinLots_103 : Dc M_X8_joinLots 103 (.i2l) 1 104 := ⟨by decide +kernel, rfl⟩
theorem d_X8_joinLots_104 : CS M_X8_joinLots 104 M_X8_join 2 107 := ⟨262, ⟨by decide +kernel, rfl⟩, Or.inl (inT (List.mem_append_right _ (List.mem_append_right _ (List.mem_append_left _ (List.mem_of_getElem? (l := tables_1_3) (i := 202) (by decide +kernel)))))), mf_X8_join, ms_X8_join, ⟨by decide, by decide⟩⟩
theorem d_X8_joinLots_107 : Dc M_X8_joinLots 107 (.lstore_n 3) 1 108 := ⟨by decide +kernel, rfl⟩
theorem d_X8_joinLots_108 : Dc M_X8_joinLots 108 (.lload_n 3) 1 109 := ⟨by decide +kernel, rfl⟩
theorem d_X8_joinLots_109 : Dc M_X8_joinLots 109 (.aload_n 0) 1 110 := ⟨by decide +kernel, rfl⟩
theorem d_X8_joinLots_110 : KI M_X8_joinLots 110 (nI 0) 111 := Or.inl ⟨0, ⟨by decide +kernel, rfl⟩, by decide⟩
theorem d_X8_joinLots_111 : KI M_X8_joinLots 111 (nI 1) 112 := Or.inl ⟨1, ⟨by decide +kernel, rfl⟩, by decide⟩
theorem d_X8_joinLots_112 : KI M_X8_joinLots 112 (nI 20) 114 := Or.inr (Or.inl ⟨20, ⟨by decide +kernel, rfl⟩, by decide⟩)
theorem d_X8_joinLots_114 : KI M_X8_joinLots 114 (nI 0) 115 := Or.inl ⟨0, ⟨by decide +kernel, rfl⟩, by decide⟩
theorem d_X8_joinLots_115 : CV M_X8_joinLots 115 M_X8_learn 4 118 := ⟨326, ⟨by decide +kernel, rfl⟩, Or.inl (inT (List.mem_append_right _ (List.mem_append_right _ (List.mem_append_left _ (List.mem_of_getElem? (l := tables_1_3) (i := 232) (by decide +kernel)))))), mf_X8_learn, mi_X8_learn, ⟨by decide, by decide⟩⟩
theorem d_X8_joinLots_118 : Dc M_X8_joinLots 118 (.i2l) 1 119 := ⟨by decide +kernel, rfl⟩
theorem d_X8_joinLots_119 : CS M_X8_joinLots 119 M_X8_join 2 122 := ⟨262, ⟨by decide +kernel, rfl⟩, Or.inl (inT (List.mem_append_right _ (List.mem_append_right _ (List.mem_append_left _ (List.mem_of_getElem? (l := tables_1_3) (i := 202) (by decide +kernel)))))), mf_X8_join, ms_X8_join, ⟨by decide, by decide⟩⟩
theorem d_X8_joinLots_122 : Dc M_X8_joinLots 122 (.aload_n 0) 1 123 := ⟨by decide +kernel, rfl⟩
theorem d_X8_joinLots_123 : KI M_X8_joinLots 123 (nI 0) 124 := Or.inl ⟨0, ⟨by decide +kernel, rfl⟩, by decide⟩
theorem d_X8_joinLots_124 : KI M_X8_joinLots 124 (nI 1) 125 := Or.inl ⟨1, ⟨by decide +kernel, rfl⟩, by decide⟩
theorem d_X8_joinLots_125 : KI M_X8_joinLots 125 (nI 20) 127 := Or.inr (Or.inl ⟨20, ⟨by decide +kernel, rfl⟩, by decide⟩)
theorem d_X8_joinLots_127 : KI M_X8_joinLots 127 (nI 1) 128 := Or.inl ⟨1, ⟨by decide +kernel, rfl⟩, by decide⟩
theorem d_X8_joinLots_128 : CV M_X8_joinLots 128 M_X8_learn 4 131 := ⟨326, ⟨by decide +kernel, rfl⟩, Or.inl (inT (List.mem_append_right _ (List.mem_append_right _ (List.mem_append_left _ (List.mem_of_getElem? (l := tables_1_3) (i := 232) (by decide +kernel)))))), mf_X8_learn, mi_X8_learn, ⟨by decide, by decide⟩⟩
theorem d_X8_joinLots_131 : Dc M_X8_joinLots 131 (.i2l) 1 132 := ⟨by decide +kernel, rfl⟩
theorem d_X8_joinLots_132 : CS M_X8_joinLots 132 M_X8_join 2 135 := ⟨262, ⟨by decide +kernel, rfl⟩, Or.inl (inT (List.mem_append_right _ (List.mem_append_right _ (List.mem_append_left _ (List.mem_of_getElem? (l := tables_1_3) (i := 202) (by decide +kernel)))))), mf_X8_join, ms_X8_join, ⟨by decide, by decide⟩⟩
theorem d_X8_joinLots_135 : Dc M_X8_joinLots 135 (.lreturn) 1 136 := ⟨by decide +kernel, rfl⟩
theorem d_X8_join_0 : LL M_X8_join 0 (lN 31) 3 := ⟨329, ⟨by decide +kernel, rfl⟩, inT (List.mem_append_right _ (List.mem_append_right _ (List.mem_append_left _ (List.mem_of_getElem? (l := tables_1_3) (i := 205) (by decide +kernel)))))⟩
theorem d_X8_join_3 : Dc M_X8_join 3 (.lload_n 0) 1 4 := ⟨by decide +kernel, rfl⟩
theorem d_X8_join_4 : Dc M_X8_join 4 (.lmul) 1 5 := ⟨by decide +kernel, rfl⟩
theorem d_X8_join_5 : Dc M_X8_join 5 (.lload_n 2) 1 6 := ⟨by decide +kernel, rfl⟩
theorem d_X8_join_6 : Dc M_X8_join 6 (.ladd) 1 7 := ⟨by decide +kernel, rfl⟩
theorem d_X8_join_7 : Dc M_X8_join 7 (.lreturn) 1 8 := ⟨by decide +kernel, rfl⟩
theorem d_X8_refusal_0 : LL M_X8_refusal 0 (-9223372036854775808 : Int64) 3 := ⟨331, ⟨by decide +kernel, rfl⟩, inT (List.mem_append_right _ (List.mem_append_left _ (List.mem_of_getElem? (l := tables_1_2) (i := 169) (by decide +kernel))))⟩
theorem d_X8_refusal_3 : Dc M_X8_refusal 3 (.iload_n 0) 1 4 := ⟨by decide +kernel, rfl⟩
theorem d_X8_refusal_4 : Dc M_X8_refusal 4 (.i2l) 1 5 := ⟨by decide +kernel, rfl⟩
theorem d_X8_refusal_5 : Dc M_X8_refusal 5 (.lsub) 1 6 := ⟨by decide +kernel, rfl⟩
theorem d_X8_refusal_6 : Dc M_X8_refusal 6 (.lreturn) 1 7 := ⟨by decide +kernel, rfl⟩
theorem d_X8_isLot_0 : Dc M_X8_isLot 0 (.aload_n 0) 1 1 := ⟨by decide +kernel, rfl⟩
theorem d_X8_isLot_1 : GF M_X8_isLot 1 8 1 4 := ⟨24, ⟨by decide +kernel, rfl⟩, fl_X8_24⟩
theorem d_X8_isLot_4 : Dc M_X8_isLot 4 (.iload_n 1) 1 5 := ⟨by decide +kernel, rfl⟩
theorem d_X8_isLot_5 : CV M_X8_isLot 5 M_X4_isTold 1 8 := ⟨119, ⟨by decide +kernel, rfl⟩, Or.inr (inT (List.mem_append_right _ (List.mem_append_left _ (List.mem_of_getElem? (l := tables_1_2) (i := 106) (by decide +kernel))))), mf_X4_isTold, mi_X4_isTold, ⟨by decide, by decide⟩⟩
theorem d_X8_isLot_8 : Db M_X8_isLot 8 .eq 33 11 := ⟨25, by decide +kernel, by decide, rfl⟩
theorem d_X8_isLot_11 : Dc M_X8_isLot 11 (.aload_n 0) 1 12 := ⟨by decide +kernel, rfl⟩
theorem d_X8_isLot_12 : GF M_X8_isLot 12 8 1 15 := ⟨24, ⟨by decide +kernel, rfl⟩, fl_X8_24⟩
theorem d_X8_isLot_15 : Dc M_X8_isLot 15 (.iload_n 2) 1 16 := ⟨by decide +kernel, rfl⟩
theorem d_X8_isLot_16 : CV M_X8_isLot 16 M_X4_isTold 1 19 := ⟨119, ⟨by decide +kernel, rfl⟩, Or.inr (inT (List.mem_append_right _ (List.mem_append_left _ (List.mem_of_getElem? (l := tables_1_2) (i := 106) (by decide +kernel))))), mf_X4_isTold, mi_X4_isTold, ⟨by decide, by decide⟩⟩
theorem d_X8_isLot_19 : Db M_X8_isLot 19 .eq 33 22 := ⟨14, by decide +kernel, by decide, rfl⟩
theorem d_X8_isLot_22 : Dc M_X8_isLot 22 (.iload_n 3) 1 23 := ⟨by decide +kernel, rfl⟩
theorem d_X8_isLot_23 : CS M_X8_isLot 23 M_X8_isSixteenths 1 26 := ⟨198, ⟨by decide +kernel, rfl⟩, Or.inl (inT (List.mem_append_right _ (List.mem_append_right _ (List.mem_append_left _ (List.mem_of_getElem? (l := tables_1_3) (i := 16) (by decide +kernel)))))), mf_X8_isSixteenths, ms_X8_isSixteenths, ⟨by decide, by decide⟩⟩
theorem d_X8_isLot_26 : Db M_X8_isLot 26 .eq 33 29 := ⟨7, by decide +kernel, by decide, rfl⟩
theorem d_X8_isLot_29 : KI M_X8_isLot 29 (nI 1) 30 := Or.inl ⟨1, ⟨by decide +kernel, rfl⟩, by decide⟩
theorem d_X8_isLot_30 : Dg M_X8_isLot 30 34 := ⟨4, by decide +kernel, by decide⟩
theorem d_X8_isLot_33 : KI M_X8_isLot 33 (nI 0) 34 := Or.inl ⟨0, ⟨by decide +kernel, rfl⟩, by decide⟩
theorem d_X8_isLot_34 : Dc M_X8_isLot 34 (.ireturn) 1 35 := ⟨by decide +kernel, rfl⟩
theorem d_X8_isSixteenths_0 : Dc M_X8_isSixteenths 0 (.iload_n 0) 1 1 := ⟨by decide +kernel, rfl⟩
theorem d_X8_isSixteenths_1 : KI M_X8_isSixteenths 1 (nI 0) 2 := Or.inl ⟨0, ⟨by decide +kernel, rfl⟩, by decide⟩
theorem d_X8_isSixteenths_2 : KI M_X8_isSixteenths 2 (nI 16) 4 := Or.inr (Or.inl ⟨16, ⟨by decide +kernel, rfl⟩, by decide⟩)
theorem d_X8_isSixteenths_4 : CS M_X8_isSixteenths 4 M_X8_within 3 7 := ⟨64, ⟨by decide +kernel, rfl⟩, Or.inl (inT (List.mem_append_left _ (List.mem_of_getElem? (l := tables_1_1) (i := 234) (by decide +kernel)))), mf_X8_within, ms_X8_within, ⟨by decide, by decide⟩⟩
theorem d_X8_isSixteenths_7 : Dc M_X8_isSixteenths 7 (.ireturn) 1 8 := ⟨by decide +kernel, rfl⟩
theorem d_X8_isShed_0 : Dc M_X8_isShed 0 (.iload_n 0) 1 1 := ⟨by decide +kernel, rfl⟩
theorem d_X8_isShed_1 : KI M_X8_isShed 1 (nI 0) 2 := Or.inl ⟨0, ⟨by decide +kernel, rfl⟩, by decide⟩
theorem d_X8_isShed_2 : KI M_X8_isShed 2 (nI 5) 3 := Or.inl ⟨5, ⟨by decide +kernel, rfl⟩, by decide⟩
theorem d_X8_isShed_3 : CS M_X8_isShed 3 M_X8_within 3 6 := ⟨64, ⟨by decide +kernel, rfl⟩, Or.inl (inT (List.mem_append_left _ (List.mem_of_getElem? (l := tables_1_1) (i := 234) (by decide +kernel)))), mf_X8_within, ms_X8_within, ⟨by decide, by decide⟩⟩
theorem d_X8_isShed_6 : Dc M_X8_isShed 6 (.ireturn) 1 7 := ⟨by decide +kernel, rfl⟩
theorem d_X8_isWorth_0 : Dc M_X8_isWorth 0 (.iload_n 0) 1 1 := ⟨by decide +kernel, rfl⟩
theorem d_X8_isWorth_1 : KI M_X8_isWorth 1 (nI 0) 2 := Or.inl ⟨0, ⟨by decide +kernel, rfl⟩, by decide⟩
theorem d_X8_isWorth_2 : KI M_X8_isWorth 2 (nI 99) 4 := Or.inr (Or.inl ⟨99, ⟨by decide +kernel, rfl⟩, by decide⟩)
theorem d_X8_isWorth_4 : CS M_X8_isWorth 4 M_X8_within 3 7 := ⟨64, ⟨by decide +kernel, rfl⟩, Or.inl (inT (List.mem_append_left _ (List.mem_of_getElem? (l := tables_1_1) (i := 234) (by decide +kernel)))), mf_X8_within, ms_X8_within, ⟨by decide, by decide⟩⟩
theorem d_X8_isWorth_7 : Dc M_X8_isWorth 7 (.ireturn) 1 8 := ⟨by decide +kernel, rfl⟩
theorem d_X8_isSheet_0 : Dc M_X8_isSheet 0 (.iload_n 0) 1 1 := ⟨by decide +kernel, rfl⟩
theorem d_X8_isSheet_1 : KI M_X8_isSheet 1 (nI 0) 2 := Or.inl ⟨0, ⟨by decide +kernel, rfl⟩, by decide⟩
theorem d_X8_isSheet_2 : KI M_X8_isSheet 2 (nI 3) 3 := Or.inl ⟨3, ⟨by decide +kernel, rfl⟩, by decide⟩
theorem d_X8_isSheet_3 : CS M_X8_isSheet 3 M_X8_within 3 6 := ⟨64, ⟨by decide +kernel, rfl⟩, Or.inl (inT (List.mem_append_left _ (List.mem_of_getElem? (l := tables_1_1) (i := 234) (by decide +kernel)))), mf_X8_within, ms_X8_within, ⟨by decide, by decide⟩⟩
theorem d_X8_isSheet_6 : Dc M_X8_isSheet 6 (.ireturn) 1 7 := ⟨by decide +kernel, rfl⟩
theorem d_X8_isForm_0 : Dc M_X8_isForm 0 (.iload_n 0) 1 1 := ⟨by decide +kernel, rfl⟩
theorem d_X8_isForm_1 : KI M_X8_isForm 1 (nI 0) 2 := Or.inl ⟨0, ⟨by decide +kernel, rfl⟩, by decide⟩
theorem d_X8_isForm_2 : KI M_X8_isForm 2 (nI 2) 3 := Or.inl ⟨2, ⟨by decide +kernel, rfl⟩, by decide⟩
theorem d_X8_isForm_3 : CS M_X8_isForm 3 M_X8_within 3 6 := ⟨64, ⟨by decide +kernel, rfl⟩, Or.inl (inT (List.mem_append_left _ (List.mem_of_getElem? (l := tables_1_1) (i := 234) (by decide +kernel)))), mf_X8_within, ms_X8_within, ⟨by decide, by decide⟩⟩
theorem d_X8_isForm_6 : Dc M_X8_isForm 6 (.ireturn) 1 7 := ⟨by decide +kernel, rfl⟩
theorem d_X8_within_0 : Dc M_X8_within 0 (.iload_n 0) 1 1 := ⟨by decide +kernel, rfl⟩
theorem d_X8_within_1 : Dc M_X8_within 1 (.iload_n 1) 1 2 := ⟨by decide +kernel, rfl⟩
theorem d_X8_within_2 : Di M_X8_within 2 .lt 14 5 := ⟨12, by decide +kernel, by decide, rfl⟩
theorem d_X8_within_5 : Dc M_X8_within 5 (.iload_n 0) 1 6 := ⟨by decide +kernel, rfl⟩
theorem d_X8_within_6 : Dc M_X8_within 6 (.iload_n 2) 1 7 := ⟨by decide +kernel, rfl⟩
theorem d_X8_within_7 : Di M_X8_within 7 .gt 14 10 := ⟨7, by decide +kernel, by decide, rfl⟩
theorem d_X8_within_10 : KI M_X8_within 10 (nI 1) 11 := Or.inl ⟨1, ⟨by decide +kernel, rfl⟩, by decide⟩
theorem d_X8_within_11 : Dg M_X8_within 11 15 := ⟨4, by decide +kernel, by decide⟩
theorem d_X8_within_14 : KI M_X8_within 14 (nI 0) 15 := Or.inl ⟨0, ⟨by decide +kernel, rfl⟩, by decide⟩
theorem d_X8_within_15 : Dc M_X8_within 15 (.ireturn) 1 16 := ⟨by decide +kernel, rfl⟩
theorem d_X8_item_0 : Dc M_X8_item 0 (.iload_n 1) 1 1 := ⟨by decide +kernel, rfl⟩
theorem d_X8_item_1 : Db M_X8_item 1 .lt 16 4 := ⟨15, by decide +kernel, by decide, rfl⟩
theorem d_X8_item_4 : Dc M_X8_item 4 (.iload_n 1) 1 5 := ⟨by decide +kernel, rfl⟩
theorem d_X8_item_5 : Dc M_X8_item 5 (.aload_n 0) 1 6 := ⟨by decide +kernel, rfl⟩
theorem d_X8_item_6 : Dc M_X8_item 6 (.arraylength) 1 7 := ⟨by decide +kernel, rfl⟩
theorem d_X8_item_7 : Di M_X8_item 7 .ge 16 10 := ⟨9, by decide +kernel, by decide, rfl⟩
theorem d_X8_item_10 : Dc M_X8_item 10 (.aload_n 0) 1 11 := ⟨by decide +kernel, rfl⟩
theorem d_X8_item_11 : Dc M_X8_item 11 (.iload_n 1) 1 12 := ⟨by decide +kernel, rfl⟩
theorem d_X8_item_12 : Dc M_X8_item 12 (.iaload) 1 13 := ⟨by decide +kernel, rfl⟩
theorem d_X8_item_13 : Dg M_X8_item 13 17 := ⟨4, by decide +kernel, by decide⟩
theorem d_X8_item_16 : KI M_X8_item 16 (nI 0) 17 := Or.inl ⟨0, ⟨by decide +kernel, rfl⟩, by decide⟩
theorem d_X8_item_17 : Dc M_X8_item 17 (.ireturn) 1 18 := ⟨by decide +kernel, rfl⟩
theorem d_X8_keep_0 : Dc M_X8_keep 0 (.iload_n 1) 1 1 := ⟨by decide +kernel, rfl⟩
theorem d_X8_keep_1 : Db M_X8_keep 1 .lt 14 4 := ⟨13, by decide +kernel, by decide, rfl⟩
theorem d_X8_keep_4 : Dc M_X8_keep 4 (.iload_n 1) 1 5 := ⟨by decide +kernel, rfl⟩
theorem d_X8_keep_5 : Dc M_X8_keep 5 (.aload_n 0) 1 6 := ⟨by decide +kernel, rfl⟩
theorem d_X8_keep_6 : Dc M_X8_keep 6 (.arraylength) 1 7 := ⟨by decide +kernel, rfl⟩
theorem d_X8_keep_7 : Di M_X8_keep 7 .ge 14 10 := ⟨7, by decide +kernel, by decide, rfl⟩
theorem d_X8_keep_10 : Dc M_X8_keep 10 (.aload_n 0) 1 11 := ⟨by decide +kernel, rfl⟩
theorem d_X8_keep_11 : Dc M_X8_keep 11 (.iload_n 1) 1 12 := ⟨by decide +kernel, rfl⟩
theorem d_X8_keep_12 : Dc M_X8_keep 12 (.iload_n 2) 1 13 := ⟨by decide +kernel, rfl⟩
theorem d_X8_keep_13 : Dc M_X8_keep 13 (.iastore) 1 14 := ⟨by decide +kernel, rfl⟩
theorem d_X8_keep_14 : Dc M_X8_keep 14 (.return_) 1 15 := ⟨by decide +kernel, rfl⟩
theorem d_X8_fill_0 : KI M_X8_fill 0 (nI 0) 1 := Or.inl ⟨0, ⟨by decide +kernel, rfl⟩, by decide⟩
theorem d_X8_fill_1 : Dc M_X8_fill 1 (.istore_n 2) 1 2 := ⟨by decide +kernel, rfl⟩
theorem d_X8_fill_2 : Dc M_X8_fill 2 (.iload_n 2) 1 3 := ⟨by decide +kernel, rfl⟩
theorem d_X8_fill_3 : Dc M_X8_fill 3 (.aload_n 0) 1 4 := ⟨by decide +kernel, rfl⟩
theorem d_X8_fill_4 : Dc M_X8_fill 4 (.arraylength) 1 5 := ⟨by decide +kernel, rfl⟩
theorem d_X8_fill_5 : Di M_X8_fill 5 .ge 18 8 := ⟨13, by decide +kernel, by decide, rfl⟩
theorem d_X8_fill_8 : Dc M_X8_fill 8 (.aload_n 0) 1 9 := ⟨by decide +kernel, rfl⟩
theorem d_X8_fill_9 : Dc M_X8_fill 9 (.iload_n 2) 1 10 := ⟨by decide +kernel, rfl⟩
theorem d_X8_fill_10 : Dc M_X8_fill 10 (.iload_n 1) 1 11 := ⟨by decide +kernel, rfl⟩
theorem d_X8_fill_11 : Dc M_X8_fill 11 (.iastore) 1 12 := ⟨by decide +kernel, rfl⟩
theorem d_X8_fill_12 : Dc M_X8_fill 12 (.iinc 2 1) 3 15 := ⟨by decide +kernel, rfl⟩
theorem d_X8_fill_15 : Dg M_X8_fill 15 2 := ⟨(-13), by decide +kernel, by decide⟩
theorem d_X8_fill_18 : Dc M_X8_fill 18 (.return_) 1 19 := ⟨by decide +kernel, rfl⟩
