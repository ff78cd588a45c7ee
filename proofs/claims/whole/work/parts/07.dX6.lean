theorem d_X6_init_0 : Dc M_X6_init 0 (.aload_n 0) 1 1 := ⟨by decide +kernel, rfl⟩
theorem d_X6_init_1 : OI M_X6_init 1 4 := ⟨3, ⟨by decide +kernel, rfl⟩, inT (List.mem_append_left _ (List.mem_of_getElem? (l := tables_1_1) (i := 131) (by decide +kernel)))⟩
theorem d_X6_init_4 : Dc M_X6_init 4 (.aload_n 0) 1 5 := ⟨by decide +kernel, rfl⟩
theorem d_X6_init_5 : NW M_X6_init 5 2 8 := ⟨9, ⟨by decide +kernel, rfl⟩, by decide, inT (List.mem_append_left _ (List.mem_of_getElem? (l := tables_1_1) (i := 132) (by decide +kernel))), inT (List.mem_append_left _ (List.mem_of_getElem? (l := tables_1_1) (i := 101) (by decide +kernel))), inT (List.mem_append_left _ (List.mem_of_getElem? (l := tables_1_1) (i := 6) (by decide +kernel)))⟩
theorem d_X6_init_8 : Dc M_X6_init 8 (.dup) 1 9 := ⟨by decide +kernel, rfl⟩
theorem d_X6_init_9 : CI M_X6_init 9 M_X2_init 0 12 := ⟨11, ⟨by decide +kernel, rfl⟩, Or.inr (inT (List.mem_append_left _ (List.mem_of_getElem? (l := tables_1_1) (i := 133) (by decide +kernel)))), mf_X2_init, mi_X2_init, by rfl, rfl, ⟨by decide, by decide⟩⟩
theorem d_X6_init_12 : PF M_X6_init 12 6 2 15 := ⟨12, ⟨by decide +kernel, rfl⟩, ⟨by decide, by decide⟩, inT (List.mem_append_left _ (List.mem_of_getElem? (l := tables_1_1) (i := 136) (by decide +kernel)))⟩
theorem d_X6_init_15 : Dc M_X6_init 15 (.aload_n 0) 1 16 := ⟨by decide +kernel, rfl⟩
theorem d_X6_init_16 : KI M_X6_init 16 (nI 0) 17 := Or.inl ⟨0, ⟨by decide +kernel, rfl⟩, by decide⟩
theorem d_X6_init_17 : PF M_X6_init 17 6 3 20 := ⟨18, ⟨by decide +kernel, rfl⟩, ⟨by decide, by decide⟩, inT (List.mem_append_left _ (List.mem_of_getElem? (l := tables_1_1) (i := 137) (by decide +kernel)))⟩
theorem d_X6_init_20 : Dc M_X6_init 20 (.aload_n 0) 1 21 := ⟨by decide +kernel, rfl⟩
theorem d_X6_init_21 : KI M_X6_init 21 (nI 0) 22 := Or.inl ⟨0, ⟨by decide +kernel, rfl⟩, by decide⟩
theorem d_X6_init_22 : PF M_X6_init 22 6 4 25 := ⟨22, ⟨by decide +kernel, rfl⟩, ⟨by decide, by decide⟩, inT (List.mem_append_left _ (List.mem_of_getElem? (l := tables_1_1) (i := 138) (by decide +kernel)))⟩
theorem d_X6_init_25 : Dc M_X6_init 25 (.aload_n 0) 1 26 := ⟨by decide +kernel, rfl⟩
theorem d_X6_init_26 : KI M_X6_init 26 (nI 0) 27 := Or.inl ⟨0, ⟨by decide +kernel, rfl⟩, by decide⟩
theorem d_X6_init_27 : PF M_X6_init 27 6 5 30 := ⟨25, ⟨by decide +kernel, rfl⟩, ⟨by decide, by decide⟩, inT (List.mem_append_left _ (List.mem_of_getElem? (l := tables_1_1) (i := 139) (by decide +kernel)))⟩
theorem d_X6_init_30 : Dc M_X6_init 30 (.aload_n 0) 1 31 := ⟨by decide +kernel, rfl⟩
theorem d_X6_init_31 : KI M_X6_init 31 (nI 0) 32 := Or.inl ⟨0, ⟨by decide +kernel, rfl⟩, by decide⟩
theorem d_X6_init_32 : PF M_X6_init 32 6 6 35 := ⟨28, ⟨by decide +kernel, rfl⟩, ⟨by decide, by decide⟩, inT (List.mem_append_left _ (List.mem_of_getElem? (l := tables_1_1) (i := 140) (by decide +kernel)))⟩
theorem d_X6_init_35 : Dc M_X6_init 35 (.aload_n 0) 1 36 := ⟨by decide +kernel, rfl⟩
theorem d_X6_init_36 : KI M_X6_init 36 (nI 0) 37 := Or.inl ⟨0, ⟨by decide +kernel, rfl⟩, by decide⟩
theorem d_X6_init_37 : PF M_X6_init 37 6 7 40 := ⟨31, ⟨by decide +kernel, rfl⟩, ⟨by decide, by decide⟩, inT (List.mem_append_left _ (List.mem_of_getElem? (l := tables_1_1) (i := 141) (by decide +kernel)))⟩
theorem d_X6_init_40 : Dc M_X6_init 40 (.aload_n 0) 1 41 := ⟨by decide +kernel, rfl⟩
theorem d_X6_init_41 : KI M_X6_init 41 (nI 0) 42 := Or.inl ⟨0, ⟨by decide +kernel, rfl⟩, by decide⟩
theorem d_X6_init_42 : PF M_X6_init 42 6 8 45 := ⟨34, ⟨by decide +kernel, rfl⟩, ⟨by decide, by decide⟩, inT (List.mem_append_left _ (List.mem_of_getElem? (l := tables_1_1) (i := 142) (by decide +kernel)))⟩
theorem d_X6_init_45 : Dc M_X6_init 45 (.aload_n 0) 1 46 := ⟨by decide +kernel, rfl⟩
theorem d_X6_init_46 : KI M_X6_init 46 (nI 0) 47 := Or.inl ⟨0, ⟨by decide +kernel, rfl⟩, by decide⟩
theorem d_X6_init_47 : PF M_X6_init 47 6 9 50 := ⟨37, ⟨by decide +kernel, rfl⟩, ⟨by decide, by decide⟩, inT (List.mem_append_left _ (List.mem_of_getElem? (l := tables_1_1) (i := 143) (by decide +kernel)))⟩
theorem d_X6_init_50 : Dc M_X6_init 50 (.aload_n 0) 1 51 := ⟨by decide +kernel, rfl⟩
theorem d_X6_init_51 : KI M_X6_init 51 (nI 0) 52 := Or.inl ⟨0, ⟨by decide +kernel, rfl⟩, by decide⟩
theorem d_X6_init_52 : PF M_X6_init 52 6 10 55 := ⟨40, ⟨by decide +kernel, rfl⟩, ⟨by decide, by decide⟩, inT (List.mem_append_left _ (List.mem_of_getElem? (l := tables_1_1) (i := 145) (by decide +kernel)))⟩
theorem d_X6_init_55 : Dc M_X6_init 55 (.aload_n 0) 1 56 := ⟨by decide +kernel, rfl⟩
theorem d_X6_init_56 : Dc M_X6_init 56 (.aload_n 1) 1 57 := ⟨by decide +kernel, rfl⟩
theorem d_X6_init_57 : PF M_X6_init 57 6 0 60 := ⟨43, ⟨by decide +kernel, rfl⟩, ⟨by decide, by decide⟩, inT (List.mem_append_left _ (List.mem_of_getElem? (l := tables_1_1) (i := 134) (by decide +kernel)))⟩
theorem d_X6_init_60 : Dc M_X6_init 60 (.aload_n 0) 1 61 := ⟨by decide +kernel, rfl⟩
theorem d_X6_init_61 : Dc M_X6_init 61 (.aload_n 2) 1 62 := ⟨by decide +kernel, rfl⟩
theorem d_X6_init_62 : PF M_X6_init 62 6 1 65 := ⟨47, ⟨by decide +kernel, rfl⟩, ⟨by decide, by decide⟩, inT (List.mem_append_left _ (List.mem_of_getElem? (l := tables_1_1) (i := 135) (by decide +kernel)))⟩
theorem d_X6_init_65 : Dc M_X6_init 65 (.return_) 1 66 := ⟨by decide +kernel, rfl⟩
theorem d_X6_haul_0 : Dc M_X6_haul 0 (.iload_n 3) 1 1 := ⟨by decide +kernel, rfl⟩
theorem d_X6_haul_1 : KI M_X6_haul 1 (-1 : Int32) 2 := Or.inl ⟨(-1), ⟨by decide +kernel, rfl⟩, by decide⟩
theorem d_X6_haul_2 : Di M_X6_haul 2 .eq 31 5 := ⟨29, by decide +kernel, by decide, rfl⟩
theorem d_X6_haul_5 : Dc M_X6_haul 5 (.iload_n 2) 1 6 := ⟨by decide +kernel, rfl⟩
theorem d_X6_haul_6 : Dc M_X6_haul 6 (.aload_n 0) 1 7 := ⟨by decide +kernel, rfl⟩
theorem d_X6_haul_7 : GF M_X6_haul 7 6 0 10 := ⟨43, ⟨by decide +kernel, rfl⟩, fl_X6_43⟩
theorem d_X6_haul_10 : GF M_X6_haul 10 3 3 13 := ⟨51, ⟨by decide +kernel, rfl⟩, fl_X6_51⟩
theorem d_X6_haul_13 : Dc M_X6_haul 13 (.iadd) 1 14 := ⟨by decide +kernel, rfl⟩
theorem d_X6_haul_14 : Dc M_X6_haul 14 (.iload_n 3) 1 15 := ⟨by decide +kernel, rfl⟩
theorem d_X6_haul_15 : Di M_X6_haul 15 .le 31 18 := ⟨16, by decide +kernel, by decide, rfl⟩
theorem d_X6_haul_18 : Dc M_X6_haul 18 (.iload_n 2) 1 19 := ⟨by decide +kernel, rfl⟩
theorem d_X6_haul_19 : Dc M_X6_haul 19 (.iload_n 3) 1 20 := ⟨by decide +kernel, rfl⟩
theorem d_X6_haul_20 : Dc M_X6_haul 20 (.aload_n 0) 1 21 := ⟨by decide +kernel, rfl⟩
theorem d_X6_haul_21 : GF M_X6_haul 21 6 0 24 := ⟨43, ⟨by decide +kernel, rfl⟩, fl_X6_43⟩
theorem d_X6_haul_24 : GF M_X6_haul 24 3 2 27 := ⟨56, ⟨by decide +kernel, rfl⟩, fl_X6_56⟩
theorem d_X6_haul_27 : Dc M_X6_haul 27 (.iadd) 1 28 := ⟨by decide +kernel, rfl⟩
theorem d_X6_haul_28 : Di M_X6_haul 28 .lt 35 31 := ⟨7, by decide +kernel, by decide, rfl⟩
theorem d_X6_haul_31 : KI M_X6_haul 31 (nI 1) 32 := Or.inl ⟨1, ⟨by decide +kernel, rfl⟩, by decide⟩
theorem d_X6_haul_32 : Dg M_X6_haul 32 36 := ⟨4, by decide +kernel, by decide⟩
theorem d_X6_haul_35 : KI M_X6_haul 35 (nI 0) 36 := Or.inl ⟨0, ⟨by decide +kernel, rfl⟩, by decide⟩
theorem d_X6_haul_36 : Dc M_X6_haul 36 (.istore 4) 2 38 := ⟨by decide +kernel, rfl⟩
theorem d_X6_haul_38 : Dc M_X6_haul 38 (.iload 4) 2 40 := ⟨by decide +kernel, rfl⟩
theorem d_X6_haul_40 : Db M_X6_haul 40 .eq 54 43 := ⟨14, by decide +kernel, by decide, rfl⟩
theorem d_X6_haul_43 : Dc M_X6_haul 43 (.aload_n 0) 1 44 := ⟨by decide +kernel, rfl⟩
theorem d_X6_haul_44 : GF M_X6_haul 44 6 0 47 := ⟨43, ⟨by decide +kernel, rfl⟩, fl_X6_43⟩
theorem d_X6_haul_47 : Dc M_X6_haul 47 (.iload_n 1) 1 48 := ⟨by decide +kernel, rfl⟩
theorem d_X6_haul_48 : CV M_X6_haul 48 M_X3_worthOf 1 51 := ⟨59, ⟨by decide +kernel, rfl⟩, Or.inr (inT (List.mem_append_right _ (List.mem_append_left _ (List.mem_of_getElem? (l := tables_1_2) (i := 161) (by decide +kernel))))), mf_X3_worthOf, mi_X3_worthOf, ⟨by decide, by decide⟩⟩
theorem d_X6_haul_51 : Dg M_X6_haul 51 55 := ⟨4, by decide +kernel, by decide⟩
theorem d_X6_haul_54 : KI M_X6_haul 54 (nI 0) 55 := Or.inl ⟨0, ⟨by decide +kernel, rfl⟩, by decide⟩
theorem d_X6_haul_55 : Dc M_X6_haul 55 (.ireturn) 1 56 := ⟨by decide +kernel, rfl⟩
theorem d_X6_seek_0 : Dc M_X6_seek 0 (.aload_n 0) 1 1 := ⟨by decide +kernel, rfl⟩
theorem d_X6_seek_1 : KI M_X6_seek 1 (-1 : Int32) 2 := Or.inl ⟨(-1), ⟨by decide +kernel, rfl⟩, by decide⟩
theorem d_X6_seek_2 : PF M_X6_seek 2 6 5 5 := ⟨25, ⟨by decide +kernel, rfl⟩, ⟨by decide, by decide⟩, inT (List.mem_append_left _ (List.mem_of_getElem? (l := tables_1_1) (i := 139) (by decide +kernel)))⟩
theorem d_X6_seek_5 : KI M_X6_seek 5 (nI 0) 6 := Or.inl ⟨0, ⟨by decide +kernel, rfl⟩, by decide⟩
theorem d_X6_seek_6 : Dc M_X6_seek 6 (.istore 7) 2 8 := ⟨by decide +kernel, rfl⟩
theorem d_X6_seek_8 : Dc M_X6_seek 8 (.iload 7) 2 10 := ⟨by decide +kernel, rfl⟩
theorem d_X6_seek_10 : KI M_X6_seek 10 (nI 6) 12 := Or.inr (Or.inl ⟨6, ⟨by decide +kernel, rfl⟩, by decide⟩)
theorem d_X6_seek_12 : Di M_X6_seek 12 .ge 111 15 := ⟨99, by decide +kernel, by decide, rfl⟩
theorem d_X6_seek_15 : Dc M_X6_seek 15 (.aload_n 0) 1 16 := ⟨by decide +kernel, rfl⟩
theorem d_X6_seek_16 : GF M_X6_seek 16 6 1 19 := ⟨47, ⟨by decide +kernel, rfl⟩, fl_X6_47⟩
theorem d_X6_seek_19 : Dc M_X6_seek 19 (.iload_n 1) 1 20 := ⟨by decide +kernel, rfl⟩
theorem d_X6_seek_20 : Dc M_X6_seek 20 (.iload 7) 2 22 := ⟨by decide +kernel, rfl⟩
theorem d_X6_seek_22 : CV M_X6_seek 22 M_X7_comesTo 2 25 := ⟨63, ⟨by decide +kernel, rfl⟩, Or.inr (inT (List.mem_append_right _ (List.mem_append_right _ (List.mem_append_left _ (List.mem_of_getElem? (l := tables_1_3) (i := 23) (by decide +kernel)))))), mf_X7_comesTo, mi_X7_comesTo, ⟨by decide, by decide⟩⟩
theorem d_X6_seek_25 : Dc M_X6_seek 25 (.istore 8) 2 27 := ⟨by decide +kernel, rfl⟩
theorem d_X6_seek_27 : Dc M_X6_seek 27 (.aload_n 0) 1 28 := ⟨by decide +kernel, rfl⟩
theorem d_X6_seek_28 : GF M_X6_seek 28 6 1 31 := ⟨47, ⟨by decide +kernel, rfl⟩, fl_X6_47⟩
theorem d_X6_seek_31 : Dc M_X6_seek 31 (.iload_n 3) 1 32 := ⟨by decide +kernel, rfl⟩
theorem d_X6_seek_32 : Dc M_X6_seek 32 (.iload 7) 2 34 := ⟨by decide +kernel, rfl⟩
theorem d_X6_seek_34 : CV M_X6_seek 34 M_X7_comesTo 2 37 := ⟨63, ⟨by decide +kernel, rfl⟩, Or.inr (inT (List.mem_append_right _ (List.mem_append_right _ (List.mem_append_left _ (List.mem_of_getElem? (l := tables_1_3) (i := 23) (by decide +kernel)))))), mf_X7_comesTo, mi_X7_comesTo, ⟨by decide, by decide⟩⟩
theorem d_X6_seek_37 : Dc M_X6_seek 37 (.istore 9) 2 39 := ⟨by decide +kernel, rfl⟩
theorem d_X6_seek_39 : Dc M_X6_seek 39 (.iload 5) 2 41 := ⟨by decide +kernel, rfl⟩
theorem d_X6_seek_41 : Dc M_X6_seek 41 (.istore 10) 2 43 := ⟨by decide +kernel, rfl⟩
theorem d_X6_seek_43 : Dc M_X6_seek 43 (.iload 7) 2 45 := ⟨by decide +kernel, rfl⟩
theorem d_X6_seek_45 : Dc M_X6_seek 45 (.iload 6) 2 47 := ⟨by decide +kernel, rfl⟩
theorem d_X6_seek_47 : Di M_X6_seek 47 .eq 105 50 := ⟨58, by decide +kernel, by decide, rfl⟩
theorem d_X6_seek_50 : Dc M_X6_seek 50 (.iload 10) 2 52 := ⟨by decide +kernel, rfl⟩
theorem d_X6_seek_52 : KI M_X6_seek 52 (nI 60) 54 := Or.inr (Or.inl ⟨60, ⟨by decide +kernel, rfl⟩, by decide⟩)
theorem d_X6_seek_54 : Dc M_X6_seek 54 (.aload_n 0) 1 55 := ⟨by decide +kernel, rfl⟩
theorem d_X6_seek_55 : GF M_X6_seek 55 6 0 58 := ⟨43, ⟨by decide +kernel, rfl⟩, fl_X6_43⟩
theorem d_X6_seek_58 : GF M_X6_seek 58 3 3 61 := ⟨51, ⟨by decide +kernel, rfl⟩, fl_X6_51⟩
theorem d_X6_seek_61 : Dc M_X6_seek 61 (.isub) 1 62 := ⟨by decide +kernel, rfl⟩
theorem d_X6_seek_62 : Di M_X6_seek 62 .gt 105 65 := ⟨43, by decide +kernel, by decide, rfl⟩
theorem d_X6_seek_65 : Dc M_X6_seek 65 (.aload_n 0) 1 66 := ⟨by decide +kernel, rfl⟩
theorem d_X6_seek_66 : Dc M_X6_seek 66 (.iload 7) 2 68 := ⟨by decide +kernel, rfl⟩
theorem d_X6_seek_68 : Dc M_X6_seek 68 (.iload 10) 2 70 := ⟨by decide +kernel, rfl⟩
theorem d_X6_seek_70 : Dc M_X6_seek 70 (.iload_n 2) 1 71 := ⟨by decide +kernel, rfl⟩
theorem d_X6_seek_71 : Dc M_X6_seek 71 (.aload_n 0) 1 72 := ⟨by decide +kernel, rfl⟩
theorem d_X6_seek_72 : Dc M_X6_seek 72 (.iload 7) 2 74 := ⟨by decide +kernel, rfl⟩
theorem d_X6_seek_74 : Dc M_X6_seek 74 (.iload 10) 2 76 := ⟨by decide +kernel, rfl⟩
theorem d_X6_seek_76 : Dc M_X6_seek 76 (.iload 8) 2 78 := ⟨by decide +kernel, rfl⟩
theorem d_X6_seek_78 : CV M_X6_seek 78 M_X6_haul 3 81 := ⟨69, ⟨by decide +kernel, rfl⟩, Or.inl (inT (List.mem_append_right _ (List.mem_append_right _ (List.mem_append_left _ (List.mem_of_getElem? (l := tables_1_3) (i := 24) (by decide +kernel)))))), mf_X6_haul, mi_X6_haul, ⟨by decide, by decide⟩⟩
theorem d_X6_seek_81 : Dc M_X6_seek 81 (.imul) 1 82 := ⟨by decide +kernel, rfl⟩
theorem d_X6_seek_82 : Dc M_X6_seek 82 (.iload 4) 2 84 := ⟨by decide +kernel, rfl⟩
theorem d_X6_seek_84 : Dc M_X6_seek 84 (.aload_n 0) 1 85 := ⟨by decide +kernel, rfl⟩
theorem d_X6_seek_85 : Dc M_X6_seek 85 (.iload 7) 2 87 := ⟨by decide +kernel, rfl⟩
theorem d_X6_seek_87 : Dc M_X6_seek 87 (.iload 10) 2 89 := ⟨by decide +kernel, rfl⟩
theorem d_X6_seek_89 : Dc M_X6_seek 89 (.iload 9) 2 91 := ⟨by decide +kernel, rfl⟩
theorem d_X6_seek_91 : CV M_X6_seek 91 M_X6_haul 3 94 := ⟨69, ⟨by decide +kernel, rfl⟩, Or.inl (inT (List.mem_append_right _ (List.mem_append_right _ (List.mem_append_left _ (List.mem_of_getElem? (l := tables_1_3) (i := 24) (by decide +kernel)))))), mf_X6_haul, mi_X6_haul, ⟨by decide, by decide⟩⟩
theorem d_X6_seek_94 : Dc M_X6_seek 94 (.imul) 1 95 := ⟨by decide +kernel, rfl⟩
theorem d_X6_seek_95 : Dc M_X6_seek 95 (.iadd) 1 96 := ⟨by decide +kernel, rfl⟩
theorem d_X6_seek_96 : CV M_X6_seek 96 M_X6_take 3 99 := ⟨73, ⟨by decide +kernel, rfl⟩, Or.inl (inT (List.mem_append_right _ (List.mem_append_right _ (List.mem_append_left _ (List.mem_of_getElem? (l := tables_1_3) (i := 25) (by decide +kernel)))))), mf_X6_take, mi_X6_take, ⟨by decide, by decide⟩⟩
theorem d_X6_seek_99 : Dc M_X6_seek 99 (.iinc 10 1) 3 102 := ⟨by decide +kernel, rfl⟩
theorem d_X6_seek_102 : Dg M_X6_seek 102 43 := ⟨(-59), by decide +kernel, by decide⟩
theorem d_X6_seek_105 : Dc M_X6_seek 105 (.iinc 7 1) 3 108 := ⟨by decide +kernel, rfl⟩
theorem d_X6_seek_108 : Dg M_X6_seek 108 8 := ⟨(-100), by decide +kernel, by decide⟩
theorem d_X6_seek_111 : Dc M_X6_seek 111 (.return_) 1 112 := ⟨by decide +kernel, rfl⟩
theorem d_X6_take_0 : Dc M_X6_take 0 (.iload_n 3) 1 1 := ⟨by decide +kernel, rfl⟩
theorem d_X6_take_1 : Dc M_X6_take 1 (.aload_n 0) 1 2 := ⟨by decide +kernel, rfl⟩
theorem d_X6_take_2 : GF M_X6_take 2 6 5 5 := ⟨25, ⟨by decide +kernel, rfl⟩, fl_X6_25⟩
theorem d_X6_take_5 : Di M_X6_take 5 .le 23 8 := ⟨18, by decide +kernel, by decide, rfl⟩
theorem d_X6_take_8 : Dc M_X6_take 8 (.aload_n 0) 1 9 := ⟨by decide +kernel, rfl⟩
theorem d_X6_take_9 : Dc M_X6_take 9 (.iload_n 1) 1 10 := ⟨by decide +kernel, rfl⟩
theorem d_X6_take_10 : PF M_X6_take 10 6 3 13 := ⟨18, ⟨by decide +kernel, rfl⟩, ⟨by decide, by decide⟩, inT (List.mem_append_left _ (List.mem_of_getElem? (l := tables_1_1) (i := 137) (by decide +kernel)))⟩
theorem d_X6_take_13 : Dc M_X6_take 13 (.aload_n 0) 1 14 := ⟨by decide +kernel, rfl⟩
theorem d_X6_take_14 : Dc M_X6_take 14 (.iload_n 2) 1 15 := ⟨by decide +kernel, rfl⟩
theorem d_X6_take_15 : PF M_X6_take 15 6 4 18 := ⟨22, ⟨by decide +kernel, rfl⟩, ⟨by decide, by decide⟩, inT (List.mem_append_left _ (List.mem_of_getElem? (l := tables_1_1) (i := 138) (by decide +kernel)))⟩
theorem d_X6_take_18 : Dc M_X6_take 18 (.aload_n 0) 1 19 := ⟨by decide +kernel, rfl⟩
theorem d_X6_take_19 : Dc M_X6_take 19 (.iload_n 3) 1 20 := ⟨by decide +kernel, rfl⟩
theorem d_X6_take_20 : PF M_X6_take 20 6 5 23 := ⟨25, ⟨by decide +kernel, rfl⟩, ⟨by decide, by decide⟩, inT (List.mem_append_left _ (List.mem_of_getElem? (l := tables_1_1) (i := 139) (by decide +kernel)))⟩
theorem d_X6_take_23 : Dc M_X6_take 23 (.return_) 1 24 := ⟨by decide +kernel, rfl⟩
theorem d_X6_part_0 : Dc M_X6_part 0 (.iload_n 1) 1 1 := ⟨by decide +kernel, rfl⟩
theorem d_X6_part_1 : Db M_X6_part 1 .ne 11 4 := ⟨10, by decide +kernel, by decide, rfl⟩
theorem d_X6_part_4 : Dc M_X6_part 4 (.aload_n 0) 1 5 := ⟨by decide +kernel, rfl⟩
theorem d_X6_part_5 : GF M_X6_part 5 6 3 8 := ⟨18, ⟨by decide +kernel, rfl⟩, fl_X6_18⟩
theorem d_X6_part_8 : Dg M_X6_part 8 27 := ⟨19, by decide +kernel, by decide⟩
theorem d_X6_part_11 : Dc M_X6_part 11 (.iload_n 1) 1 12 := ⟨by decide +kernel, rfl⟩
theorem d_X6_part_12 : KI M_X6_part 12 (nI 1) 13 := Or.inl ⟨1, ⟨by decide +kernel, rfl⟩, by decide⟩
theorem d_X6_part_13 : Di M_X6_part 13 .ne 23 16 := ⟨10, by decide +kernel, by decide, rfl⟩
theorem d_X6_part_16 : Dc M_X6_part 16 (.aload_n 0) 1 17 := ⟨by decide +kernel, rfl⟩
theorem d_X6_part_17 : GF M_X6_part 17 6 4 20 := ⟨22, ⟨by decide +kernel, rfl⟩, fl_X6_22⟩
theorem d_X6_part_20 : Dg M_X6_part 20 27 := ⟨7, by decide +kernel, by decide⟩
theorem d_X6_part_23 : Dc M_X6_part 23 (.aload_n 0) 1 24 := ⟨by decide +kernel, rfl⟩
theorem d_X6_part_24 : GF M_X6_part 24 6 5 27 := ⟨25, ⟨by decide +kernel, rfl⟩, fl_X6_25⟩
theorem d_X6_part_27 : Dc M_X6_part 27 (.ireturn) 1 28 := ⟨by decide +kernel, rfl⟩
theorem d_X6_weigh_0 : Dc M_X6_weigh 0 (.aload_n 0) 1 1 := ⟨by decide +kernel, rfl⟩
theorem d_X6_weigh_1 : KI M_X6_weigh 1 (nI 0) 2 := Or.inl ⟨0, ⟨by decide +kernel, rfl⟩, by decide⟩
theorem d_X6_weigh_2 : PF M_X6_weigh 2 6 6 5 := ⟨28, ⟨by decide +kernel, rfl⟩, ⟨by decide, by decide⟩, inT (List.mem_append_left _ (List.mem_of_getElem? (l := tables_1_1) (i := 140) (by decide +kernel)))⟩
theorem d_X6_weigh_5 : Dc M_X6_weigh 5 (.aload_n 0) 1 6 := ⟨by decide +kernel, rfl⟩
theorem d_X6_weigh_6 : KI M_X6_weigh 6 (nI 0) 7 := Or.inl ⟨0, ⟨by decide +kernel, rfl⟩, by decide⟩
theorem d_X6_weigh_7 : PF M_X6_weigh 7 6 7 10 := ⟨31, ⟨by decide +kernel, rfl⟩, ⟨by decide, by decide⟩, inT (List.mem_append_left _ (List.mem_of_getElem? (l := tables_1_1) (i := 141) (by decide +kernel)))⟩
theorem d_X6_weigh_10 : Dc M_X6_weigh 10 (.aload_n 0) 1 11 := ⟨by decide +kernel, rfl⟩
theorem d_X6_weigh_11 : KI M_X6_weigh 11 (nI 0) 12 := Or.inl ⟨0, ⟨by decide +kernel, rfl⟩, by decide⟩
theorem d_X6_weigh_12 : PF M_X6_weigh 12 6 8 15 := ⟨34, ⟨by decide +kernel, rfl⟩, ⟨by decide, by decide⟩, inT (List.mem_append_left _ (List.mem_of_getElem? (l := tables_1_1) (i := 142) (by decide +kernel)))⟩
theorem d_X6_weigh_15 : KI M_X6_weigh 15 (nI 0) 16 := Or.inl ⟨0, ⟨by decide +kernel, rfl⟩, by decide⟩
theorem d_X6_weigh_16 : Dc M_X6_weigh 16 (.istore_n 3) 1 17 := ⟨by decide +kernel, rfl⟩
theorem d_X6_weigh_17 : Dc M_X6_weigh 17 (.iload_n 3) 1 18 := ⟨by decide +kernel, rfl⟩
theorem d_X6_weigh_18 : KI M_X6_weigh 18 (nI 6) 20 := Or.inr (Or.inl ⟨6, ⟨by decide +kernel, rfl⟩, by decide⟩)
theorem d_X6_weigh_20 : Di M_X6_weigh 20 .ge 97 23 := ⟨77, by decide +kernel, by decide, rfl⟩
theorem d_X6_weigh_23 : Dc M_X6_weigh 23 (.aload_n 0) 1 24 := ⟨by decide +kernel, rfl⟩
theorem d_X6_weigh_24 : GF M_X6_weigh 24 6 1 27 := ⟨47, ⟨by decide +kernel, rfl⟩, fl_X6_47⟩
theorem d_X6_weigh_27 : Dc M_X6_weigh 27 (.iload_n 1) 1 28 := ⟨by decide +kernel, rfl⟩
theorem d_X6_weigh_28 : Dc M_X6_weigh 28 (.iload_n 3) 1 29 := ⟨by decide +kernel, rfl⟩
theorem d_X6_weigh_29 : CV M_X6_weigh 29 M_X7_comesTo 2 32 := ⟨63, ⟨by decide +kernel, rfl⟩, Or.inr (inT (List.mem_append_right _ (List.mem_append_right _ (List.mem_append_left _ (List.mem_of_getElem? (l := tables_1_3) (i := 23) (by decide +kernel)))))), mf_X7_comesTo, mi_X7_comesTo, ⟨by decide, by decide⟩⟩
theorem d_X6_weigh_32 : Dc M_X6_weigh 32 (.istore 4) 2 34 := ⟨by decide +kernel, rfl⟩
theorem d_X6_weigh_34 : Dc M_X6_weigh 34 (.aload_n 0) 1 35 := ⟨by decide +kernel, rfl⟩
theorem d_X6_weigh_35 : GF M_X6_weigh 35 6 1 38 := ⟨47, ⟨by decide +kernel, rfl⟩, fl_X6_47⟩
theorem d_X6_weigh_38 : Dc M_X6_weigh 38 (.iload_n 2) 1 39 := ⟨by decide +kernel, rfl⟩
theorem d_X6_weigh_39 : Dc M_X6_weigh 39 (.iload_n 3) 1 40 := ⟨by decide +kernel, rfl⟩
theorem d_X6_weigh_40 : CV M_X6_weigh 40 M_X7_comesTo 2 43 := ⟨63, ⟨by decide +kernel, rfl⟩, Or.inr (inT (List.mem_append_right _ (List.mem_append_right _ (List.mem_append_left _ (List.mem_of_getElem? (l := tables_1_3) (i := 23) (by decide +kernel)))))), mf_X7_comesTo, mi_X7_comesTo, ⟨by decide, by decide⟩⟩
theorem d_X6_weigh_43 : Dc M_X6_weigh 43 (.istore 5) 2 45 := ⟨by decide +kernel, rfl⟩
theorem d_X6_weigh_45 : KI M_X6_weigh 45 (nI 0) 46 := Or.inl ⟨0, ⟨by decide +kernel, rfl⟩, by decide⟩
theorem d_X6_weigh_46 : Dc M_X6_weigh 46 (.istore 6) 2 48 := ⟨by decide +kernel, rfl⟩
theorem d_X6_weigh_48 : Dc M_X6_weigh 48 (.iload 6) 2 50 := ⟨by decide +kernel, rfl⟩
theorem d_X6_weigh_50 : KI M_X6_weigh 50 (nI 60) 52 := Or.inr (Or.inl ⟨60, ⟨by decide +kernel, rfl⟩, by decide⟩)
theorem d_X6_weigh_52 : Dc M_X6_weigh 52 (.aload_n 0) 1 53 := ⟨by decide +kernel, rfl⟩
theorem d_X6_weigh_53 : GF M_X6_weigh 53 6 0 56 := ⟨43, ⟨by decide +kernel, rfl⟩, fl_X6_43⟩
theorem d_X6_weigh_56 : GF M_X6_weigh 56 3 3 59 := ⟨51, ⟨by decide +kernel, rfl⟩, fl_X6_51⟩
theorem d_X6_weigh_59 : Dc M_X6_weigh 59 (.isub) 1 60 := ⟨by decide +kernel, rfl⟩
theorem d_X6_weigh_60 : Di M_X6_weigh 60 .gt 91 63 := ⟨31, by decide +kernel, by decide, rfl⟩
theorem d_X6_weigh_63 : Dc M_X6_weigh 63 (.aload_n 0) 1 64 := ⟨by decide +kernel, rfl⟩
theorem d_X6_weigh_64 : Dc M_X6_weigh 64 (.aload_n 0) 1 65 := ⟨by decide +kernel, rfl⟩
theorem d_X6_weigh_65 : Dc M_X6_weigh 65 (.iload_n 3) 1 66 := ⟨by decide +kernel, rfl⟩
theorem d_X6_weigh_66 : Dc M_X6_weigh 66 (.iload 6) 2 68 := ⟨by decide +kernel, rfl⟩
theorem d_X6_weigh_68 : Dc M_X6_weigh 68 (.iload 4) 2 70 := ⟨by decide +kernel, rfl⟩
theorem d_X6_weigh_70 : CV M_X6_weigh 70 M_X6_haul 3 73 := ⟨69, ⟨by decide +kernel, rfl⟩, Or.inl (inT (List.mem_append_right _ (List.mem_append_right _ (List.mem_append_left _ (List.mem_of_getElem? (l := tables_1_3) (i := 24) (by decide +kernel)))))), mf_X6_haul, mi_X6_haul, ⟨by decide, by decide⟩⟩
theorem d_X6_weigh_73 : Dc M_X6_weigh 73 (.aload_n 0) 1 74 := ⟨by decide +kernel, rfl⟩
theorem d_X6_weigh_74 : Dc M_X6_weigh 74 (.iload_n 3) 1 75 := ⟨by decide +kernel, rfl⟩
theorem d_X6_weigh_75 : Dc M_X6_weigh 75 (.iload 6) 2 77 := ⟨by decide +kernel, rfl⟩
theorem d_X6_weigh_77 : Dc M_X6_weigh 77 (.iload 5) 2 79 := ⟨by decide +kernel, rfl⟩
theorem d_X6_weigh_79 : CV M_X6_weigh 79 M_X6_haul 3 82 := ⟨69, ⟨by decide +kernel, rfl⟩, Or.inl (inT (List.mem_append_right _ (List.mem_append_right _ (List.mem_append_left _ (List.mem_of_getElem? (l := tables_1_3) (i := 24) (by decide +kernel)))))), mf_X6_haul, mi_X6_haul, ⟨by decide, by decide⟩⟩
theorem d_X6_weigh_82 : CV M_X6_weigh 82 M_X6_sort 2 85 := ⟨77, ⟨by decide +kernel, rfl⟩, Or.inl (inT (List.mem_append_right _ (List.mem_append_right _ (List.mem_append_left _ (List.mem_of_getElem? (l := tables_1_3) (i := 49) (by decide +kernel)))))), mf_X6_sort, mi_X6_sort, ⟨by decide, by decide⟩⟩
theorem d_X6_weigh_85 : Dc M_X6_weigh 85 (.iinc 6 1) 3 88 := ⟨by decide +kernel, rfl⟩
theorem d_X6_weigh_88 : Dg M_X6_weigh 88 48 := ⟨(-40), by decide +kernel, by decide⟩
theorem d_X6_weigh_91 : Dc M_X6_weigh 91 (.iinc 3 1) 3 94 := ⟨by decide +kernel, rfl⟩
theorem d_X6_weigh_94 : Dg M_X6_weigh 94 17 := ⟨(-77), by decide +kernel, by decide⟩
theorem d_X6_weigh_97 : Dc M_X6_weigh 97 (.return_) 1 98 := ⟨by decide +kernel, rfl⟩
theorem d_X6_sort_0 : Dc M_X6_sort 0 (.iload_n 1) 1 1 := ⟨by decide +kernel, rfl⟩
theorem d_X6_sort_1 : Db M_X6_sort 1 .le 23 4 := ⟨22, by decide +kernel, by decide, rfl⟩
theorem d_X6_sort_4 : Dc M_X6_sort 4 (.iload_n 2) 1 5 := ⟨by decide +kernel, rfl⟩
theorem d_X6_sort_5 : Db M_X6_sort 5 .le 23 8 := ⟨18, by decide +kernel, by decide, rfl⟩
theorem d_X6_sort_8 : Dc M_X6_sort 8 (.aload_n 0) 1 9 := ⟨by decide +kernel, rfl⟩
theorem d_X6_sort_9 : Dc M_X6_sort 9 (.aload_n 0) 1 10 := ⟨by decide +kernel, rfl⟩
theorem d_X6_sort_10 : GF M_X6_sort 10 6 6 13 := ⟨28, ⟨by decide +kernel, rfl⟩, fl_X6_28⟩
theorem d_X6_sort_13 : Dc M_X6_sort 13 (.iload_n 1) 1 14 := ⟨by decide +kernel, rfl⟩
theorem d_X6_sort_14 : MX M_X6_sort 14 17 := ⟨81, ⟨by decide +kernel, rfl⟩, inT (List.mem_append_right _ (List.mem_append_right _ (List.mem_append_left _ (List.mem_of_getElem? (l := tables_1_3) (i := 53) (by decide +kernel)))))⟩
theorem d_X6_sort_17 : PF M_X6_sort 17 6 6 20 := ⟨28, ⟨by decide +kernel, rfl⟩, ⟨by decide, by decide⟩, inT (List.mem_append_left _ (List.mem_of_getElem? (l := tables_1_1) (i := 140) (by decide +kernel)))⟩
theorem d_X6_sort_20 : Dg M_X6_sort 20 47 := ⟨27, by decide +kernel, by decide⟩
theorem d_X6_sort_23 : Dc M_X6_sort 23 (.aload_n 0) 1 24 := ⟨by decide +kernel, rfl⟩
theorem d_X6_sort_24 : Dc M_X6_sort 24 (.aload_n 0) 1 25 := ⟨by decide +kernel, rfl⟩
theorem d_X6_sort_25 : GF M_X6_sort 25 6 7 28 := ⟨31, ⟨by decide +kernel, rfl⟩, fl_X6_31⟩
theorem d_X6_sort_28 : Dc M_X6_sort 28 (.iload_n 1) 1 29 := ⟨by decide +kernel, rfl⟩
theorem d_X6_sort_29 : MX M_X6_sort 29 32 := ⟨81, ⟨by decide +kernel, rfl⟩, inT (List.mem_append_right _ (List.mem_append_right _ (List.mem_append_left _ (List.mem_of_getElem? (l := tables_1_3) (i := 53) (by decide +kernel)))))⟩
theorem d_X6_sort_32 : PF M_X6_sort 32 6 7 35 := ⟨31, ⟨by decide +kernel, rfl⟩, ⟨by decide, by decide⟩, inT (List.mem_append_left _ (List.mem_of_getElem? (l := tables_1_1) (i := 141) (by decide +kernel)))⟩
theorem d_X6_sort_35 : Dc M_X6_sort 35 (.aload_n 0) 1 36 := ⟨by decide +kernel, rfl⟩
theorem d_X6_sort_36 : Dc M_X6_sort 36 (.aload_n 0) 1 37 := ⟨by decide +kernel, rfl⟩
theorem d_X6_sort_37 : GF M_X6_sort 37 6 8 40 := ⟨34, ⟨by decide +kernel, rfl⟩, fl_X6_34⟩
theorem d_X6_sort_40 : Dc M_X6_sort 40 (.iload_n 2) 1 41 := ⟨by decide +kernel, rfl⟩
theorem d_X6_sort_41 : MX M_X6_sort 41 44 := ⟨81, ⟨by decide +kernel, rfl⟩, inT (List.mem_append_right _ (List.mem_append_right _ (List.mem_append_left _ (List.mem_of_getElem? (l := tables_1_3) (i := 53) (by decide +kernel)))))⟩
theorem d_X6_sort_44 : PF M_X6_sort 44 6 8 47 := ⟨34, ⟨by decide +kernel, rfl⟩, ⟨by decide, by decide⟩, inT (List.mem_append_left _ (List.mem_of_getElem? (l := tables_1_1) (i := 142) (by decide +kernel)))⟩
theorem d_X6_sort_47 : Dc M_X6_sort 47 (.return_) 1 48 := ⟨by decide +kernel, rfl⟩
theorem d_X6_meetAboveBoth_0 : Dc M_X6_meetAboveBoth 0 (.aload_n 0) 1 1 := ⟨by decide +kernel, rfl⟩
theorem d_X6_meetAboveBoth_1 : GF M_X6_meetAboveBoth 1 6 7 4 := ⟨31, ⟨by decide +kernel, rfl⟩, fl_X6_31⟩
theorem d_X6_meetAboveBoth_4 : Dc M_X6_meetAboveBoth 4 (.aload_n 0) 1 5 := ⟨by decide +kernel, rfl⟩
theorem d_X6_meetAboveBoth_5 : GF M_X6_meetAboveBoth 5 6 8 8 := ⟨34, ⟨by decide +kernel, rfl⟩, fl_X6_34⟩
theorem d_X6_meetAboveBoth_8 : Dc M_X6_meetAboveBoth 8 (.imul) 1 9 := ⟨by decide +kernel, rfl⟩
theorem d_X6_meetAboveBoth_9 : Dc M_X6_meetAboveBoth 9 (.aload_n 0) 1 10 := ⟨by decide +kernel, rfl⟩
theorem d_X6_meetAboveBoth_10 : GF M_X6_meetAboveBoth 10 6 6 13 := ⟨28, ⟨by decide +kernel, rfl⟩, fl_X6_28⟩
theorem d_X6_meetAboveBoth_13 : Dc M_X6_meetAboveBoth 13 (.aload_n 0) 1 14 := ⟨by decide +kernel, rfl⟩
theorem d_X6_meetAboveBoth_14 : GF M_X6_meetAboveBoth 14 6 7 17 := ⟨31, ⟨by decide +kernel, rfl⟩, fl_X6_31⟩
theorem d_X6_meetAboveBoth_17 : Dc M_X6_meetAboveBoth 17 (.aload_n 0) 1 18 := ⟨by decide +kernel, rfl⟩
theorem d_X6_meetAboveBoth_18 : GF M_X6_meetAboveBoth 18 6 8 21 := ⟨34, ⟨by decide +kernel, rfl⟩, fl_X6_34⟩
theorem d_X6_meetAboveBoth_21 : Dc M_X6_meetAboveBoth 21 (.iadd) 1 22 := ⟨by decide +kernel, rfl⟩
theorem d_X6_meetAboveBoth_22 : Dc M_X6_meetAboveBoth 22 (.imul) 1 23 := ⟨by decide +kernel, rfl⟩
theorem d_X6_meetAboveBoth_23 : Di M_X6_meetAboveBoth 23 .le 30 26 := ⟨7, by decide +kernel, by decide, rfl⟩
theorem d_X6_meetAboveBoth_26 : KI M_X6_meetAboveBoth 26 (nI 1) 27 := Or.inl ⟨1, ⟨by decide +kernel, rfl⟩, by decide⟩
theorem d_X6_meetAboveBoth_27 : Dg M_X6_meetAboveBoth 27 31 := ⟨4, by decide +kernel, by decide⟩
theorem d_X6_meetAboveBoth_30 : KI M_X6_meetAboveBoth 30 (nI 0) 31 := Or.inl ⟨0, ⟨by decide +kernel, rfl⟩, by decide⟩
theorem d_X6_meetAboveBoth_31 : Dc M_X6_meetAboveBoth 31 (.ireturn) 1 32 := ⟨by decide +kernel, rfl⟩
theorem d_X6_leastLot_0 : Dc M_X6_leastLot 0 (.aload_n 0) 1 1 := ⟨by decide +kernel, rfl⟩
theorem d_X6_leastLot_1 : Dc M_X6_leastLot 1 (.iload_n 1) 1 2 := ⟨by decide +kernel, rfl⟩
theorem d_X6_leastLot_2 : Dc M_X6_leastLot 2 (.iload_n 2) 1 3 := ⟨by decide +kernel, rfl⟩
theorem d_X6_leastLot_3 : CV M_X6_leastLot 3 M_X6_weigh 2 6 := ⟨86, ⟨by decide +kernel, rfl⟩, Or.inl (inT (List.mem_append_right _ (List.mem_append_right _ (List.mem_append_left _ (List.mem_of_getElem? (l := tables_1_3) (i := 45) (by decide +kernel)))))), mf_X6_weigh, mi_X6_weigh, ⟨by decide, by decide⟩⟩
theorem d_X6_leastLot_6 : Dc M_X6_leastLot 6 (.aload_n 0) 1 7 := ⟨by decide +kernel, rfl⟩
theorem d_X6_leastLot_7 : CV M_X6_leastLot 7 M_X6_meetAboveBoth 0 10 := ⟨89, ⟨by decide +kernel, rfl⟩, Or.inl (inT (List.mem_append_right _ (List.mem_append_right _ (List.mem_append_left _ (List.mem_of_getElem? (l := tables_1_3) (i := 54) (by decide +kernel)))))), mf_X6_meetAboveBoth, mi_X6_meetAboveBoth, ⟨by decide, by decide⟩⟩
theorem d_X6_leastLot_10 : Db M_X6_leastLot 10 .eq 36 13 := ⟨26, by decide +kernel, by decide, rfl⟩
theorem d_X6_leastLot_13 : Dc M_X6_leastLot 13 (.aload_n 0) 1 14 := ⟨by decide +kernel, rfl⟩
theorem d_X6_leastLot_14 : GF M_X6_leastLot 14 6 2 17 := ⟨12, ⟨by decide +kernel, rfl⟩, fl_X6_12⟩
theorem d_X6_leastLot_17 : Dc M_X6_leastLot 17 (.aload_n 0) 1 18 := ⟨by decide +kernel, rfl⟩
theorem d_X6_leastLot_18 : GF M_X6_leastLot 18 6 8 21 := ⟨34, ⟨by decide +kernel, rfl⟩, fl_X6_34⟩
theorem d_X6_leastLot_21 : Dc M_X6_leastLot 21 (.i2l) 1 22 := ⟨by decide +kernel, rfl⟩
theorem d_X6_leastLot_22 : Dc M_X6_leastLot 22 (.aload_n 0) 1 23 := ⟨by decide +kernel, rfl⟩
theorem d_X6_leastLot_23 : GF M_X6_leastLot 23 6 7 26 := ⟨31, ⟨by decide +kernel, rfl⟩, fl_X6_31⟩
theorem d_X6_leastLot_26 : Dc M_X6_leastLot 26 (.aload_n 0) 1 27 := ⟨by decide +kernel, rfl⟩
theorem d_X6_leastLot_27 : GF M_X6_leastLot 27 6 8 30 := ⟨34, ⟨by decide +kernel, rfl⟩, fl_X6_34⟩
theorem d_X6_leastLot_30 : Dc M_X6_leastLot 30 (.iadd) 1 31 := ⟨by decide +kernel, rfl⟩
theorem d_X6_leastLot_31 : Dc M_X6_leastLot 31 (.i2l) 1 32 := ⟨by decide +kernel, rfl⟩
theorem d_X6_leastLot_32 : CV M_X6_leastLot 32 M_X2_become 2 35 := ⟨93, ⟨by decide +kernel, rfl⟩, Or.inr (inT (List.mem_append_right _ (List.mem_append_right _ (List.mem_append_left _ (List.mem_of_getElem? (l := tables_1_3) (i := 58) (by decide +kernel)))))), mf_X2_become, mi_X2_become, ⟨by decide, by decide⟩⟩
theorem d_X6_leastLot_35 : Dc M_X6_leastLot 35 (.areturn) 1 36 := ⟨by decide +kernel, rfl⟩
theorem d_X6_leastLot_36 : Dc M_X6_leastLot 36 (.aload_n 0) 1 37 := ⟨by decide +kernel, rfl⟩
theorem d_X6_leastLot_37 : GF M_X6_leastLot 37 6 8 40 := ⟨34, ⟨by decide +kernel, rfl⟩, fl_X6_34⟩
theorem d_X6_leastLot_40 : Dc M_X6_leastLot 40 (.aload_n 0) 1 41 := ⟨by decide +kernel, rfl⟩
theorem d_X6_leastLot_41 : GF M_X6_leastLot 41 6 6 44 := ⟨28, ⟨by decide +kernel, rfl⟩, fl_X6_28⟩
theorem d_X6_leastLot_44 : Di M_X6_leastLot 44 .le 72 47 := ⟨28, by decide +kernel, by decide, rfl⟩
theorem d_X6_leastLot_47 : Dc M_X6_leastLot 47 (.aload_n 0) 1 48 := ⟨by decide +kernel, rfl⟩
theorem d_X6_leastLot_48 : GF M_X6_leastLot 48 6 2 51 := ⟨12, ⟨by decide +kernel, rfl⟩, fl_X6_12⟩
theorem d_X6_leastLot_51 : Dc M_X6_leastLot 51 (.aload_n 0) 1 52 := ⟨by decide +kernel, rfl⟩
theorem d_X6_leastLot_52 : GF M_X6_leastLot 52 6 8 55 := ⟨34, ⟨by decide +kernel, rfl⟩, fl_X6_34⟩
theorem d_X6_leastLot_55 : Dc M_X6_leastLot 55 (.aload_n 0) 1 56 := ⟨by decide +kernel, rfl⟩
theorem d_X6_leastLot_56 : GF M_X6_leastLot 56 6 6 59 := ⟨28, ⟨by decide +kernel, rfl⟩, fl_X6_28⟩
theorem d_X6_leastLot_59 : Dc M_X6_leastLot 59 (.isub) 1 60 := ⟨by decide +kernel, rfl⟩
theorem d_X6_leastLot_60 : Dc M_X6_leastLot 60 (.i2l) 1 61 := ⟨by decide +kernel, rfl⟩
theorem d_X6_leastLot_61 : Dc M_X6_leastLot 61 (.aload_n 0) 1 62 := ⟨by decide +kernel, rfl⟩
theorem d_X6_leastLot_62 : GF M_X6_leastLot 62 6 8 65 := ⟨34, ⟨by decide +kernel, rfl⟩, fl_X6_34⟩
theorem d_X6_leastLot_65 : Dc M_X6_leastLot 65 (.i2l) 1 66 := ⟨by decide +kernel, rfl⟩
theorem d_X6_leastLot_66 : CV M_X6_leastLot 66 M_X2_become 2 69 := ⟨93, ⟨by decide +kernel, rfl⟩, Or.inr (inT (List.mem_append_right _ (List.mem_append_right _ (List.mem_append_left _ (List.mem_of_getElem? (l := tables_1_3) (i := 58) (by decide +kernel)))))), mf_X2_become, mi_X2_become, ⟨by decide, by decide⟩⟩
theorem d_X6_leastLot_69 : Dg M_X6_leastLot 69 81 := ⟨12, by decide +kernel, by decide⟩
theorem d_X6_leastLot_72 : Dc M_X6_leastLot 72 (.aload_n 0) 1 73 := ⟨by decide +kernel, rfl⟩
theorem d_X6_leastLot_73 : GF M_X6_leastLot 73 6 2 76 := ⟨12, ⟨by decide +kernel, rfl⟩, fl_X6_12⟩
theorem d_X6_leastLot_76 : Dc M_X6_leastLot 76 (.lconst 0) 1 77 := ⟨by decide +kernel, rfl⟩
theorem d_X6_leastLot_77 : Dc M_X6_leastLot 77 (.lconst 1) 1 78 := ⟨by decide +kernel, rfl⟩
theorem d_X6_leastLot_78 : CV M_X6_leastLot 78 M_X2_become 2 81 := ⟨93, ⟨by decide +kernel, rfl⟩, Or.inr (inT (List.mem_append_right _ (List.mem_append_right _ (List.mem_append_left _ (List.mem_of_getElem? (l := tables_1_3) (i := 58) (by decide +kernel)))))), mf_X2_become, mi_X2_become, ⟨by decide, by decide⟩⟩
theorem d_X6_leastLot_81 : Dc M_X6_leastLot 81 (.areturn) 1 82 := ⟨by decide +kernel, rfl⟩
theorem d_X6_leastMean_0 : Dc M_X6_leastMean 0 (.aload_n 0) 1 1 := ⟨by decide +kernel, rfl⟩
theorem d_X6_leastMean_1 : Dc M_X6_leastMean 1 (.iload_n 1) 1 2 := ⟨by decide +kernel, rfl⟩
theorem d_X6_leastMean_2 : Dc M_X6_leastMean 2 (.iload_n 2) 1 3 := ⟨by decide +kernel, rfl⟩
theorem d_X6_leastMean_3 : CV M_X6_leastMean 3 M_X6_weigh 2 6 := ⟨86, ⟨by decide +kernel, rfl⟩, Or.inl (inT (List.mem_append_right _ (List.mem_append_right _ (List.mem_append_left _ (List.mem_of_getElem? (l := tables_1_3) (i := 45) (by decide +kernel)))))), mf_X6_weigh, mi_X6_weigh, ⟨by decide, by decide⟩⟩
theorem d_X6_leastMean_6 : Dc M_X6_leastMean 6 (.aload_n 0) 1 7 := ⟨by decide +kernel, rfl⟩
theorem d_X6_leastMean_7 : CV M_X6_leastMean 7 M_X6_meetAboveBoth 0 10 := ⟨89, ⟨by decide +kernel, rfl⟩, Or.inl (inT (List.mem_append_right _ (List.mem_append_right _ (List.mem_append_left _ (List.mem_of_getElem? (l := tables_1_3) (i := 54) (by decide +kernel)))))), mf_X6_meetAboveBoth, mi_X6_meetAboveBoth, ⟨by decide, by decide⟩⟩
theorem d_X6_leastMean_10 : Db M_X6_leastMean 10 .eq 41 13 := ⟨31, by decide +kernel, by decide, rfl⟩
theorem d_X6_leastMean_13 : Dc M_X6_leastMean 13 (.aload_n 0) 1 14 := ⟨by decide +kernel, rfl⟩
theorem d_X6_leastMean_14 : GF M_X6_leastMean 14 6 2 17 := ⟨12, ⟨by decide +kernel, rfl⟩, fl_X6_12⟩
theorem d_X6_leastMean_17 : Dc M_X6_leastMean 17 (.aload_n 0) 1 18 := ⟨by decide +kernel, rfl⟩
theorem d_X6_leastMean_18 : GF M_X6_leastMean 18 6 7 21 := ⟨31, ⟨by decide +kernel, rfl⟩, fl_X6_31⟩
theorem d_X6_leastMean_21 : Dc M_X6_leastMean 21 (.aload_n 0) 1 22 := ⟨by decide +kernel, rfl⟩
theorem d_X6_leastMean_22 : GF M_X6_leastMean 22 6 8 25 := ⟨34, ⟨by decide +kernel, rfl⟩, fl_X6_34⟩
theorem d_X6_leastMean_25 : Dc M_X6_leastMean 25 (.imul) 1 26 := ⟨by decide +kernel, rfl⟩
theorem d_X6_leastMean_26 : Dc M_X6_leastMean 26 (.i2l) 1 27 := ⟨by decide +kernel, rfl⟩
theorem d_X6_leastMean_27 : Dc M_X6_leastMean 27 (.aload_n 0) 1 28 := ⟨by decide +kernel, rfl⟩
theorem d_X6_leastMean_28 : GF M_X6_leastMean 28 6 7 31 := ⟨31, ⟨by decide +kernel, rfl⟩, fl_X6_31⟩
theorem d_X6_leastMean_31 : Dc M_X6_leastMean 31 (.aload_n 0) 1 32 := ⟨by decide +kernel, rfl⟩
theorem d_X6_leastMean_32 : GF M_X6_leastMean 32 6 8 35 := ⟨34, ⟨by decide +kernel, rfl⟩, fl_X6_34⟩
theorem d_X6_leastMean_35 : Dc M_X6_leastMean 35 (.iadd) 1 36 := ⟨by decide +kernel, rfl⟩
theorem d_X6_leastMean_36 : Dc M_X6_leastMean 36 (.i2l) 1 37 := ⟨by decide +kernel, rfl⟩
theorem d_X6_leastMean_37 : CV M_X6_leastMean 37 M_X2_become 2 40 := ⟨93, ⟨by decide +kernel, rfl⟩, Or.inr (inT (List.mem_append_right _ (List.mem_append_right _ (List.mem_append_left _ (List.mem_of_getElem? (l := tables_1_3) (i := 58) (by decide +kernel)))))), mf_X2_become, mi_X2_become, ⟨by decide, by decide⟩⟩
theorem d_X6_leastMean_40 : Dc M_X6_leastMean 40 (.areturn) 1 41 := ⟨by decide +kernel, rfl⟩
theorem d_X6_leastMean_41 : Dc M_X6_leastMean 41 (.aload_n 0) 1 42 := ⟨by decide +kernel, rfl⟩
theorem d_X6_leastMean_42 : GF M_X6_leastMean 42 6 2 45 := ⟨12, ⟨by decide +kernel, rfl⟩, fl_X6_12⟩
theorem d_X6_leastMean_45 : Dc M_X6_leastMean 45 (.aload_n 0) 1 46 := ⟨by decide +kernel, rfl⟩
theorem d_X6_leastMean_46 : GF M_X6_leastMean 46 6 6 49 := ⟨28, ⟨by decide +kernel, rfl⟩, fl_X6_28⟩
theorem d_X6_leastMean_49 : Dc M_X6_leastMean 49 (.i2l) 1 50 := ⟨by decide +kernel, rfl⟩
theorem d_X6_leastMean_50 : Dc M_X6_leastMean 50 (.lconst 1) 1 51 := ⟨by decide +kernel, rfl⟩
theorem d_X6_leastMean_51 : CV M_X6_leastMean 51 M_X2_become 2 54 := ⟨93, ⟨by decide +kernel, rfl⟩, Or.inr (inT (List.mem_append_right _ (List.mem_append_right _ (List.mem_append_left _ (List.mem_of_getElem? (l := tables_1_3) (i := 58) (by decide +kernel)))))), mf_X2_become, mi_X2_become, ⟨by decide, by decide⟩⟩
theorem d_X6_leastMean_54 : Dc M_X6_leastMean 54 (.areturn) 1 55 := ⟨by decide +kernel, rfl⟩
theorem d_X6_learnBy_0 : Dc M_X6_learnBy 0 (.aload_n 0) 1 1 := ⟨by decide +kernel, rfl⟩
theorem d_X6_learnBy_1 : KI M_X6_learnBy 1 (nI 0) 2 := Or.inl ⟨0, ⟨by decide +kernel, rfl⟩, by decide⟩
theorem d_X6_learnBy_2 : PF M_X6_learnBy 2 6 9 5 := ⟨37, ⟨by decide +kernel, rfl⟩, ⟨by decide, by decide⟩, inT (List.mem_append_left _ (List.mem_of_getElem? (l := tables_1_1) (i := 143) (by decide +kernel)))⟩
theorem d_X6_learnBy_5 : Dc M_X6_learnBy 5 (.aload_n 0) 1 6 := ⟨by decide +kernel, rfl⟩
theorem d_X6_learnBy_6 : KI M_X6_learnBy 6 (nI 0) 7 := Or.inl ⟨0, ⟨by decide +kernel, rfl⟩, by decide⟩
theorem d_X6_learnBy_7 : PF M_X6_learnBy 7 6 10 10 := ⟨40, ⟨by decide +kernel, rfl⟩, ⟨by decide, by decide⟩, inT (List.mem_append_left _ (List.mem_of_getElem? (l := tables_1_1) (i := 145) (by decide +kernel)))⟩
theorem d_X6_learnBy_10 : KI M_X6_learnBy 10 (nI 0) 11 := Or.inl ⟨0, ⟨by decide +kernel, rfl⟩, by decide⟩
theorem d_X6_learnBy_11 : Dc M_X6_learnBy 11 (.istore 4) 2 13 := ⟨by decide +kernel, rfl⟩
theorem d_X6_learnBy_13 : KI M_X6_learnBy 13 (nI 0) 14 := Or.inl ⟨0, ⟨by decide +kernel, rfl⟩, by decide⟩
theorem d_X6_learnBy_14 : Dc M_X6_learnBy 14 (.istore 5) 2 16 := ⟨by decide +kernel, rfl⟩
theorem d_X6_learnBy_16 : KI M_X6_learnBy 16 (nI 0) 17 := Or.inl ⟨0, ⟨by decide +kernel, rfl⟩, by decide⟩
theorem d_X6_learnBy_17 : Dc M_X6_learnBy 17 (.istore 6) 2 19 := ⟨by decide +kernel, rfl⟩
theorem d_X6_learnBy_19 : Dc M_X6_learnBy 19 (.iload 6) 2 21 := ⟨by decide +kernel, rfl⟩
theorem d_X6_learnBy_21 : Dc M_X6_learnBy 21 (.iload_n 3) 1 22 := ⟨by decide +kernel, rfl⟩
theorem d_X6_learnBy_22 : Di M_X6_learnBy 22 .ge 170 25 := ⟨148, by decide +kernel, by decide, rfl⟩
theorem d_X6_learnBy_25 : Dc M_X6_learnBy 25 (.aload_n 0) 1 26 := ⟨by decide +kernel, rfl⟩
theorem d_X6_learnBy_26 : Dc M_X6_learnBy 26 (.iload_n 1) 1 27 := ⟨by decide +kernel, rfl⟩
theorem d_X6_learnBy_27 : Dc M_X6_learnBy 27 (.aload_n 0) 1 28 := ⟨by decide +kernel, rfl⟩
theorem d_X6_learnBy_28 : GF M_X6_learnBy 28 6 9 31 := ⟨37, ⟨by decide +kernel, rfl⟩, fl_X6_37⟩
theorem d_X6_learnBy_31 : Dc M_X6_learnBy 31 (.iload_n 2) 1 32 := ⟨by decide +kernel, rfl⟩
theorem d_X6_learnBy_32 : Dc M_X6_learnBy 32 (.iload 6) 2 34 := ⟨by decide +kernel, rfl⟩
theorem d_X6_learnBy_34 : Dc M_X6_learnBy 34 (.aload_n 0) 1 35 := ⟨by decide +kernel, rfl⟩
theorem d_X6_learnBy_35 : GF M_X6_learnBy 35 6 9 38 := ⟨37, ⟨by decide +kernel, rfl⟩, fl_X6_37⟩
theorem d_X6_learnBy_38 : Dc M_X6_learnBy 38 (.isub) 1 39 := ⟨by decide +kernel, rfl⟩
theorem d_X6_learnBy_39 : KI M_X6_learnBy 39 (nI 0) 40 := Or.inl ⟨0, ⟨by decide +kernel, rfl⟩, by decide⟩
theorem d_X6_learnBy_40 : KI M_X6_learnBy 40 (-1 : Int32) 41 := Or.inl ⟨(-1), ⟨by decide +kernel, rfl⟩, by decide⟩
theorem d_X6_learnBy_41 : CV M_X6_learnBy 41 M_X6_seek 6 44 := ⟨97, ⟨by decide +kernel, rfl⟩, Or.inl (inT (List.mem_append_right _ (List.mem_append_right _ (List.mem_append_left _ (List.mem_of_getElem? (l := tables_1_3) (i := 75) (by decide +kernel)))))), mf_X6_seek, mi_X6_seek, ⟨by decide, by decide⟩⟩
theorem d_X6_learnBy_44 : Dc M_X6_learnBy 44 (.aload_n 0) 1 45 := ⟨by decide +kernel, rfl⟩
theorem d_X6_learnBy_45 : Dc M_X6_learnBy 45 (.aload_n 0) 1 46 := ⟨by decide +kernel, rfl⟩
theorem d_X6_learnBy_46 : GF M_X6_learnBy 46 6 3 49 := ⟨18, ⟨by decide +kernel, rfl⟩, fl_X6_18⟩
theorem d_X6_learnBy_49 : Dc M_X6_learnBy 49 (.aload_n 0) 1 50 := ⟨by decide +kernel, rfl⟩
theorem d_X6_learnBy_50 : GF M_X6_learnBy 50 6 4 53 := ⟨22, ⟨by decide +kernel, rfl⟩, fl_X6_22⟩
theorem d_X6_learnBy_53 : Dc M_X6_learnBy 53 (.aload_n 0) 1 54 := ⟨by decide +kernel, rfl⟩
theorem d_X6_learnBy_54 : GF M_X6_learnBy 54 6 1 57 := ⟨47, ⟨by decide +kernel, rfl⟩, fl_X6_47⟩
theorem d_X6_learnBy_57 : Dc M_X6_learnBy 57 (.iload_n 1) 1 58 := ⟨by decide +kernel, rfl⟩
theorem d_X6_learnBy_58 : Dc M_X6_learnBy 58 (.aload_n 0) 1 59 := ⟨by decide +kernel, rfl⟩
theorem d_X6_learnBy_59 : GF M_X6_learnBy 59 6 3 62 := ⟨18, ⟨by decide +kernel, rfl⟩, fl_X6_18⟩
theorem d_X6_learnBy_62 : CV M_X6_learnBy 62 M_X7_comesTo 2 65 := ⟨63, ⟨by decide +kernel, rfl⟩, Or.inr (inT (List.mem_append_right _ (List.mem_append_right _ (List.mem_append_left _ (List.mem_of_getElem? (l := tables_1_3) (i := 23) (by decide +kernel)))))), mf_X7_comesTo, mi_X7_comesTo, ⟨by decide, by decide⟩⟩
theorem d_X6_learnBy_65 : CV M_X6_learnBy 65 M_X6_haul 3 68 := ⟨69, ⟨by decide +kernel, rfl⟩, Or.inl (inT (List.mem_append_right _ (List.mem_append_right _ (List.mem_append_left _ (List.mem_of_getElem? (l := tables_1_3) (i := 24) (by decide +kernel)))))), mf_X6_haul, mi_X6_haul, ⟨by decide, by decide⟩⟩
theorem d_X6_learnBy_68 : Dc M_X6_learnBy 68 (.istore 7) 2 70 := ⟨by decide +kernel, rfl⟩
theorem d_X6_learnBy_70 : Dc M_X6_learnBy 70 (.aload_n 0) 1 71 := ⟨by decide +kernel, rfl⟩
theorem d_X6_learnBy_71 : Dc M_X6_learnBy 71 (.aload_n 0) 1 72 := ⟨by decide +kernel, rfl⟩
theorem d_X6_learnBy_72 : GF M_X6_learnBy 72 6 3 75 := ⟨18, ⟨by decide +kernel, rfl⟩, fl_X6_18⟩
theorem d_X6_learnBy_75 : Dc M_X6_learnBy 75 (.aload_n 0) 1 76 := ⟨by decide +kernel, rfl⟩
theorem d_X6_learnBy_76 : GF M_X6_learnBy 76 6 4 79 := ⟨22, ⟨by decide +kernel, rfl⟩, fl_X6_22⟩
theorem d_X6_learnBy_79 : Dc M_X6_learnBy 79 (.aload_n 0) 1 80 := ⟨by decide +kernel, rfl⟩
theorem d_X6_learnBy_80 : GF M_X6_learnBy 80 6 1 83 := ⟨47, ⟨by decide +kernel, rfl⟩, fl_X6_47⟩
theorem d_X6_learnBy_83 : Dc M_X6_learnBy 83 (.iload_n 2) 1 84 := ⟨by decide +kernel, rfl⟩
theorem d_X6_learnBy_84 : Dc M_X6_learnBy 84 (.aload_n 0) 1 85 := ⟨by decide +kernel, rfl⟩
theorem d_X6_learnBy_85 : GF M_X6_learnBy 85 6 3 88 := ⟨18, ⟨by decide +kernel, rfl⟩, fl_X6_18⟩
theorem d_X6_learnBy_88 : CV M_X6_learnBy 88 M_X7_comesTo 2 91 := ⟨63, ⟨by decide +kernel, rfl⟩, Or.inr (inT (List.mem_append_right _ (List.mem_append_right _ (List.mem_append_left _ (List.mem_of_getElem? (l := tables_1_3) (i := 23) (by decide +kernel)))))), mf_X7_comesTo, mi_X7_comesTo, ⟨by decide, by decide⟩⟩
theorem d_X6_learnBy_91 : CV M_X6_learnBy 91 M_X6_haul 3 94 := ⟨69, ⟨by decide +kernel, rfl⟩, Or.inl (inT (List.mem_append_right _ (List.mem_append_right _ (List.mem_append_left _ (List.mem_of_getElem? (l := tables_1_3) (i := 24) (by decide +kernel)))))), mf_X6_haul, mi_X6_haul, ⟨by decide, by decide⟩⟩
theorem d_X6_learnBy_94 : Dc M_X6_learnBy 94 (.istore 8) 2 96 := ⟨by decide +kernel, rfl⟩
theorem d_X6_learnBy_96 : Dc M_X6_learnBy 96 (.iload 4) 2 98 := ⟨by decide +kernel, rfl⟩
theorem d_X6_learnBy_98 : Dc M_X6_learnBy 98 (.iload 5) 2 100 := ⟨by decide +kernel, rfl⟩
theorem d_X6_learnBy_100 : Di M_X6_learnBy 100 .gt 107 103 := ⟨7, by decide +kernel, by decide, rfl⟩
theorem d_X6_learnBy_103 : KI M_X6_learnBy 103 (nI 1) 104 := Or.inl ⟨1, ⟨by decide +kernel, rfl⟩, by decide⟩
theorem d_X6_learnBy_104 : Dg M_X6_learnBy 104 108 := ⟨4, by decide +kernel, by decide⟩
theorem d_X6_learnBy_107 : KI M_X6_learnBy 107 (nI 0) 108 := Or.inl ⟨0, ⟨by decide +kernel, rfl⟩, by decide⟩
theorem d_X6_learnBy_108 : Dc M_X6_learnBy 108 (.istore 9) 2 110 := ⟨by decide +kernel, rfl⟩
theorem d_X6_learnBy_110 : Dc M_X6_learnBy 110 (.aload_n 0) 1 111 := ⟨by decide +kernel, rfl⟩
theorem d_X6_learnBy_111 : Dc M_X6_learnBy 111 (.dup) 1 112 := ⟨by decide +kernel, rfl⟩
theorem d_X6_learnBy_112 : GF M_X6_learnBy 112 6 9 115 := ⟨37, ⟨by decide +kernel, rfl⟩, fl_X6_37⟩
theorem d_X6_learnBy_115 : Dc M_X6_learnBy 115 (.iload 9) 2 117 := ⟨by decide +kernel, rfl⟩
theorem d_X6_learnBy_117 : Db M_X6_learnBy 117 .eq 124 120 := ⟨7, by decide +kernel, by decide, rfl⟩
theorem d_X6_learnBy_120 : KI M_X6_learnBy 120 (nI 1) 121 := Or.inl ⟨1, ⟨by decide +kernel, rfl⟩, by decide⟩
theorem d_X6_learnBy_121 : Dg M_X6_learnBy 121 125 := ⟨4, by decide +kernel, by decide⟩
theorem d_X6_learnBy_124 : KI M_X6_learnBy 124 (nI 0) 125 := Or.inl ⟨0, ⟨by decide +kernel, rfl⟩, by decide⟩
theorem d_X6_learnBy_125 : Dc M_X6_learnBy 125 (.iadd) 1 126 := ⟨by decide +kernel, rfl⟩
theorem d_X6_learnBy_126 : PF M_X6_learnBy 126 6 9 129 := ⟨37, ⟨by decide +kernel, rfl⟩, ⟨by decide, by decide⟩, inT (List.mem_append_left _ (List.mem_of_getElem? (l := tables_1_1) (i := 143) (by decide +kernel)))⟩
theorem d_X6_learnBy_129 : Dc M_X6_learnBy 129 (.aload_n 0) 1 130 := ⟨by decide +kernel, rfl⟩
theorem d_X6_learnBy_130 : Dc M_X6_learnBy 130 (.dup) 1 131 := ⟨by decide +kernel, rfl⟩
theorem d_X6_learnBy_131 : GF M_X6_learnBy 131 6 10 134 := ⟨40, ⟨by decide +kernel, rfl⟩, fl_X6_40⟩
theorem d_X6_learnBy_134 : Dc M_X6_learnBy 134 (.iload 9) 2 136 := ⟨by decide +kernel, rfl⟩
theorem d_X6_learnBy_136 : Db M_X6_learnBy 136 .eq 144 139 := ⟨8, by decide +kernel, by decide, rfl⟩
theorem d_X6_learnBy_139 : Dc M_X6_learnBy 139 (.iload 7) 2 141 := ⟨by decide +kernel, rfl⟩
theorem d_X6_learnBy_141 : Dg M_X6_learnBy 141 146 := ⟨5, by decide +kernel, by decide⟩
theorem d_X6_learnBy_144 : Dc M_X6_learnBy 144 (.iload 8) 2 146 := ⟨by decide +kernel, rfl⟩
theorem d_X6_learnBy_146 : Dc M_X6_learnBy 146 (.iadd) 1 147 := ⟨by decide +kernel, rfl⟩
theorem d_X6_learnBy_147 : PF M_X6_learnBy 147 6 10 150 := ⟨40, ⟨by decide +kernel, rfl⟩, ⟨by decide, by decide⟩, inT (List.mem_append_left _ (List.mem_of_getElem? (l := tables_1_1) (i := 145) (by decide +kernel)))⟩
theorem d_X6_learnBy_150 : Dc M_X6_learnBy 150 (.iload 4) 2 152 := ⟨by decide +kernel, rfl⟩
theorem d_X6_learnBy_152 : Dc M_X6_learnBy 152 (.iload 7) 2 154 := ⟨by decide +kernel, rfl⟩
theorem d_X6_learnBy_154 : Dc M_X6_learnBy 154 (.iadd) 1 155 := ⟨by decide +kernel, rfl⟩
theorem d_X6_learnBy_155 : Dc M_X6_learnBy 155 (.istore 4) 2 157 := ⟨by decide +kernel, rfl⟩
theorem d_X6_learnBy_157 : Dc M_X6_learnBy 157 (.iload 5) 2 159 := ⟨by decide +kernel, rfl⟩
theorem d_X6_learnBy_159 : Dc M_X6_learnBy 159 (.iload 8) 2 161 := ⟨by decide +kernel, rfl⟩
theorem d_X6_learnBy_161 : Dc M_X6_learnBy 161 (.iadd) 1 162 := ⟨by decide +kernel, rfl⟩
theorem d_X6_learnBy_162 : Dc M_X6_learnBy 162 (.istore 5) 2 164 := ⟨by decide +kernel, rfl⟩
theorem d_X6_learnBy_164 : Dc M_X6_learnBy 164 (.iinc 6 1) 3 167 := ⟨by decide +kernel, rfl⟩
theorem d_X6_learnBy_167 : Dg M_X6_learnBy 167 19 := ⟨(-148), by decide +kernel, by decide⟩
theorem d_X6_learnBy_170 : Dc M_X6_learnBy 170 (.return_) 1 171 := ⟨by decide +kernel, rfl⟩
