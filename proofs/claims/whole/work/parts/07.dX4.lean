theorem d_X4_init_0 : Dc M_X4_init 0 (.aload_n 0) 1 1 := ⟨by decide +kernel, rfl⟩
theorem d_X4_init_1 : OI M_X4_init 1 4 := ⟨3, ⟨by decide +kernel, rfl⟩, inT (List.mem_append_left _ (List.mem_of_getElem? (l := tables_1_1) (i := 50) (by decide +kernel)))⟩
theorem d_X4_init_4 : Dc M_X4_init 4 (.aload_n 0) 1 5 := ⟨by decide +kernel, rfl⟩
theorem d_X4_init_5 : KI M_X4_init 5 (nI 60) 7 := Or.inr (Or.inl ⟨60, ⟨by decide +kernel, rfl⟩, by decide⟩)
theorem d_X4_init_7 : Dc M_X4_init 7 (.newarray .int) 2 9 := ⟨by decide +kernel, rfl⟩
theorem d_X4_init_9 : PF M_X4_init 9 4 0 12 := ⟨11, ⟨by decide +kernel, rfl⟩, ⟨by decide, by decide⟩, inT (List.mem_append_left _ (List.mem_of_getElem? (l := tables_1_1) (i := 51) (by decide +kernel)))⟩
theorem d_X4_init_12 : Dc M_X4_init 12 (.aload_n 0) 1 13 := ⟨by decide +kernel, rfl⟩
theorem d_X4_init_13 : KI M_X4_init 13 (nI 48) 15 := Or.inr (Or.inl ⟨48, ⟨by decide +kernel, rfl⟩, by decide⟩)
theorem d_X4_init_15 : Dc M_X4_init 15 (.newarray .int) 2 17 := ⟨by decide +kernel, rfl⟩
theorem d_X4_init_17 : PF M_X4_init 17 4 1 20 := ⟨15, ⟨by decide +kernel, rfl⟩, ⟨by decide, by decide⟩, inT (List.mem_append_left _ (List.mem_of_getElem? (l := tables_1_1) (i := 52) (by decide +kernel)))⟩
theorem d_X4_init_20 : Dc M_X4_init 20 (.aload_n 0) 1 21 := ⟨by decide +kernel, rfl⟩
theorem d_X4_init_21 : KI M_X4_init 21 (nI 8) 23 := Or.inr (Or.inl ⟨8, ⟨by decide +kernel, rfl⟩, by decide⟩)
theorem d_X4_init_23 : Dc M_X4_init 23 (.newarray .int) 2 25 := ⟨by decide +kernel, rfl⟩
theorem d_X4_init_25 : PF M_X4_init 25 4 2 28 := ⟨18, ⟨by decide +kernel, rfl⟩, ⟨by decide, by decide⟩, inT (List.mem_append_left _ (List.mem_of_getElem? (l := tables_1_1) (i := 53) (by decide +kernel)))⟩
theorem d_X4_init_28 : Dc M_X4_init 28 (.aload_n 0) 1 29 := ⟨by decide +kernel, rfl⟩
theorem d_X4_init_29 : KI M_X4_init 29 (nI 0) 30 := Or.inl ⟨0, ⟨by decide +kernel, rfl⟩, by decide⟩
theorem d_X4_init_30 : PF M_X4_init 30 4 3 33 := ⟨21, ⟨by decide +kernel, rfl⟩, ⟨by decide, by decide⟩, inT (List.mem_append_left _ (List.mem_of_getElem? (l := tables_1_1) (i := 54) (by decide +kernel)))⟩
theorem d_X4_init_33 : Dc M_X4_init 33 (.aload_n 0) 1 34 := ⟨by decide +kernel, rfl⟩
theorem d_X4_init_34 : KI M_X4_init 34 (nI 0) 35 := Or.inl ⟨0, ⟨by decide +kernel, rfl⟩, by decide⟩
theorem d_X4_init_35 : PF M_X4_init 35 4 4 38 := ⟨25, ⟨by decide +kernel, rfl⟩, ⟨by decide, by decide⟩, inT (List.mem_append_left _ (List.mem_of_getElem? (l := tables_1_1) (i := 56) (by decide +kernel)))⟩
theorem d_X4_init_38 : Dc M_X4_init 38 (.aload_n 0) 1 39 := ⟨by decide +kernel, rfl⟩
theorem d_X4_init_39 : KI M_X4_init 39 (-1 : Int32) 40 := Or.inl ⟨(-1), ⟨by decide +kernel, rfl⟩, by decide⟩
theorem d_X4_init_40 : PF M_X4_init 40 4 5 43 := ⟨28, ⟨by decide +kernel, rfl⟩, ⟨by decide, by decide⟩, inT (List.mem_append_left _ (List.mem_of_getElem? (l := tables_1_1) (i := 60) (by decide +kernel)))⟩
theorem d_X4_init_43 : Dc M_X4_init 43 (.aload_n 0) 1 44 := ⟨by decide +kernel, rfl⟩
theorem d_X4_init_44 : KI M_X4_init 44 (nI 0) 45 := Or.inl ⟨0, ⟨by decide +kernel, rfl⟩, by decide⟩
theorem d_X4_init_45 : PF M_X4_init 45 4 6 48 := ⟨31, ⟨by decide +kernel, rfl⟩, ⟨by decide, by decide⟩, inT (List.mem_append_left _ (List.mem_of_getElem? (l := tables_1_1) (i := 62) (by decide +kernel)))⟩
theorem d_X4_init_48 : Dc M_X4_init 48 (.aload_n 0) 1 49 := ⟨by decide +kernel, rfl⟩
theorem d_X4_init_49 : KI M_X4_init 49 (nI 0) 50 := Or.inl ⟨0, ⟨by decide +kernel, rfl⟩, by decide⟩
theorem d_X4_init_50 : PF M_X4_init 50 4 7 53 := ⟨34, ⟨by decide +kernel, rfl⟩, ⟨by decide, by decide⟩, inT (List.mem_append_left _ (List.mem_of_getElem? (l := tables_1_1) (i := 63) (by decide +kernel)))⟩
theorem d_X4_init_53 : Dc M_X4_init 53 (.return_) 1 54 := ⟨by decide +kernel, rfl⟩
theorem d_X4_add_0 : Dc M_X4_add 0 (.aload_n 0) 1 1 := ⟨by decide +kernel, rfl⟩
theorem d_X4_add_1 : GF M_X4_add 1 4 3 4 := ⟨21, ⟨by decide +kernel, rfl⟩, fl_X4_21⟩
theorem d_X4_add_4 : KI M_X4_add 4 (nI 60) 6 := Or.inr (Or.inl ⟨60, ⟨by decide +kernel, rfl⟩, by decide⟩)
theorem d_X4_add_6 : Di M_X4_add 6 .lt 11 9 := ⟨5, by decide +kernel, by decide, rfl⟩
theorem d_X4_add_9 : KI M_X4_add 9 (nI 0) 10 := Or.inl ⟨0, ⟨by decide +kernel, rfl⟩, by decide⟩
theorem d_X4_add_10 : Dc M_X4_add 10 (.ireturn) 1 11 := ⟨by decide +kernel, rfl⟩
theorem d_X4_add_11 : Dc M_X4_add 11 (.aload_n 0) 1 12 := ⟨by decide +kernel, rfl⟩
theorem d_X4_add_12 : GF M_X4_add 12 4 0 15 := ⟨11, ⟨by decide +kernel, rfl⟩, fl_X4_11⟩
theorem d_X4_add_15 : Dc M_X4_add 15 (.aload_n 0) 1 16 := ⟨by decide +kernel, rfl⟩
theorem d_X4_add_16 : GF M_X4_add 16 4 3 19 := ⟨21, ⟨by decide +kernel, rfl⟩, fl_X4_21⟩
theorem d_X4_add_19 : Dc M_X4_add 19 (.iload_n 1) 1 20 := ⟨by decide +kernel, rfl⟩
theorem d_X4_add_20 : CS M_X4_add 20 M_X8_keep 3 23 := ⟨37, ⟨by decide +kernel, rfl⟩, Or.inr (inT (List.mem_append_right _ (List.mem_append_left _ (List.mem_of_getElem? (l := tables_1_2) (i := 1) (by decide +kernel))))), mf_X8_keep, ms_X8_keep, ⟨by decide, by decide⟩⟩
theorem d_X4_add_23 : Dc M_X4_add 23 (.aload_n 0) 1 24 := ⟨by decide +kernel, rfl⟩
theorem d_X4_add_24 : Dc M_X4_add 24 (.dup) 1 25 := ⟨by decide +kernel, rfl⟩
theorem d_X4_add_25 : GF M_X4_add 25 4 3 28 := ⟨21, ⟨by decide +kernel, rfl⟩, fl_X4_21⟩
theorem d_X4_add_28 : KI M_X4_add 28 (nI 1) 29 := Or.inl ⟨1, ⟨by decide +kernel, rfl⟩, by decide⟩
theorem d_X4_add_29 : Dc M_X4_add 29 (.iadd) 1 30 := ⟨by decide +kernel, rfl⟩
theorem d_X4_add_30 : PF M_X4_add 30 4 3 33 := ⟨21, ⟨by decide +kernel, rfl⟩, ⟨by decide, by decide⟩, inT (List.mem_append_left _ (List.mem_of_getElem? (l := tables_1_1) (i := 54) (by decide +kernel)))⟩
theorem d_X4_add_33 : Dc M_X4_add 33 (.aload_n 0) 1 34 := ⟨by decide +kernel, rfl⟩
theorem d_X4_add_34 : CV M_X4_add 34 M_X4_reread 0 37 := ⟨41, ⟨by decide +kernel, rfl⟩, Or.inl (inT (List.mem_append_right _ (List.mem_append_left _ (List.mem_of_getElem? (l := tables_1_2) (i := 4) (by decide +kernel))))), mf_X4_reread, mi_X4_reread, ⟨by decide, by decide⟩⟩
theorem d_X4_add_37 : KI M_X4_add 37 (nI 1) 38 := Or.inl ⟨1, ⟨by decide +kernel, rfl⟩, by decide⟩
theorem d_X4_add_38 : Dc M_X4_add 38 (.ireturn) 1 39 := ⟨by decide +kernel, rfl⟩
theorem d_X4_empty_0 : Dc M_X4_empty 0 (.aload_n 0) 1 1 := ⟨by decide +kernel, rfl⟩
theorem d_X4_empty_1 : GF M_X4_empty 1 4 3 4 := ⟨21, ⟨by decide +kernel, rfl⟩, fl_X4_21⟩
theorem d_X4_empty_4 : Dc M_X4_empty 4 (.istore_n 1) 1 5 := ⟨by decide +kernel, rfl⟩
theorem d_X4_empty_5 : Dc M_X4_empty 5 (.aload_n 0) 1 6 := ⟨by decide +kernel, rfl⟩
theorem d_X4_empty_6 : KI M_X4_empty 6 (nI 0) 7 := Or.inl ⟨0, ⟨by decide +kernel, rfl⟩, by decide⟩
theorem d_X4_empty_7 : PF M_X4_empty 7 4 3 10 := ⟨21, ⟨by decide +kernel, rfl⟩, ⟨by decide, by decide⟩, inT (List.mem_append_left _ (List.mem_of_getElem? (l := tables_1_1) (i := 54) (by decide +kernel)))⟩
theorem d_X4_empty_10 : Dc M_X4_empty 10 (.aload_n 0) 1 11 := ⟨by decide +kernel, rfl⟩
theorem d_X4_empty_11 : CV M_X4_empty 11 M_X4_reread 0 14 := ⟨41, ⟨by decide +kernel, rfl⟩, Or.inl (inT (List.mem_append_right _ (List.mem_append_left _ (List.mem_of_getElem? (l := tables_1_2) (i := 4) (by decide +kernel))))), mf_X4_reread, mi_X4_reread, ⟨by decide, by decide⟩⟩
theorem d_X4_empty_14 : Dc M_X4_empty 14 (.iload_n 1) 1 15 := ⟨by decide +kernel, rfl⟩
theorem d_X4_empty_15 : Dc M_X4_empty 15 (.ireturn) 1 16 := ⟨by decide +kernel, rfl⟩
theorem d_X4_reread_0 : Dc M_X4_reread 0 (.aload_n 0) 1 1 := ⟨by decide +kernel, rfl⟩
theorem d_X4_reread_1 : KI M_X4_reread 1 (-1 : Int32) 2 := Or.inl ⟨(-1), ⟨by decide +kernel, rfl⟩, by decide⟩
theorem d_X4_reread_2 : PF M_X4_reread 2 4 5 5 := ⟨28, ⟨by decide +kernel, rfl⟩, ⟨by decide, by decide⟩, inT (List.mem_append_left _ (List.mem_of_getElem? (l := tables_1_1) (i := 60) (by decide +kernel)))⟩
theorem d_X4_reread_5 : Dc M_X4_reread 5 (.aload_n 0) 1 6 := ⟨by decide +kernel, rfl⟩
theorem d_X4_reread_6 : KI M_X4_reread 6 (nI 0) 7 := Or.inl ⟨0, ⟨by decide +kernel, rfl⟩, by decide⟩
theorem d_X4_reread_7 : PF M_X4_reread 7 4 6 10 := ⟨31, ⟨by decide +kernel, rfl⟩, ⟨by decide, by decide⟩, inT (List.mem_append_left _ (List.mem_of_getElem? (l := tables_1_1) (i := 62) (by decide +kernel)))⟩
theorem d_X4_reread_10 : Dc M_X4_reread 10 (.aload_n 0) 1 11 := ⟨by decide +kernel, rfl⟩
theorem d_X4_reread_11 : KI M_X4_reread 11 (nI 0) 12 := Or.inl ⟨0, ⟨by decide +kernel, rfl⟩, by decide⟩
theorem d_X4_reread_12 : PF M_X4_reread 12 4 7 15 := ⟨34, ⟨by decide +kernel, rfl⟩, ⟨by decide, by decide⟩, inT (List.mem_append_left _ (List.mem_of_getElem? (l := tables_1_1) (i := 63) (by decide +kernel)))⟩
theorem d_X4_reread_15 : Dc M_X4_reread 15 (.aload_n 0) 1 16 := ⟨by decide +kernel, rfl⟩
theorem d_X4_reread_16 : GF M_X4_reread 16 4 2 19 := ⟨18, ⟨by decide +kernel, rfl⟩, fl_X4_18⟩
theorem d_X4_reread_19 : KI M_X4_reread 19 (nI 0) 20 := Or.inl ⟨0, ⟨by decide +kernel, rfl⟩, by decide⟩
theorem d_X4_reread_20 : CS M_X4_reread 20 M_X8_fill 2 23 := ⟨44, ⟨by decide +kernel, rfl⟩, Or.inr (inT (List.mem_append_right _ (List.mem_append_left _ (List.mem_of_getElem? (l := tables_1_2) (i := 8) (by decide +kernel))))), mf_X8_fill, ms_X8_fill, ⟨by decide, by decide⟩⟩
theorem d_X4_reread_23 : Dc M_X4_reread 23 (.aload_n 0) 1 24 := ⟨by decide +kernel, rfl⟩
theorem d_X4_reread_24 : GF M_X4_reread 24 4 1 27 := ⟨15, ⟨by decide +kernel, rfl⟩, fl_X4_15⟩
theorem d_X4_reread_27 : KI M_X4_reread 27 (-1 : Int32) 28 := Or.inl ⟨(-1), ⟨by decide +kernel, rfl⟩, by decide⟩
theorem d_X4_reread_28 : CS M_X4_reread 28 M_X8_fill 2 31 := ⟨44, ⟨by decide +kernel, rfl⟩, Or.inr (inT (List.mem_append_right _ (List.mem_append_left _ (List.mem_of_getElem? (l := tables_1_2) (i := 8) (by decide +kernel))))), mf_X8_fill, ms_X8_fill, ⟨by decide, by decide⟩⟩
theorem d_X4_reread_31 : KI M_X4_reread 31 (nI 0) 32 := Or.inl ⟨0, ⟨by decide +kernel, rfl⟩, by decide⟩
theorem d_X4_reread_32 : Dc M_X4_reread 32 (.istore_n 1) 1 33 := ⟨by decide +kernel, rfl⟩
theorem d_X4_reread_33 : Dc M_X4_reread 33 (.iload_n 1) 1 34 := ⟨by decide +kernel, rfl⟩
theorem d_X4_reread_34 : Dc M_X4_reread 34 (.aload_n 0) 1 35 := ⟨by decide +kernel, rfl⟩
theorem d_X4_reread_35 : GF M_X4_reread 35 4 3 38 := ⟨21, ⟨by decide +kernel, rfl⟩, fl_X4_21⟩
theorem d_X4_reread_38 : Di M_X4_reread 38 .ge 75 41 := ⟨37, by decide +kernel, by decide, rfl⟩
theorem d_X4_reread_41 : Dc M_X4_reread 41 (.aload_n 0) 1 42 := ⟨by decide +kernel, rfl⟩
theorem d_X4_reread_42 : GF M_X4_reread 42 4 5 45 := ⟨28, ⟨by decide +kernel, rfl⟩, fl_X4_28⟩
theorem d_X4_reread_45 : KI M_X4_reread 45 (-1 : Int32) 46 := Or.inl ⟨(-1), ⟨by decide +kernel, rfl⟩, by decide⟩
theorem d_X4_reread_46 : Di M_X4_reread 46 .ne 75 49 := ⟨29, by decide +kernel, by decide, rfl⟩
theorem d_X4_reread_49 : Dc M_X4_reread 49 (.aload_n 0) 1 50 := ⟨by decide +kernel, rfl⟩
theorem d_X4_reread_50 : Dc M_X4_reread 50 (.aload_n 0) 1 51 := ⟨by decide +kernel, rfl⟩
theorem d_X4_reread_51 : GF M_X4_reread 51 4 0 54 := ⟨11, ⟨by decide +kernel, rfl⟩, fl_X4_11⟩
theorem d_X4_reread_54 : Dc M_X4_reread 54 (.iload_n 1) 1 55 := ⟨by decide +kernel, rfl⟩
theorem d_X4_reread_55 : CS M_X4_reread 55 M_X8_item 2 58 := ⟨48, ⟨by decide +kernel, rfl⟩, Or.inr (inT (List.mem_append_right _ (List.mem_append_left _ (List.mem_of_getElem? (l := tables_1_2) (i := 11) (by decide +kernel))))), mf_X8_item, ms_X8_item, ⟨by decide, by decide⟩⟩
theorem d_X4_reread_58 : CV M_X4_reread 58 M_X4_goesOnWith 1 61 := ⟨52, ⟨by decide +kernel, rfl⟩, Or.inl (inT (List.mem_append_right _ (List.mem_append_left _ (List.mem_of_getElem? (l := tables_1_2) (i := 14) (by decide +kernel))))), mf_X4_goesOnWith, mi_X4_goesOnWith, ⟨by decide, by decide⟩⟩
theorem d_X4_reread_61 : Db M_X4_reread 61 .ne 69 64 := ⟨8, by decide +kernel, by decide, rfl⟩
theorem d_X4_reread_64 : Dc M_X4_reread 64 (.aload_n 0) 1 65 := ⟨by decide +kernel, rfl⟩
theorem d_X4_reread_65 : Dc M_X4_reread 65 (.iload_n 1) 1 66 := ⟨by decide +kernel, rfl⟩
theorem d_X4_reread_66 : PF M_X4_reread 66 4 5 69 := ⟨28, ⟨by decide +kernel, rfl⟩, ⟨by decide, by decide⟩, inT (List.mem_append_left _ (List.mem_of_getElem? (l := tables_1_1) (i := 60) (by decide +kernel)))⟩
theorem d_X4_reread_69 : Dc M_X4_reread 69 (.iinc 1 1) 3 72 := ⟨by decide +kernel, rfl⟩
theorem d_X4_reread_72 : Dg M_X4_reread 72 33 := ⟨(-39), by decide +kernel, by decide⟩
theorem d_X4_reread_75 : Dc M_X4_reread 75 (.aload_n 0) 1 76 := ⟨by decide +kernel, rfl⟩
theorem d_X4_reread_76 : GF M_X4_reread 76 4 5 79 := ⟨28, ⟨by decide +kernel, rfl⟩, fl_X4_28⟩
theorem d_X4_reread_79 : KI M_X4_reread 79 (-1 : Int32) 80 := Or.inl ⟨(-1), ⟨by decide +kernel, rfl⟩, by decide⟩
theorem d_X4_reread_80 : Di M_X4_reread 80 .ne 105 83 := ⟨25, by decide +kernel, by decide, rfl⟩
theorem d_X4_reread_83 : Dc M_X4_reread 83 (.aload_n 0) 1 84 := ⟨by decide +kernel, rfl⟩
theorem d_X4_reread_84 : GF M_X4_reread 84 4 3 87 := ⟨21, ⟨by decide +kernel, rfl⟩, fl_X4_21⟩
theorem d_X4_reread_87 : Db M_X4_reread 87 .le 105 90 := ⟨18, by decide +kernel, by decide, rfl⟩
theorem d_X4_reread_90 : Dc M_X4_reread 90 (.aload_n 0) 1 91 := ⟨by decide +kernel, rfl⟩
theorem d_X4_reread_91 : GF M_X4_reread 91 4 7 94 := ⟨34, ⟨by decide +kernel, rfl⟩, fl_X4_34⟩
theorem d_X4_reread_94 : Db M_X4_reread 94 .ne 105 97 := ⟨11, by decide +kernel, by decide, rfl⟩
theorem d_X4_reread_97 : Dc M_X4_reread 97 (.aload_n 0) 1 98 := ⟨by decide +kernel, rfl⟩
theorem d_X4_reread_98 : Dc M_X4_reread 98 (.aload_n 0) 1 99 := ⟨by decide +kernel, rfl⟩
theorem d_X4_reread_99 : GF M_X4_reread 99 4 3 102 := ⟨21, ⟨by decide +kernel, rfl⟩, fl_X4_21⟩
theorem d_X4_reread_102 : PF M_X4_reread 102 4 5 105 := ⟨28, ⟨by decide +kernel, rfl⟩, ⟨by decide, by decide⟩, inT (List.mem_append_left _ (List.mem_of_getElem? (l := tables_1_1) (i := 60) (by decide +kernel)))⟩
theorem d_X4_reread_105 : Dc M_X4_reread 105 (.aload_n 0) 1 106 := ⟨by decide +kernel, rfl⟩
theorem d_X4_reread_106 : Dc M_X4_reread 106 (.aload_n 0) 1 107 := ⟨by decide +kernel, rfl⟩
theorem d_X4_reread_107 : GF M_X4_reread 107 4 5 110 := ⟨28, ⟨by decide +kernel, rfl⟩, fl_X4_28⟩
theorem d_X4_reread_110 : KI M_X4_reread 110 (-1 : Int32) 111 := Or.inl ⟨(-1), ⟨by decide +kernel, rfl⟩, by decide⟩
theorem d_X4_reread_111 : Di M_X4_reread 111 .ne 121 114 := ⟨10, by decide +kernel, by decide, rfl⟩
theorem d_X4_reread_114 : Dc M_X4_reread 114 (.aload_n 0) 1 115 := ⟨by decide +kernel, rfl⟩
theorem d_X4_reread_115 : GF M_X4_reread 115 4 3 118 := ⟨21, ⟨by decide +kernel, rfl⟩, fl_X4_21⟩
theorem d_X4_reread_118 : Db M_X4_reread 118 .ne 125 121 := ⟨7, by decide +kernel, by decide, rfl⟩
theorem d_X4_reread_121 : KI M_X4_reread 121 (nI 0) 122 := Or.inl ⟨0, ⟨by decide +kernel, rfl⟩, by decide⟩
theorem d_X4_reread_122 : Dg M_X4_reread 122 131 := ⟨9, by decide +kernel, by decide⟩
theorem d_X4_reread_125 : Dc M_X4_reread 125 (.aload_n 0) 1 126 := ⟨by decide +kernel, rfl⟩
theorem d_X4_reread_126 : GF M_X4_reread 126 4 6 129 := ⟨31, ⟨by decide +kernel, rfl⟩, fl_X4_31⟩
theorem d_X4_reread_129 : KI M_X4_reread 129 (nI 1) 130 := Or.inl ⟨1, ⟨by decide +kernel, rfl⟩, by decide⟩
theorem d_X4_reread_130 : Dc M_X4_reread 130 (.iadd) 1 131 := ⟨by decide +kernel, rfl⟩
theorem d_X4_reread_131 : PF M_X4_reread 131 4 4 134 := ⟨25, ⟨by decide +kernel, rfl⟩, ⟨by decide, by decide⟩, inT (List.mem_append_left _ (List.mem_of_getElem? (l := tables_1_1) (i := 56) (by decide +kernel)))⟩
theorem d_X4_reread_134 : Dc M_X4_reread 134 (.return_) 1 135 := ⟨by decide +kernel, rfl⟩
theorem d_X4_goesOnWith_0 : Dc M_X4_goesOnWith 0 (.iload_n 1) 1 1 := ⟨by decide +kernel, rfl⟩
theorem d_X4_goesOnWith_1 : KI M_X4_goesOnWith 1 (nI 59) 3 := Or.inr (Or.inl ⟨59, ⟨by decide +kernel, rfl⟩, by decide⟩)
theorem d_X4_goesOnWith_3 : Di M_X4_goesOnWith 3 .ne 30 6 := ⟨27, by decide +kernel, by decide, rfl⟩
theorem d_X4_goesOnWith_6 : Dc M_X4_goesOnWith 6 (.aload_n 0) 1 7 := ⟨by decide +kernel, rfl⟩
theorem d_X4_goesOnWith_7 : GF M_X4_goesOnWith 7 4 7 10 := ⟨34, ⟨by decide +kernel, rfl⟩, fl_X4_34⟩
theorem d_X4_goesOnWith_10 : Db M_X4_goesOnWith 10 .eq 30 13 := ⟨20, by decide +kernel, by decide, rfl⟩
theorem d_X4_goesOnWith_13 : Dc M_X4_goesOnWith 13 (.aload_n 0) 1 14 := ⟨by decide +kernel, rfl⟩
theorem d_X4_goesOnWith_14 : Dc M_X4_goesOnWith 14 (.dup) 1 15 := ⟨by decide +kernel, rfl⟩
theorem d_X4_goesOnWith_15 : GF M_X4_goesOnWith 15 4 6 18 := ⟨31, ⟨by decide +kernel, rfl⟩, fl_X4_31⟩
theorem d_X4_goesOnWith_18 : KI M_X4_goesOnWith 18 (nI 1) 19 := Or.inl ⟨1, ⟨by decide +kernel, rfl⟩, by decide⟩
theorem d_X4_goesOnWith_19 : Dc M_X4_goesOnWith 19 (.iadd) 1 20 := ⟨by decide +kernel, rfl⟩
theorem d_X4_goesOnWith_20 : PF M_X4_goesOnWith 20 4 6 23 := ⟨31, ⟨by decide +kernel, rfl⟩, ⟨by decide, by decide⟩, inT (List.mem_append_left _ (List.mem_of_getElem? (l := tables_1_1) (i := 62) (by decide +kernel)))⟩
theorem d_X4_goesOnWith_23 : Dc M_X4_goesOnWith 23 (.aload_n 0) 1 24 := ⟨by decide +kernel, rfl⟩
theorem d_X4_goesOnWith_24 : KI M_X4_goesOnWith 24 (nI 0) 25 := Or.inl ⟨0, ⟨by decide +kernel, rfl⟩, by decide⟩
theorem d_X4_goesOnWith_25 : PF M_X4_goesOnWith 25 4 7 28 := ⟨34, ⟨by decide +kernel, rfl⟩, ⟨by decide, by decide⟩, inT (List.mem_append_left _ (List.mem_of_getElem? (l := tables_1_1) (i := 63) (by decide +kernel)))⟩
theorem d_X4_goesOnWith_28 : KI M_X4_goesOnWith 28 (nI 1) 29 := Or.inl ⟨1, ⟨by decide +kernel, rfl⟩, by decide⟩
theorem d_X4_goesOnWith_29 : Dc M_X4_goesOnWith 29 (.ireturn) 1 30 := ⟨by decide +kernel, rfl⟩
theorem d_X4_goesOnWith_30 : Dc M_X4_goesOnWith 30 (.iload_n 1) 1 31 := ⟨by decide +kernel, rfl⟩
theorem d_X4_goesOnWith_31 : KI M_X4_goesOnWith 31 (nI 48) 33 := Or.inr (Or.inl ⟨48, ⟨by decide +kernel, rfl⟩, by decide⟩)
theorem d_X4_goesOnWith_33 : Dc M_X4_goesOnWith 33 (.isub) 1 34 := ⟨by decide +kernel, rfl⟩
theorem d_X4_goesOnWith_34 : Dc M_X4_goesOnWith 34 (.istore_n 2) 1 35 := ⟨by decide +kernel, rfl⟩
theorem d_X4_goesOnWith_35 : Dc M_X4_goesOnWith 35 (.aload_n 0) 1 36 := ⟨by decide +kernel, rfl⟩
theorem d_X4_goesOnWith_36 : GF M_X4_goesOnWith 36 4 6 39 := ⟨31, ⟨by decide +kernel, rfl⟩, fl_X4_31⟩
theorem d_X4_goesOnWith_39 : KI M_X4_goesOnWith 39 (nI 8) 41 := Or.inr (Or.inl ⟨8, ⟨by decide +kernel, rfl⟩, by decide⟩)
theorem d_X4_goesOnWith_41 : Di M_X4_goesOnWith 41 .ge 62 44 := ⟨21, by decide +kernel, by decide, rfl⟩
theorem d_X4_goesOnWith_44 : Dc M_X4_goesOnWith 44 (.iload_n 2) 1 45 := ⟨by decide +kernel, rfl⟩
theorem d_X4_goesOnWith_45 : CS M_X4_goesOnWith 45 M_X8_isShed 1 48 := ⟨56, ⟨by decide +kernel, rfl⟩, Or.inr (inT (List.mem_append_right _ (List.mem_append_left _ (List.mem_of_getElem? (l := tables_1_2) (i := 18) (by decide +kernel))))), mf_X8_isShed, ms_X8_isShed, ⟨by decide, by decide⟩⟩
theorem d_X4_goesOnWith_48 : Db M_X4_goesOnWith 48 .eq 62 51 := ⟨14, by decide +kernel, by decide, rfl⟩
theorem d_X4_goesOnWith_51 : Dc M_X4_goesOnWith 51 (.aload_n 0) 1 52 := ⟨by decide +kernel, rfl⟩
theorem d_X4_goesOnWith_52 : GF M_X4_goesOnWith 52 4 7 55 := ⟨34, ⟨by decide +kernel, rfl⟩, fl_X4_34⟩
theorem d_X4_goesOnWith_55 : Dc M_X4_goesOnWith 55 (.iload_n 2) 1 56 := ⟨by decide +kernel, rfl⟩
theorem d_X4_goesOnWith_56 : Dc M_X4_goesOnWith 56 (.ishr) 1 57 := ⟨by decide +kernel, rfl⟩
theorem d_X4_goesOnWith_57 : KI M_X4_goesOnWith 57 (nI 1) 58 := Or.inl ⟨1, ⟨by decide +kernel, rfl⟩, by decide⟩
theorem d_X4_goesOnWith_58 : Dc M_X4_goesOnWith 58 (.iand) 1 59 := ⟨by decide +kernel, rfl⟩
theorem d_X4_goesOnWith_59 : Db M_X4_goesOnWith 59 .eq 64 62 := ⟨5, by decide +kernel, by decide, rfl⟩
theorem d_X4_goesOnWith_62 : KI M_X4_goesOnWith 62 (nI 0) 63 := Or.inl ⟨0, ⟨by decide +kernel, rfl⟩, by decide⟩
theorem d_X4_goesOnWith_63 : Dc M_X4_goesOnWith 63 (.ireturn) 1 64 := ⟨by decide +kernel, rfl⟩
theorem d_X4_goesOnWith_64 : Dc M_X4_goesOnWith 64 (.aload_n 0) 1 65 := ⟨by decide +kernel, rfl⟩
theorem d_X4_goesOnWith_65 : Dc M_X4_goesOnWith 65 (.dup) 1 66 := ⟨by decide +kernel, rfl⟩
theorem d_X4_goesOnWith_66 : GF M_X4_goesOnWith 66 4 7 69 := ⟨34, ⟨by decide +kernel, rfl⟩, fl_X4_34⟩
theorem d_X4_goesOnWith_69 : KI M_X4_goesOnWith 69 (nI 1) 70 := Or.inl ⟨1, ⟨by decide +kernel, rfl⟩, by decide⟩
theorem d_X4_goesOnWith_70 : Dc M_X4_goesOnWith 70 (.iload_n 2) 1 71 := ⟨by decide +kernel, rfl⟩
theorem d_X4_goesOnWith_71 : Dc M_X4_goesOnWith 71 (.ishl) 1 72 := ⟨by decide +kernel, rfl⟩
theorem d_X4_goesOnWith_72 : Dc M_X4_goesOnWith 72 (.ior) 1 73 := ⟨by decide +kernel, rfl⟩
theorem d_X4_goesOnWith_73 : PF M_X4_goesOnWith 73 4 7 76 := ⟨34, ⟨by decide +kernel, rfl⟩, ⟨by decide, by decide⟩, inT (List.mem_append_left _ (List.mem_of_getElem? (l := tables_1_1) (i := 63) (by decide +kernel)))⟩
theorem d_X4_goesOnWith_76 : Dc M_X4_goesOnWith 76 (.aload_n 0) 1 77 := ⟨by decide +kernel, rfl⟩
theorem d_X4_goesOnWith_77 : GF M_X4_goesOnWith 77 4 2 80 := ⟨18, ⟨by decide +kernel, rfl⟩, fl_X4_18⟩
theorem d_X4_goesOnWith_80 : Dc M_X4_goesOnWith 80 (.aload_n 0) 1 81 := ⟨by decide +kernel, rfl⟩
theorem d_X4_goesOnWith_81 : GF M_X4_goesOnWith 81 4 6 84 := ⟨31, ⟨by decide +kernel, rfl⟩, fl_X4_31⟩
theorem d_X4_goesOnWith_84 : CS M_X4_goesOnWith 84 M_X8_item 2 87 := ⟨48, ⟨by decide +kernel, rfl⟩, Or.inr (inT (List.mem_append_right _ (List.mem_append_left _ (List.mem_of_getElem? (l := tables_1_2) (i := 11) (by decide +kernel))))), mf_X8_item, ms_X8_item, ⟨by decide, by decide⟩⟩
theorem d_X4_goesOnWith_87 : Dc M_X4_goesOnWith 87 (.istore_n 3) 1 88 := ⟨by decide +kernel, rfl⟩
theorem d_X4_goesOnWith_88 : Dc M_X4_goesOnWith 88 (.aload_n 0) 1 89 := ⟨by decide +kernel, rfl⟩
theorem d_X4_goesOnWith_89 : GF M_X4_goesOnWith 89 4 1 92 := ⟨15, ⟨by decide +kernel, rfl⟩, fl_X4_15⟩
theorem d_X4_goesOnWith_92 : Dc M_X4_goesOnWith 92 (.aload_n 0) 1 93 := ⟨by decide +kernel, rfl⟩
theorem d_X4_goesOnWith_93 : GF M_X4_goesOnWith 93 4 6 96 := ⟨31, ⟨by decide +kernel, rfl⟩, fl_X4_31⟩
theorem d_X4_goesOnWith_96 : KI M_X4_goesOnWith 96 (nI 6) 98 := Or.inr (Or.inl ⟨6, ⟨by decide +kernel, rfl⟩, by decide⟩)
theorem d_X4_goesOnWith_98 : Dc M_X4_goesOnWith 98 (.imul) 1 99 := ⟨by decide +kernel, rfl⟩
theorem d_X4_goesOnWith_99 : Dc M_X4_goesOnWith 99 (.iload_n 3) 1 100 := ⟨by decide +kernel, rfl⟩
theorem d_X4_goesOnWith_100 : Dc M_X4_goesOnWith 100 (.iadd) 1 101 := ⟨by decide +kernel, rfl⟩
theorem d_X4_goesOnWith_101 : Dc M_X4_goesOnWith 101 (.iload_n 2) 1 102 := ⟨by decide +kernel, rfl⟩
theorem d_X4_goesOnWith_102 : CS M_X4_goesOnWith 102 M_X8_keep 3 105 := ⟨37, ⟨by decide +kernel, rfl⟩, Or.inr (inT (List.mem_append_right _ (List.mem_append_left _ (List.mem_of_getElem? (l := tables_1_2) (i := 1) (by decide +kernel))))), mf_X8_keep, ms_X8_keep, ⟨by decide, by decide⟩⟩
theorem d_X4_goesOnWith_105 : Dc M_X4_goesOnWith 105 (.aload_n 0) 1 106 := ⟨by decide +kernel, rfl⟩
theorem d_X4_goesOnWith_106 : GF M_X4_goesOnWith 106 4 2 109 := ⟨18, ⟨by decide +kernel, rfl⟩, fl_X4_18⟩
theorem d_X4_goesOnWith_109 : Dc M_X4_goesOnWith 109 (.aload_n 0) 1 110 := ⟨by decide +kernel, rfl⟩
theorem d_X4_goesOnWith_110 : GF M_X4_goesOnWith 110 4 6 113 := ⟨31, ⟨by decide +kernel, rfl⟩, fl_X4_31⟩
theorem d_X4_goesOnWith_113 : Dc M_X4_goesOnWith 113 (.iload_n 3) 1 114 := ⟨by decide +kernel, rfl⟩
theorem d_X4_goesOnWith_114 : KI M_X4_goesOnWith 114 (nI 1) 115 := Or.inl ⟨1, ⟨by decide +kernel, rfl⟩, by decide⟩
theorem d_X4_goesOnWith_115 : Dc M_X4_goesOnWith 115 (.iadd) 1 116 := ⟨by decide +kernel, rfl⟩
theorem d_X4_goesOnWith_116 : CS M_X4_goesOnWith 116 M_X8_keep 3 119 := ⟨37, ⟨by decide +kernel, rfl⟩, Or.inr (inT (List.mem_append_right _ (List.mem_append_left _ (List.mem_of_getElem? (l := tables_1_2) (i := 1) (by decide +kernel))))), mf_X8_keep, ms_X8_keep, ⟨by decide, by decide⟩⟩
theorem d_X4_goesOnWith_119 : KI M_X4_goesOnWith 119 (nI 1) 120 := Or.inl ⟨1, ⟨by decide +kernel, rfl⟩, by decide⟩
theorem d_X4_goesOnWith_120 : Dc M_X4_goesOnWith 120 (.ireturn) 1 121 := ⟨by decide +kernel, rfl⟩
theorem d_X4_isTold_0 : Dc M_X4_isTold 0 (.iload_n 1) 1 1 := ⟨by decide +kernel, rfl⟩
theorem d_X4_isTold_1 : Db M_X4_isTold 1 .lt 16 4 := ⟨15, by decide +kernel, by decide, rfl⟩
theorem d_X4_isTold_4 : Dc M_X4_isTold 4 (.iload_n 1) 1 5 := ⟨by decide +kernel, rfl⟩
theorem d_X4_isTold_5 : Dc M_X4_isTold 5 (.aload_n 0) 1 6 := ⟨by decide +kernel, rfl⟩
theorem d_X4_isTold_6 : GF M_X4_isTold 6 4 4 9 := ⟨25, ⟨by decide +kernel, rfl⟩, fl_X4_25⟩
theorem d_X4_isTold_9 : Di M_X4_isTold 9 .ge 16 12 := ⟨7, by decide +kernel, by decide, rfl⟩
theorem d_X4_isTold_12 : KI M_X4_isTold 12 (nI 1) 13 := Or.inl ⟨1, ⟨by decide +kernel, rfl⟩, by decide⟩
theorem d_X4_isTold_13 : Dg M_X4_isTold 13 17 := ⟨4, by decide +kernel, by decide⟩
theorem d_X4_isTold_16 : KI M_X4_isTold 16 (nI 0) 17 := Or.inl ⟨0, ⟨by decide +kernel, rfl⟩, by decide⟩
theorem d_X4_isTold_17 : Dc M_X4_isTold 17 (.ireturn) 1 18 := ⟨by decide +kernel, rfl⟩
theorem d_X4_lengthOf_0 : Dc M_X4_lengthOf 0 (.iload_n 1) 1 1 := ⟨by decide +kernel, rfl⟩
theorem d_X4_lengthOf_1 : Db M_X4_lengthOf 1 .lt 30 4 := ⟨29, by decide +kernel, by decide, rfl⟩
theorem d_X4_lengthOf_4 : Dc M_X4_lengthOf 4 (.iload_n 1) 1 5 := ⟨by decide +kernel, rfl⟩
theorem d_X4_lengthOf_5 : Dc M_X4_lengthOf 5 (.aload_n 0) 1 6 := ⟨by decide +kernel, rfl⟩
theorem d_X4_lengthOf_6 : GF M_X4_lengthOf 6 4 4 9 := ⟨25, ⟨by decide +kernel, rfl⟩, fl_X4_25⟩
theorem d_X4_lengthOf_9 : Di M_X4_lengthOf 9 .ge 30 12 := ⟨21, by decide +kernel, by decide, rfl⟩
theorem d_X4_lengthOf_12 : Dc M_X4_lengthOf 12 (.iload_n 1) 1 13 := ⟨by decide +kernel, rfl⟩
theorem d_X4_lengthOf_13 : Dc M_X4_lengthOf 13 (.aload_n 0) 1 14 := ⟨by decide +kernel, rfl⟩
theorem d_X4_lengthOf_14 : GF M_X4_lengthOf 14 4 2 17 := ⟨18, ⟨by decide +kernel, rfl⟩, fl_X4_18⟩
theorem d_X4_lengthOf_17 : Dc M_X4_lengthOf 17 (.arraylength) 1 18 := ⟨by decide +kernel, rfl⟩
theorem d_X4_lengthOf_18 : Di M_X4_lengthOf 18 .ge 30 21 := ⟨12, by decide +kernel, by decide, rfl⟩
theorem d_X4_lengthOf_21 : Dc M_X4_lengthOf 21 (.aload_n 0) 1 22 := ⟨by decide +kernel, rfl⟩
theorem d_X4_lengthOf_22 : GF M_X4_lengthOf 22 4 2 25 := ⟨18, ⟨by decide +kernel, rfl⟩, fl_X4_18⟩
theorem d_X4_lengthOf_25 : Dc M_X4_lengthOf 25 (.iload_n 1) 1 26 := ⟨by decide +kernel, rfl⟩
theorem d_X4_lengthOf_26 : Dc M_X4_lengthOf 26 (.iaload) 1 27 := ⟨by decide +kernel, rfl⟩
theorem d_X4_lengthOf_27 : Dg M_X4_lengthOf 27 31 := ⟨4, by decide +kernel, by decide⟩
theorem d_X4_lengthOf_30 : KI M_X4_lengthOf 30 (nI 0) 31 := Or.inl ⟨0, ⟨by decide +kernel, rfl⟩, by decide⟩
theorem d_X4_lengthOf_31 : Dc M_X4_lengthOf 31 (.ireturn) 1 32 := ⟨by decide +kernel, rfl⟩
theorem d_X4_shedOf_0 : Dc M_X4_shedOf 0 (.iload_n 1) 1 1 := ⟨by decide +kernel, rfl⟩
theorem d_X4_shedOf_1 : Db M_X4_shedOf 1 .lt 26 4 := ⟨25, by decide +kernel, by decide, rfl⟩
theorem d_X4_shedOf_4 : Dc M_X4_shedOf 4 (.iload_n 1) 1 5 := ⟨by decide +kernel, rfl⟩
theorem d_X4_shedOf_5 : Dc M_X4_shedOf 5 (.aload_n 0) 1 6 := ⟨by decide +kernel, rfl⟩
theorem d_X4_shedOf_6 : GF M_X4_shedOf 6 4 4 9 := ⟨25, ⟨by decide +kernel, rfl⟩, fl_X4_25⟩
theorem d_X4_shedOf_9 : Di M_X4_shedOf 9 .ge 26 12 := ⟨17, by decide +kernel, by decide, rfl⟩
theorem d_X4_shedOf_12 : Dc M_X4_shedOf 12 (.iload_n 2) 1 13 := ⟨by decide +kernel, rfl⟩
theorem d_X4_shedOf_13 : Db M_X4_shedOf 13 .lt 26 16 := ⟨13, by decide +kernel, by decide, rfl⟩
theorem d_X4_shedOf_16 : Dc M_X4_shedOf 16 (.iload_n 2) 1 17 := ⟨by decide +kernel, rfl⟩
theorem d_X4_shedOf_17 : KI M_X4_shedOf 17 (nI 6) 19 := Or.inr (Or.inl ⟨6, ⟨by decide +kernel, rfl⟩, by decide⟩)
theorem d_X4_shedOf_19 : Di M_X4_shedOf 19 .ge 26 22 := ⟨7, by decide +kernel, by decide, rfl⟩
theorem d_X4_shedOf_22 : KI M_X4_shedOf 22 (nI 1) 23 := Or.inl ⟨1, ⟨by decide +kernel, rfl⟩, by decide⟩
theorem d_X4_shedOf_23 : Dg M_X4_shedOf 23 27 := ⟨4, by decide +kernel, by decide⟩
theorem d_X4_shedOf_26 : KI M_X4_shedOf 26 (nI 0) 27 := Or.inl ⟨0, ⟨by decide +kernel, rfl⟩, by decide⟩
theorem d_X4_shedOf_27 : Dc M_X4_shedOf 27 (.istore_n 3) 1 28 := ⟨by decide +kernel, rfl⟩
theorem d_X4_shedOf_28 : Dc M_X4_shedOf 28 (.iload_n 3) 1 29 := ⟨by decide +kernel, rfl⟩
theorem d_X4_shedOf_29 : Db M_X4_shedOf 29 .eq 41 32 := ⟨12, by decide +kernel, by decide, rfl⟩
theorem d_X4_shedOf_32 : Dc M_X4_shedOf 32 (.iload_n 1) 1 33 := ⟨by decide +kernel, rfl⟩
theorem d_X4_shedOf_33 : KI M_X4_shedOf 33 (nI 6) 35 := Or.inr (Or.inl ⟨6, ⟨by decide +kernel, rfl⟩, by decide⟩)
theorem d_X4_shedOf_35 : Dc M_X4_shedOf 35 (.imul) 1 36 := ⟨by decide +kernel, rfl⟩
theorem d_X4_shedOf_36 : Dc M_X4_shedOf 36 (.iload_n 2) 1 37 := ⟨by decide +kernel, rfl⟩
theorem d_X4_shedOf_37 : Dc M_X4_shedOf 37 (.iadd) 1 38 := ⟨by decide +kernel, rfl⟩
theorem d_X4_shedOf_38 : Dg M_X4_shedOf 38 42 := ⟨4, by decide +kernel, by decide⟩
theorem d_X4_shedOf_41 : KI M_X4_shedOf 41 (-1 : Int32) 42 := Or.inl ⟨(-1), ⟨by decide +kernel, rfl⟩, by decide⟩
theorem d_X4_shedOf_42 : Dc M_X4_shedOf 42 (.istore 4) 2 44 := ⟨by decide +kernel, rfl⟩
theorem d_X4_shedOf_44 : Dc M_X4_shedOf 44 (.iload 4) 2 46 := ⟨by decide +kernel, rfl⟩
theorem d_X4_shedOf_46 : Db M_X4_shedOf 46 .lt 69 49 := ⟨23, by decide +kernel, by decide, rfl⟩
theorem d_X4_shedOf_49 : Dc M_X4_shedOf 49 (.iload 4) 2 51 := ⟨by decide +kernel, rfl⟩
theorem d_X4_shedOf_51 : Dc M_X4_shedOf 51 (.aload_n 0) 1 52 := ⟨by decide +kernel, rfl⟩
theorem d_X4_shedOf_52 : GF M_X4_shedOf 52 4 1 55 := ⟨15, ⟨by decide +kernel, rfl⟩, fl_X4_15⟩
theorem d_X4_shedOf_55 : Dc M_X4_shedOf 55 (.arraylength) 1 56 := ⟨by decide +kernel, rfl⟩
theorem d_X4_shedOf_56 : Di M_X4_shedOf 56 .ge 69 59 := ⟨13, by decide +kernel, by decide, rfl⟩
theorem d_X4_shedOf_59 : Dc M_X4_shedOf 59 (.aload_n 0) 1 60 := ⟨by decide +kernel, rfl⟩
theorem d_X4_shedOf_60 : GF M_X4_shedOf 60 4 1 63 := ⟨15, ⟨by decide +kernel, rfl⟩, fl_X4_15⟩
theorem d_X4_shedOf_63 : Dc M_X4_shedOf 63 (.iload 4) 2 65 := ⟨by decide +kernel, rfl⟩
theorem d_X4_shedOf_65 : Dc M_X4_shedOf 65 (.iaload) 1 66 := ⟨by decide +kernel, rfl⟩
theorem d_X4_shedOf_66 : Dg M_X4_shedOf 66 70 := ⟨4, by decide +kernel, by decide⟩
theorem d_X4_shedOf_69 : KI M_X4_shedOf 69 (-1 : Int32) 70 := Or.inl ⟨(-1), ⟨by decide +kernel, rfl⟩, by decide⟩
theorem d_X4_shedOf_70 : Dc M_X4_shedOf 70 (.ireturn) 1 71 := ⟨by decide +kernel, rfl⟩
theorem d_X4_same_0 : KI M_X4_same 0 (nI 0) 1 := Or.inl ⟨0, ⟨by decide +kernel, rfl⟩, by decide⟩
theorem d_X4_same_1 : Dc M_X4_same 1 (.istore_n 3) 1 2 := ⟨by decide +kernel, rfl⟩
theorem d_X4_same_2 : Dc M_X4_same 2 (.iload_n 3) 1 3 := ⟨by decide +kernel, rfl⟩
theorem d_X4_same_3 : KI M_X4_same 3 (nI 6) 5 := Or.inr (Or.inl ⟨6, ⟨by decide +kernel, rfl⟩, by decide⟩)
theorem d_X4_same_5 : Di M_X4_same 5 .ge 31 8 := ⟨26, by decide +kernel, by decide, rfl⟩
theorem d_X4_same_8 : Dc M_X4_same 8 (.aload_n 0) 1 9 := ⟨by decide +kernel, rfl⟩
theorem d_X4_same_9 : Dc M_X4_same 9 (.iload_n 1) 1 10 := ⟨by decide +kernel, rfl⟩
theorem d_X4_same_10 : Dc M_X4_same 10 (.iload_n 3) 1 11 := ⟨by decide +kernel, rfl⟩
theorem d_X4_same_11 : CV M_X4_same 11 M_X4_shedOf 2 14 := ⟨59, ⟨by decide +kernel, rfl⟩, Or.inl (inT (List.mem_append_right _ (List.mem_append_right _ (List.mem_append_left _ (List.mem_of_getElem? (l := tables_1_3) (i := 88) (by decide +kernel)))))), mf_X4_shedOf, mi_X4_shedOf, ⟨by decide, by decide⟩⟩
theorem d_X4_same_14 : Dc M_X4_same 14 (.aload_n 0) 1 15 := ⟨by decide +kernel, rfl⟩
theorem d_X4_same_15 : Dc M_X4_same 15 (.iload_n 2) 1 16 := ⟨by decide +kernel, rfl⟩
theorem d_X4_same_16 : Dc M_X4_same 16 (.iload_n 3) 1 17 := ⟨by decide +kernel, rfl⟩
theorem d_X4_same_17 : CV M_X4_same 17 M_X4_shedOf 2 20 := ⟨59, ⟨by decide +kernel, rfl⟩, Or.inl (inT (List.mem_append_right _ (List.mem_append_right _ (List.mem_append_left _ (List.mem_of_getElem? (l := tables_1_3) (i := 88) (by decide +kernel)))))), mf_X4_shedOf, mi_X4_shedOf, ⟨by decide, by decide⟩⟩
theorem d_X4_same_20 : Di M_X4_same 20 .eq 25 23 := ⟨5, by decide +kernel, by decide, rfl⟩
theorem d_X4_same_23 : KI M_X4_same 23 (nI 0) 24 := Or.inl ⟨0, ⟨by decide +kernel, rfl⟩, by decide⟩
theorem d_X4_same_24 : Dc M_X4_same 24 (.ireturn) 1 25 := ⟨by decide +kernel, rfl⟩
theorem d_X4_same_25 : Dc M_X4_same 25 (.iinc 3 1) 3 28 := ⟨by decide +kernel, rfl⟩
theorem d_X4_same_28 : Dg M_X4_same 28 2 := ⟨(-26), by decide +kernel, by decide⟩
theorem d_X4_same_31 : KI M_X4_same 31 (nI 1) 32 := Or.inl ⟨1, ⟨by decide +kernel, rfl⟩, by decide⟩
theorem d_X4_same_32 : Dc M_X4_same 32 (.ireturn) 1 33 := ⟨by decide +kernel, rfl⟩
