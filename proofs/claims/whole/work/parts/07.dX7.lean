theorem d_X7_init_0 : Dc M_X7_init 0 (.aload_n 0) 1 1 := ⟨by decide +kernel, rfl⟩
theorem d_X7_init_1 : OI M_X7_init 1 4 := ⟨3, ⟨by decide +kernel, rfl⟩, inT (List.mem_append_left _ (List.mem_of_getElem? (l := tables_1_1) (i := 86) (by decide +kernel)))⟩
theorem d_X7_init_4 : Dc M_X7_init 4 (.aload_n 0) 1 5 := ⟨by decide +kernel, rfl⟩
theorem d_X7_init_5 : Dc M_X7_init 5 (.aload_n 1) 1 6 := ⟨by decide +kernel, rfl⟩
theorem d_X7_init_6 : PF M_X7_init 6 7 0 9 := ⟨9, ⟨by decide +kernel, rfl⟩, ⟨by decide, by decide⟩, inT (List.mem_append_left _ (List.mem_of_getElem? (l := tables_1_1) (i := 87) (by decide +kernel)))⟩
theorem d_X7_init_9 : Dc M_X7_init 9 (.aload_n 0) 1 10 := ⟨by decide +kernel, rfl⟩
theorem d_X7_init_10 : Dc M_X7_init 10 (.aload_n 2) 1 11 := ⟨by decide +kernel, rfl⟩
theorem d_X7_init_11 : PF M_X7_init 11 7 1 14 := ⟨15, ⟨by decide +kernel, rfl⟩, ⟨by decide, by decide⟩, inT (List.mem_append_left _ (List.mem_of_getElem? (l := tables_1_1) (i := 88) (by decide +kernel)))⟩
theorem d_X7_init_14 : Dc M_X7_init 14 (.return_) 1 15 := ⟨by decide +kernel, rfl⟩
theorem d_X7_shedIn_0 : KI M_X7_shedIn 0 (nI 0) 1 := Or.inl ⟨0, ⟨by decide +kernel, rfl⟩, by decide⟩
theorem d_X7_shedIn_1 : Dc M_X7_shedIn 1 (.istore_n 3) 1 2 := ⟨by decide +kernel, rfl⟩
theorem d_X7_shedIn_2 : KI M_X7_shedIn 2 (nI 0) 3 := Or.inl ⟨0, ⟨by decide +kernel, rfl⟩, by decide⟩
theorem d_X7_shedIn_3 : Dc M_X7_shedIn 3 (.istore 4) 2 5 := ⟨by decide +kernel, rfl⟩
theorem d_X7_shedIn_5 : Dc M_X7_shedIn 5 (.iload 4) 2 7 := ⟨by decide +kernel, rfl⟩
theorem d_X7_shedIn_7 : Dc M_X7_shedIn 7 (.aload_n 0) 1 8 := ⟨by decide +kernel, rfl⟩
theorem d_X7_shedIn_8 : GF M_X7_shedIn 8 7 1 11 := ⟨15, ⟨by decide +kernel, rfl⟩, fl_X7_15⟩
theorem d_X7_shedIn_11 : Dc M_X7_shedIn 11 (.iload_n 1) 1 12 := ⟨by decide +kernel, rfl⟩
theorem d_X7_shedIn_12 : CV M_X7_shedIn 12 M_X4_lengthOf 1 15 := ⟨19, ⟨by decide +kernel, rfl⟩, Or.inr (inT (List.mem_append_right _ (List.mem_append_left _ (List.mem_of_getElem? (l := tables_1_2) (i := 122) (by decide +kernel))))), mf_X4_lengthOf, mi_X4_lengthOf, ⟨by decide, by decide⟩⟩
theorem d_X7_shedIn_15 : Di M_X7_shedIn 15 .ge 94 18 := ⟨79, by decide +kernel, by decide, rfl⟩
theorem d_X7_shedIn_18 : Dc M_X7_shedIn 18 (.iload_n 2) 1 19 := ⟨by decide +kernel, rfl⟩
theorem d_X7_shedIn_19 : Dc M_X7_shedIn 19 (.iload_n 3) 1 20 := ⟨by decide +kernel, rfl⟩
theorem d_X7_shedIn_20 : Dc M_X7_shedIn 20 (.iload_n 3) 1 21 := ⟨by decide +kernel, rfl⟩
theorem d_X7_shedIn_21 : Dc M_X7_shedIn 21 (.aload_n 0) 1 22 := ⟨by decide +kernel, rfl⟩
theorem d_X7_shedIn_22 : GF M_X7_shedIn 22 7 0 25 := ⟨9, ⟨by decide +kernel, rfl⟩, fl_X7_9⟩
theorem d_X7_shedIn_25 : GF M_X7_shedIn 25 3 2 28 := ⟨25, ⟨by decide +kernel, rfl⟩, fl_X7_25⟩
theorem d_X7_shedIn_28 : Dc M_X7_shedIn 28 (.iadd) 1 29 := ⟨by decide +kernel, rfl⟩
theorem d_X7_shedIn_29 : KI M_X7_shedIn 29 (nI 1) 30 := Or.inl ⟨1, ⟨by decide +kernel, rfl⟩, by decide⟩
theorem d_X7_shedIn_30 : Dc M_X7_shedIn 30 (.isub) 1 31 := ⟨by decide +kernel, rfl⟩
theorem d_X7_shedIn_31 : CS M_X7_shedIn 31 M_X8_within 3 34 := ⟨31, ⟨by decide +kernel, rfl⟩, Or.inr (inT (List.mem_append_right _ (List.mem_append_left _ (List.mem_of_getElem? (l := tables_1_2) (i := 126) (by decide +kernel))))), mf_X8_within, ms_X8_within, ⟨by decide, by decide⟩⟩
theorem d_X7_shedIn_34 : Db M_X7_shedIn 34 .eq 48 37 := ⟨14, by decide +kernel, by decide, rfl⟩
theorem d_X7_shedIn_37 : Dc M_X7_shedIn 37 (.aload_n 0) 1 38 := ⟨by decide +kernel, rfl⟩
theorem d_X7_shedIn_38 : GF M_X7_shedIn 38 7 1 41 := ⟨15, ⟨by decide +kernel, rfl⟩, fl_X7_15⟩
theorem d_X7_shedIn_41 : Dc M_X7_shedIn 41 (.iload_n 1) 1 42 := ⟨by decide +kernel, rfl⟩
theorem d_X7_shedIn_42 : Dc M_X7_shedIn 42 (.iload 4) 2 44 := ⟨by decide +kernel, rfl⟩
theorem d_X7_shedIn_44 : CV M_X7_shedIn 44 M_X4_shedOf 2 47 := ⟨35, ⟨by decide +kernel, rfl⟩, Or.inr (inT (List.mem_append_right _ (List.mem_append_left _ (List.mem_of_getElem? (l := tables_1_2) (i := 127) (by decide +kernel))))), mf_X4_shedOf, mi_X4_shedOf, ⟨by decide, by decide⟩⟩
theorem d_X7_shedIn_47 : Dc M_X7_shedIn 47 (.ireturn) 1 48 := ⟨by decide +kernel, rfl⟩
theorem d_X7_shedIn_48 : Dc M_X7_shedIn 48 (.iload_n 3) 1 49 := ⟨by decide +kernel, rfl⟩
theorem d_X7_shedIn_49 : Dc M_X7_shedIn 49 (.aload_n 0) 1 50 := ⟨by decide +kernel, rfl⟩
theorem d_X7_shedIn_50 : GF M_X7_shedIn 50 7 0 53 := ⟨9, ⟨by decide +kernel, rfl⟩, fl_X7_9⟩
theorem d_X7_shedIn_53 : GF M_X7_shedIn 53 3 2 56 := ⟨25, ⟨by decide +kernel, rfl⟩, fl_X7_25⟩
theorem d_X7_shedIn_56 : Dc M_X7_shedIn 56 (.aload_n 0) 1 57 := ⟨by decide +kernel, rfl⟩
theorem d_X7_shedIn_57 : GF M_X7_shedIn 57 7 0 60 := ⟨9, ⟨by decide +kernel, rfl⟩, fl_X7_9⟩
theorem d_X7_shedIn_60 : Dc M_X7_shedIn 60 (.aload_n 0) 1 61 := ⟨by decide +kernel, rfl⟩
theorem d_X7_shedIn_61 : GF M_X7_shedIn 61 7 1 64 := ⟨15, ⟨by decide +kernel, rfl⟩, fl_X7_15⟩
theorem d_X7_shedIn_64 : Dc M_X7_shedIn 64 (.iload_n 1) 1 65 := ⟨by decide +kernel, rfl⟩
theorem d_X7_shedIn_65 : Dc M_X7_shedIn 65 (.iload 4) 2 67 := ⟨by decide +kernel, rfl⟩
theorem d_X7_shedIn_67 : CV M_X7_shedIn 67 M_X4_shedOf 2 70 := ⟨35, ⟨by decide +kernel, rfl⟩, Or.inr (inT (List.mem_append_right _ (List.mem_append_left _ (List.mem_of_getElem? (l := tables_1_2) (i := 127) (by decide +kernel))))), mf_X4_shedOf, mi_X4_shedOf, ⟨by decide, by decide⟩⟩
theorem d_X7_shedIn_70 : Dc M_X7_shedIn 70 (.aload_n 0) 1 71 := ⟨by decide +kernel, rfl⟩
theorem d_X7_shedIn_71 : GF M_X7_shedIn 71 7 1 74 := ⟨15, ⟨by decide +kernel, rfl⟩, fl_X7_15⟩
theorem d_X7_shedIn_74 : Dc M_X7_shedIn 74 (.iload_n 1) 1 75 := ⟨by decide +kernel, rfl⟩
theorem d_X7_shedIn_75 : Dc M_X7_shedIn 75 (.iload 4) 2 77 := ⟨by decide +kernel, rfl⟩
theorem d_X7_shedIn_77 : KI M_X7_shedIn 77 (nI 1) 78 := Or.inl ⟨1, ⟨by decide +kernel, rfl⟩, by decide⟩
theorem d_X7_shedIn_78 : Dc M_X7_shedIn 78 (.iadd) 1 79 := ⟨by decide +kernel, rfl⟩
theorem d_X7_shedIn_79 : CV M_X7_shedIn 79 M_X4_shedOf 2 82 := ⟨35, ⟨by decide +kernel, rfl⟩, Or.inr (inT (List.mem_append_right _ (List.mem_append_left _ (List.mem_of_getElem? (l := tables_1_2) (i := 127) (by decide +kernel))))), mf_X4_shedOf, mi_X4_shedOf, ⟨by decide, by decide⟩⟩
theorem d_X7_shedIn_82 : CV M_X7_shedIn 82 M_X3_wayOf 2 85 := ⟨39, ⟨by decide +kernel, rfl⟩, Or.inr (inT (List.mem_append_right _ (List.mem_append_left _ (List.mem_of_getElem? (l := tables_1_2) (i := 128) (by decide +kernel))))), mf_X3_wayOf, mi_X3_wayOf, ⟨by decide, by decide⟩⟩
theorem d_X7_shedIn_85 : Dc M_X7_shedIn 85 (.iadd) 1 86 := ⟨by decide +kernel, rfl⟩
theorem d_X7_shedIn_86 : Dc M_X7_shedIn 86 (.iadd) 1 87 := ⟨by decide +kernel, rfl⟩
theorem d_X7_shedIn_87 : Dc M_X7_shedIn 87 (.istore_n 3) 1 88 := ⟨by decide +kernel, rfl⟩
theorem d_X7_shedIn_88 : Dc M_X7_shedIn 88 (.iinc 4 1) 3 91 := ⟨by decide +kernel, rfl⟩
theorem d_X7_shedIn_91 : Dg M_X7_shedIn 91 5 := ⟨(-86), by decide +kernel, by decide⟩
theorem d_X7_shedIn_94 : KI M_X7_shedIn 94 (-1 : Int32) 95 := Or.inl ⟨(-1), ⟨by decide +kernel, rfl⟩, by decide⟩
theorem d_X7_shedIn_95 : Dc M_X7_shedIn 95 (.ireturn) 1 96 := ⟨by decide +kernel, rfl⟩
theorem d_X7_comesTo_0 : KI M_X7_comesTo 0 (nI 0) 1 := Or.inl ⟨0, ⟨by decide +kernel, rfl⟩, by decide⟩
theorem d_X7_comesTo_1 : Dc M_X7_comesTo 1 (.istore_n 3) 1 2 := ⟨by decide +kernel, rfl⟩
theorem d_X7_comesTo_2 : KI M_X7_comesTo 2 (nI 0) 3 := Or.inl ⟨0, ⟨by decide +kernel, rfl⟩, by decide⟩
theorem d_X7_comesTo_3 : Dc M_X7_comesTo 3 (.istore 4) 2 5 := ⟨by decide +kernel, rfl⟩
theorem d_X7_comesTo_5 : Dc M_X7_comesTo 5 (.iload 4) 2 7 := ⟨by decide +kernel, rfl⟩
theorem d_X7_comesTo_7 : Dc M_X7_comesTo 7 (.aload_n 0) 1 8 := ⟨by decide +kernel, rfl⟩
theorem d_X7_comesTo_8 : GF M_X7_comesTo 8 7 1 11 := ⟨15, ⟨by decide +kernel, rfl⟩, fl_X7_15⟩
theorem d_X7_comesTo_11 : Dc M_X7_comesTo 11 (.iload_n 1) 1 12 := ⟨by decide +kernel, rfl⟩
theorem d_X7_comesTo_12 : CV M_X7_comesTo 12 M_X4_lengthOf 1 15 := ⟨19, ⟨by decide +kernel, rfl⟩, Or.inr (inT (List.mem_append_right _ (List.mem_append_left _ (List.mem_of_getElem? (l := tables_1_2) (i := 122) (by decide +kernel))))), mf_X4_lengthOf, mi_X4_lengthOf, ⟨by decide, by decide⟩⟩
theorem d_X7_comesTo_15 : Di M_X7_comesTo 15 .ge 90 18 := ⟨75, by decide +kernel, by decide, rfl⟩
theorem d_X7_comesTo_18 : Dc M_X7_comesTo 18 (.aload_n 0) 1 19 := ⟨by decide +kernel, rfl⟩
theorem d_X7_comesTo_19 : GF M_X7_comesTo 19 7 1 22 := ⟨15, ⟨by decide +kernel, rfl⟩, fl_X7_15⟩
theorem d_X7_comesTo_22 : Dc M_X7_comesTo 22 (.iload_n 1) 1 23 := ⟨by decide +kernel, rfl⟩
theorem d_X7_comesTo_23 : Dc M_X7_comesTo 23 (.iload 4) 2 25 := ⟨by decide +kernel, rfl⟩
theorem d_X7_comesTo_25 : CV M_X7_comesTo 25 M_X4_shedOf 2 28 := ⟨35, ⟨by decide +kernel, rfl⟩, Or.inr (inT (List.mem_append_right _ (List.mem_append_left _ (List.mem_of_getElem? (l := tables_1_2) (i := 127) (by decide +kernel))))), mf_X4_shedOf, mi_X4_shedOf, ⟨by decide, by decide⟩⟩
theorem d_X7_comesTo_28 : Dc M_X7_comesTo 28 (.iload_n 2) 1 29 := ⟨by decide +kernel, rfl⟩
theorem d_X7_comesTo_29 : Di M_X7_comesTo 29 .ne 44 32 := ⟨15, by decide +kernel, by decide, rfl⟩
theorem d_X7_comesTo_32 : Dc M_X7_comesTo 32 (.iload_n 3) 1 33 := ⟨by decide +kernel, rfl⟩
theorem d_X7_comesTo_33 : KI M_X7_comesTo 33 (nI 60) 35 := Or.inr (Or.inl ⟨60, ⟨by decide +kernel, rfl⟩, by decide⟩)
theorem d_X7_comesTo_35 : Di M_X7_comesTo 35 .ge 42 38 := ⟨7, by decide +kernel, by decide, rfl⟩
theorem d_X7_comesTo_38 : Dc M_X7_comesTo 38 (.iload_n 3) 1 39 := ⟨by decide +kernel, rfl⟩
theorem d_X7_comesTo_39 : Dg M_X7_comesTo 39 43 := ⟨4, by decide +kernel, by decide⟩
theorem d_X7_comesTo_42 : KI M_X7_comesTo 42 (-1 : Int32) 43 := Or.inl ⟨(-1), ⟨by decide +kernel, rfl⟩, by decide⟩
theorem d_X7_comesTo_43 : Dc M_X7_comesTo 43 (.ireturn) 1 44 := ⟨by decide +kernel, rfl⟩
theorem d_X7_comesTo_44 : Dc M_X7_comesTo 44 (.iload_n 3) 1 45 := ⟨by decide +kernel, rfl⟩
theorem d_X7_comesTo_45 : Dc M_X7_comesTo 45 (.aload_n 0) 1 46 := ⟨by decide +kernel, rfl⟩
theorem d_X7_comesTo_46 : GF M_X7_comesTo 46 7 0 49 := ⟨9, ⟨by decide +kernel, rfl⟩, fl_X7_9⟩
theorem d_X7_comesTo_49 : GF M_X7_comesTo 49 3 2 52 := ⟨25, ⟨by decide +kernel, rfl⟩, fl_X7_25⟩
theorem d_X7_comesTo_52 : Dc M_X7_comesTo 52 (.aload_n 0) 1 53 := ⟨by decide +kernel, rfl⟩
theorem d_X7_comesTo_53 : GF M_X7_comesTo 53 7 0 56 := ⟨9, ⟨by decide +kernel, rfl⟩, fl_X7_9⟩
theorem d_X7_comesTo_56 : Dc M_X7_comesTo 56 (.aload_n 0) 1 57 := ⟨by decide +kernel, rfl⟩
theorem d_X7_comesTo_57 : GF M_X7_comesTo 57 7 1 60 := ⟨15, ⟨by decide +kernel, rfl⟩, fl_X7_15⟩
theorem d_X7_comesTo_60 : Dc M_X7_comesTo 60 (.iload_n 1) 1 61 := ⟨by decide +kernel, rfl⟩
theorem d_X7_comesTo_61 : Dc M_X7_comesTo 61 (.iload 4) 2 63 := ⟨by decide +kernel, rfl⟩
theorem d_X7_comesTo_63 : CV M_X7_comesTo 63 M_X4_shedOf 2 66 := ⟨35, ⟨by decide +kernel, rfl⟩, Or.inr (inT (List.mem_append_right _ (List.mem_append_left _ (List.mem_of_getElem? (l := tables_1_2) (i := 127) (by decide +kernel))))), mf_X4_shedOf, mi_X4_shedOf, ⟨by decide, by decide⟩⟩
theorem d_X7_comesTo_66 : Dc M_X7_comesTo 66 (.aload_n 0) 1 67 := ⟨by decide +kernel, rfl⟩
theorem d_X7_comesTo_67 : GF M_X7_comesTo 67 7 1 70 := ⟨15, ⟨by decide +kernel, rfl⟩, fl_X7_15⟩
theorem d_X7_comesTo_70 : Dc M_X7_comesTo 70 (.iload_n 1) 1 71 := ⟨by decide +kernel, rfl⟩
theorem d_X7_comesTo_71 : Dc M_X7_comesTo 71 (.iload 4) 2 73 := ⟨by decide +kernel, rfl⟩
theorem d_X7_comesTo_73 : KI M_X7_comesTo 73 (nI 1) 74 := Or.inl ⟨1, ⟨by decide +kernel, rfl⟩, by decide⟩
theorem d_X7_comesTo_74 : Dc M_X7_comesTo 74 (.iadd) 1 75 := ⟨by decide +kernel, rfl⟩
theorem d_X7_comesTo_75 : CV M_X7_comesTo 75 M_X4_shedOf 2 78 := ⟨35, ⟨by decide +kernel, rfl⟩, Or.inr (inT (List.mem_append_right _ (List.mem_append_left _ (List.mem_of_getElem? (l := tables_1_2) (i := 127) (by decide +kernel))))), mf_X4_shedOf, mi_X4_shedOf, ⟨by decide, by decide⟩⟩
theorem d_X7_comesTo_78 : CV M_X7_comesTo 78 M_X3_wayOf 2 81 := ⟨39, ⟨by decide +kernel, rfl⟩, Or.inr (inT (List.mem_append_right _ (List.mem_append_left _ (List.mem_of_getElem? (l := tables_1_2) (i := 128) (by decide +kernel))))), mf_X3_wayOf, mi_X3_wayOf, ⟨by decide, by decide⟩⟩
theorem d_X7_comesTo_81 : Dc M_X7_comesTo 81 (.iadd) 1 82 := ⟨by decide +kernel, rfl⟩
theorem d_X7_comesTo_82 : Dc M_X7_comesTo 82 (.iadd) 1 83 := ⟨by decide +kernel, rfl⟩
theorem d_X7_comesTo_83 : Dc M_X7_comesTo 83 (.istore_n 3) 1 84 := ⟨by decide +kernel, rfl⟩
theorem d_X7_comesTo_84 : Dc M_X7_comesTo 84 (.iinc 4 1) 3 87 := ⟨by decide +kernel, rfl⟩
theorem d_X7_comesTo_87 : Dg M_X7_comesTo 87 5 := ⟨(-82), by decide +kernel, by decide⟩
theorem d_X7_comesTo_90 : KI M_X7_comesTo 90 (-1 : Int32) 91 := Or.inl ⟨(-1), ⟨by decide +kernel, rfl⟩, by decide⟩
theorem d_X7_comesTo_91 : Dc M_X7_comesTo 91 (.ireturn) 1 92 := ⟨by decide +kernel, rfl⟩
theorem d_X7_aloneFor_0 : Dc M_X7_aloneFor 0 (.aload_n 0) 1 1 := ⟨by decide +kernel, rfl⟩
theorem d_X7_aloneFor_1 : Dc M_X7_aloneFor 1 (.iload_n 1) 1 2 := ⟨by decide +kernel, rfl⟩
theorem d_X7_aloneFor_2 : Dc M_X7_aloneFor 2 (.iload_n 2) 1 3 := ⟨by decide +kernel, rfl⟩
theorem d_X7_aloneFor_3 : CV M_X7_aloneFor 3 M_X7_comesTo 2 6 := ⟨42, ⟨by decide +kernel, rfl⟩, Or.inl (inT (List.mem_append_right _ (List.mem_append_left _ (List.mem_of_getElem? (l := tables_1_2) (i := 145) (by decide +kernel))))), mf_X7_comesTo, mi_X7_comesTo, ⟨by decide, by decide⟩⟩
theorem d_X7_aloneFor_6 : Dc M_X7_aloneFor 6 (.istore_n 3) 1 7 := ⟨by decide +kernel, rfl⟩
theorem d_X7_aloneFor_7 : Dc M_X7_aloneFor 7 (.iload_n 3) 1 8 := ⟨by decide +kernel, rfl⟩
theorem d_X7_aloneFor_8 : KI M_X7_aloneFor 8 (-1 : Int32) 9 := Or.inl ⟨(-1), ⟨by decide +kernel, rfl⟩, by decide⟩
theorem d_X7_aloneFor_9 : Di M_X7_aloneFor 9 .ne 17 12 := ⟨8, by decide +kernel, by decide, rfl⟩
theorem d_X7_aloneFor_12 : KI M_X7_aloneFor 12 (nI 60) 14 := Or.inr (Or.inl ⟨60, ⟨by decide +kernel, rfl⟩, by decide⟩)
theorem d_X7_aloneFor_14 : Dg M_X7_aloneFor 14 33 := ⟨19, by decide +kernel, by decide⟩
theorem d_X7_aloneFor_17 : Dc M_X7_aloneFor 17 (.iload_n 3) 1 18 := ⟨by decide +kernel, rfl⟩
theorem d_X7_aloneFor_18 : KI M_X7_aloneFor 18 (nI 60) 20 := Or.inr (Or.inl ⟨60, ⟨by decide +kernel, rfl⟩, by decide⟩)
theorem d_X7_aloneFor_20 : Dc M_X7_aloneFor 20 (.iload_n 3) 1 21 := ⟨by decide +kernel, rfl⟩
theorem d_X7_aloneFor_21 : Dc M_X7_aloneFor 21 (.isub) 1 22 := ⟨by decide +kernel, rfl⟩
theorem d_X7_aloneFor_22 : Dc M_X7_aloneFor 22 (.aload_n 0) 1 23 := ⟨by decide +kernel, rfl⟩
theorem d_X7_aloneFor_23 : GF M_X7_aloneFor 23 7 0 26 := ⟨9, ⟨by decide +kernel, rfl⟩, fl_X7_9⟩
theorem d_X7_aloneFor_26 : GF M_X7_aloneFor 26 3 2 29 := ⟨25, ⟨by decide +kernel, rfl⟩, fl_X7_25⟩
theorem d_X7_aloneFor_29 : Dc M_X7_aloneFor 29 (.isub) 1 30 := ⟨by decide +kernel, rfl⟩
theorem d_X7_aloneFor_30 : MX M_X7_aloneFor 30 33 := ⟨45, ⟨by decide +kernel, rfl⟩, inT (List.mem_append_right _ (List.mem_append_left _ (List.mem_of_getElem? (l := tables_1_2) (i := 146) (by decide +kernel))))⟩
theorem d_X7_aloneFor_33 : Dc M_X7_aloneFor 33 (.ireturn) 1 34 := ⟨by decide +kernel, rfl⟩
theorem d_X7_aloneFrom_0 : Dc M_X7_aloneFrom 0 (.aload_n 0) 1 1 := ⟨by decide +kernel, rfl⟩
theorem d_X7_aloneFrom_1 : Dc M_X7_aloneFrom 1 (.iload_n 1) 1 2 := ⟨by decide +kernel, rfl⟩
theorem d_X7_aloneFrom_2 : Dc M_X7_aloneFrom 2 (.iload_n 2) 1 3 := ⟨by decide +kernel, rfl⟩
theorem d_X7_aloneFrom_3 : CV M_X7_aloneFrom 3 M_X7_comesTo 2 6 := ⟨42, ⟨by decide +kernel, rfl⟩, Or.inl (inT (List.mem_append_right _ (List.mem_append_left _ (List.mem_of_getElem? (l := tables_1_2) (i := 145) (by decide +kernel))))), mf_X7_comesTo, mi_X7_comesTo, ⟨by decide, by decide⟩⟩
theorem d_X7_aloneFrom_6 : Dc M_X7_aloneFrom 6 (.istore_n 3) 1 7 := ⟨by decide +kernel, rfl⟩
theorem d_X7_aloneFrom_7 : Dc M_X7_aloneFrom 7 (.iload_n 3) 1 8 := ⟨by decide +kernel, rfl⟩
theorem d_X7_aloneFrom_8 : KI M_X7_aloneFrom 8 (-1 : Int32) 9 := Or.inl ⟨(-1), ⟨by decide +kernel, rfl⟩, by decide⟩
theorem d_X7_aloneFrom_9 : Di M_X7_aloneFrom 9 .eq 28 12 := ⟨19, by decide +kernel, by decide, rfl⟩
theorem d_X7_aloneFrom_12 : Dc M_X7_aloneFrom 12 (.iload_n 3) 1 13 := ⟨by decide +kernel, rfl⟩
theorem d_X7_aloneFrom_13 : KI M_X7_aloneFrom 13 (nI 60) 15 := Or.inr (Or.inl ⟨60, ⟨by decide +kernel, rfl⟩, by decide⟩)
theorem d_X7_aloneFrom_15 : Dc M_X7_aloneFrom 15 (.iload_n 3) 1 16 := ⟨by decide +kernel, rfl⟩
theorem d_X7_aloneFrom_16 : Dc M_X7_aloneFrom 16 (.isub) 1 17 := ⟨by decide +kernel, rfl⟩
theorem d_X7_aloneFrom_17 : Dc M_X7_aloneFrom 17 (.aload_n 0) 1 18 := ⟨by decide +kernel, rfl⟩
theorem d_X7_aloneFrom_18 : GF M_X7_aloneFrom 18 7 0 21 := ⟨9, ⟨by decide +kernel, rfl⟩, fl_X7_9⟩
theorem d_X7_aloneFrom_21 : GF M_X7_aloneFrom 21 3 2 24 := ⟨25, ⟨by decide +kernel, rfl⟩, fl_X7_25⟩
theorem d_X7_aloneFrom_24 : Dc M_X7_aloneFrom 24 (.isub) 1 25 := ⟨by decide +kernel, rfl⟩
theorem d_X7_aloneFrom_25 : Di M_X7_aloneFrom 25 .lt 32 28 := ⟨7, by decide +kernel, by decide, rfl⟩
theorem d_X7_aloneFrom_28 : KI M_X7_aloneFrom 28 (nI 0) 29 := Or.inl ⟨0, ⟨by decide +kernel, rfl⟩, by decide⟩
theorem d_X7_aloneFrom_29 : Dg M_X7_aloneFrom 29 41 := ⟨12, by decide +kernel, by decide⟩
theorem d_X7_aloneFrom_32 : Dc M_X7_aloneFrom 32 (.iload_n 3) 1 33 := ⟨by decide +kernel, rfl⟩
theorem d_X7_aloneFrom_33 : Dc M_X7_aloneFrom 33 (.aload_n 0) 1 34 := ⟨by decide +kernel, rfl⟩
theorem d_X7_aloneFrom_34 : GF M_X7_aloneFrom 34 7 0 37 := ⟨9, ⟨by decide +kernel, rfl⟩, fl_X7_9⟩
theorem d_X7_aloneFrom_37 : GF M_X7_aloneFrom 37 3 2 40 := ⟨25, ⟨by decide +kernel, rfl⟩, fl_X7_25⟩
theorem d_X7_aloneFrom_40 : Dc M_X7_aloneFrom 40 (.iadd) 1 41 := ⟨by decide +kernel, rfl⟩
theorem d_X7_aloneFrom_41 : Dc M_X7_aloneFrom 41 (.ireturn) 1 42 := ⟨by decide +kernel, rfl⟩
