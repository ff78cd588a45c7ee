theorem d_X5_init_0 : Dc M_X5_init 0 (.aload_n 0) 1 1 := ⟨by decide +kernel, rfl⟩
theorem d_X5_init_1 : OI M_X5_init 1 4 := ⟨3, ⟨by decide +kernel, rfl⟩, inT (List.mem_append_left _ (List.mem_of_getElem? (l := tables_1_1) (i := 190) (by decide +kernel)))⟩
theorem d_X5_init_4 : Dc M_X5_init 4 (.aload_n 0) 1 5 := ⟨by decide +kernel, rfl⟩
theorem d_X5_init_5 : KI M_X5_init 5 (nI 4) 6 := Or.inl ⟨4, ⟨by decide +kernel, rfl⟩, by decide⟩
theorem d_X5_init_6 : Dc M_X5_init 6 (.newarray .int) 2 8 := ⟨by decide +kernel, rfl⟩
theorem d_X5_init_8 : PF M_X5_init 8 5 0 11 := ⟨11, ⟨by decide +kernel, rfl⟩, ⟨by decide, by decide⟩, inT (List.mem_append_left _ (List.mem_of_getElem? (l := tables_1_1) (i := 191) (by decide +kernel)))⟩
theorem d_X5_init_11 : Dc M_X5_init 11 (.aload_n 0) 1 12 := ⟨by decide +kernel, rfl⟩
theorem d_X5_init_12 : KI M_X5_init 12 (nI 4) 13 := Or.inl ⟨4, ⟨by decide +kernel, rfl⟩, by decide⟩
theorem d_X5_init_13 : Dc M_X5_init 13 (.newarray .int) 2 15 := ⟨by decide +kernel, rfl⟩
theorem d_X5_init_15 : PF M_X5_init 15 5 1 18 := ⟨15, ⟨by decide +kernel, rfl⟩, ⟨by decide, by decide⟩, inT (List.mem_append_left _ (List.mem_of_getElem? (l := tables_1_1) (i := 192) (by decide +kernel)))⟩
theorem d_X5_init_18 : Dc M_X5_init 18 (.aload_n 0) 1 19 := ⟨by decide +kernel, rfl⟩
theorem d_X5_init_19 : KI M_X5_init 19 (nI 192) 22 := Or.inr (Or.inr ⟨192, ⟨by decide +kernel, rfl⟩, by decide⟩)
theorem d_X5_init_22 : Dc M_X5_init 22 (.newarray .int) 2 24 := ⟨by decide +kernel, rfl⟩
theorem d_X5_init_24 : PF M_X5_init 24 5 2 27 := ⟨18, ⟨by decide +kernel, rfl⟩, ⟨by decide, by decide⟩, inT (List.mem_append_left _ (List.mem_of_getElem? (l := tables_1_1) (i := 193) (by decide +kernel)))⟩
theorem d_X5_init_27 : Dc M_X5_init 27 (.aload_n 0) 1 28 := ⟨by decide +kernel, rfl⟩
theorem d_X5_init_28 : KI M_X5_init 28 (nI 48) 30 := Or.inr (Or.inl ⟨48, ⟨by decide +kernel, rfl⟩, by decide⟩)
theorem d_X5_init_30 : Dc M_X5_init 30 (.newarray .int) 2 32 := ⟨by decide +kernel, rfl⟩
theorem d_X5_init_32 : PF M_X5_init 32 5 3 35 := ⟨21, ⟨by decide +kernel, rfl⟩, ⟨by decide, by decide⟩, inT (List.mem_append_left _ (List.mem_of_getElem? (l := tables_1_1) (i := 194) (by decide +kernel)))⟩
theorem d_X5_init_35 : Dc M_X5_init 35 (.aload_n 0) 1 36 := ⟨by decide +kernel, rfl⟩
theorem d_X5_init_36 : KI M_X5_init 36 (nI 0) 37 := Or.inl ⟨0, ⟨by decide +kernel, rfl⟩, by decide⟩
theorem d_X5_init_37 : PF M_X5_init 37 5 4 40 := ⟨24, ⟨by decide +kernel, rfl⟩, ⟨by decide, by decide⟩, inT (List.mem_append_left _ (List.mem_of_getElem? (l := tables_1_1) (i := 195) (by decide +kernel)))⟩
theorem d_X5_init_40 : KI M_X5_init 40 (nI 0) 41 := Or.inl ⟨0, ⟨by decide +kernel, rfl⟩, by decide⟩
theorem d_X5_init_41 : Dc M_X5_init 41 (.istore_n 1) 1 42 := ⟨by decide +kernel, rfl⟩
theorem d_X5_init_42 : Dc M_X5_init 42 (.iload_n 1) 1 43 := ⟨by decide +kernel, rfl⟩
theorem d_X5_init_43 : Dc M_X5_init 43 (.aload_n 0) 1 44 := ⟨by decide +kernel, rfl⟩
theorem d_X5_init_44 : GF M_X5_init 44 5 0 47 := ⟨11, ⟨by decide +kernel, rfl⟩, fl_X5_11⟩
theorem d_X5_init_47 : Dc M_X5_init 47 (.arraylength) 1 48 := ⟨by decide +kernel, rfl⟩
theorem d_X5_init_48 : Di M_X5_init 48 .ge 64 51 := ⟨16, by decide +kernel, by decide, rfl⟩
theorem d_X5_init_51 : Dc M_X5_init 51 (.aload_n 0) 1 52 := ⟨by decide +kernel, rfl⟩
theorem d_X5_init_52 : GF M_X5_init 52 5 0 55 := ⟨11, ⟨by decide +kernel, rfl⟩, fl_X5_11⟩
theorem d_X5_init_55 : Dc M_X5_init 55 (.iload_n 1) 1 56 := ⟨by decide +kernel, rfl⟩
theorem d_X5_init_56 : KI M_X5_init 56 (-1 : Int32) 57 := Or.inl ⟨(-1), ⟨by decide +kernel, rfl⟩, by decide⟩
theorem d_X5_init_57 : Dc M_X5_init 57 (.iastore) 1 58 := ⟨by decide +kernel, rfl⟩
theorem d_X5_init_58 : Dc M_X5_init 58 (.iinc 1 1) 3 61 := ⟨by decide +kernel, rfl⟩
theorem d_X5_init_61 : Dg M_X5_init 61 42 := ⟨(-19), by decide +kernel, by decide⟩
theorem d_X5_init_64 : Dc M_X5_init 64 (.return_) 1 65 := ⟨by decide +kernel, rfl⟩
theorem d_X5_found_0 : Dc M_X5_found 0 (.aload_n 0) 1 1 := ⟨by decide +kernel, rfl⟩
theorem d_X5_found_1 : Dc M_X5_found 1 (.iload_n 1) 1 2 := ⟨by decide +kernel, rfl⟩
theorem d_X5_found_2 : PF M_X5_found 2 5 4 5 := ⟨24, ⟨by decide +kernel, rfl⟩, ⟨by decide, by decide⟩, inT (List.mem_append_left _ (List.mem_of_getElem? (l := tables_1_1) (i := 195) (by decide +kernel)))⟩
theorem d_X5_found_5 : KI M_X5_found 5 (-10 : Int32) 7 := Or.inr (Or.inl ⟨(-10), ⟨by decide +kernel, rfl⟩, by decide⟩)
theorem d_X5_found_7 : Dc M_X5_found 7 (.iload_n 1) 1 8 := ⟨by decide +kernel, rfl⟩
theorem d_X5_found_8 : Dc M_X5_found 8 (.isub) 1 9 := ⟨by decide +kernel, rfl⟩
theorem d_X5_found_9 : Dc M_X5_found 9 (.ireturn) 1 10 := ⟨by decide +kernel, rfl⟩
theorem d_X5_isLost_0 : Dc M_X5_isLost 0 (.aload_n 0) 1 1 := ⟨by decide +kernel, rfl⟩
theorem d_X5_isLost_1 : Dc M_X5_isLost 1 (.iload_n 1) 1 2 := ⟨by decide +kernel, rfl⟩
theorem d_X5_isLost_2 : CV M_X5_isLost 2 M_X5_formOf 1 5 := ⟨28, ⟨by decide +kernel, rfl⟩, Or.inl (inT (List.mem_append_right _ (List.mem_append_left _ (List.mem_of_getElem? (l := tables_1_2) (i := 85) (by decide +kernel))))), mf_X5_formOf, mi_X5_formOf, ⟨by decide, by decide⟩⟩
theorem d_X5_isLost_5 : KI M_X5_isLost 5 (-1 : Int32) 6 := Or.inl ⟨(-1), ⟨by decide +kernel, rfl⟩, by decide⟩
theorem d_X5_isLost_6 : Di M_X5_isLost 6 .ne 13 9 := ⟨7, by decide +kernel, by decide, rfl⟩
theorem d_X5_isLost_9 : KI M_X5_isLost 9 (nI 1) 10 := Or.inl ⟨1, ⟨by decide +kernel, rfl⟩, by decide⟩
theorem d_X5_isLost_10 : Dg M_X5_isLost 10 14 := ⟨4, by decide +kernel, by decide⟩
theorem d_X5_isLost_13 : KI M_X5_isLost 13 (nI 0) 14 := Or.inl ⟨0, ⟨by decide +kernel, rfl⟩, by decide⟩
theorem d_X5_isLost_14 : Dc M_X5_isLost 14 (.ireturn) 1 15 := ⟨by decide +kernel, rfl⟩
theorem d_X5_formOf_0 : Dc M_X5_formOf 0 (.aload_n 0) 1 1 := ⟨by decide +kernel, rfl⟩
theorem d_X5_formOf_1 : GF M_X5_formOf 1 5 0 4 := ⟨11, ⟨by decide +kernel, rfl⟩, fl_X5_11⟩
theorem d_X5_formOf_4 : Dc M_X5_formOf 4 (.iload_n 1) 1 5 := ⟨by decide +kernel, rfl⟩
theorem d_X5_formOf_5 : CS M_X5_formOf 5 M_X8_item 2 8 := ⟨32, ⟨by decide +kernel, rfl⟩, Or.inr (inT (List.mem_append_right _ (List.mem_append_left _ (List.mem_of_getElem? (l := tables_1_2) (i := 89) (by decide +kernel))))), mf_X8_item, ms_X8_item, ⟨by decide, by decide⟩⟩
theorem d_X5_formOf_8 : Dc M_X5_formOf 8 (.ireturn) 1 9 := ⟨by decide +kernel, rfl⟩
theorem d_X5_sizeOf_0 : Dc M_X5_sizeOf 0 (.aload_n 0) 1 1 := ⟨by decide +kernel, rfl⟩
theorem d_X5_sizeOf_1 : GF M_X5_sizeOf 1 5 1 4 := ⟨15, ⟨by decide +kernel, rfl⟩, fl_X5_15⟩
theorem d_X5_sizeOf_4 : Dc M_X5_sizeOf 4 (.iload_n 1) 1 5 := ⟨by decide +kernel, rfl⟩
theorem d_X5_sizeOf_5 : CS M_X5_sizeOf 5 M_X8_item 2 8 := ⟨32, ⟨by decide +kernel, rfl⟩, Or.inr (inT (List.mem_append_right _ (List.mem_append_left _ (List.mem_of_getElem? (l := tables_1_2) (i := 89) (by decide +kernel))))), mf_X8_item, ms_X8_item, ⟨by decide, by decide⟩⟩
theorem d_X5_sizeOf_8 : Dc M_X5_sizeOf 8 (.ireturn) 1 9 := ⟨by decide +kernel, rfl⟩
theorem d_X5_itemOf_0 : Dc M_X5_itemOf 0 (.aload_n 0) 1 1 := ⟨by decide +kernel, rfl⟩
theorem d_X5_itemOf_1 : GF M_X5_itemOf 1 5 2 4 := ⟨18, ⟨by decide +kernel, rfl⟩, fl_X5_18⟩
theorem d_X5_itemOf_4 : Dc M_X5_itemOf 4 (.iload_n 1) 1 5 := ⟨by decide +kernel, rfl⟩
theorem d_X5_itemOf_5 : KI M_X5_itemOf 5 (nI 48) 7 := Or.inr (Or.inl ⟨48, ⟨by decide +kernel, rfl⟩, by decide⟩)
theorem d_X5_itemOf_7 : Dc M_X5_itemOf 7 (.imul) 1 8 := ⟨by decide +kernel, rfl⟩
theorem d_X5_itemOf_8 : Dc M_X5_itemOf 8 (.iload_n 2) 1 9 := ⟨by decide +kernel, rfl⟩
theorem d_X5_itemOf_9 : Dc M_X5_itemOf 9 (.iadd) 1 10 := ⟨by decide +kernel, rfl⟩
theorem d_X5_itemOf_10 : CS M_X5_itemOf 10 M_X8_item 2 13 := ⟨32, ⟨by decide +kernel, rfl⟩, Or.inr (inT (List.mem_append_right _ (List.mem_append_left _ (List.mem_of_getElem? (l := tables_1_2) (i := 89) (by decide +kernel))))), mf_X8_item, ms_X8_item, ⟨by decide, by decide⟩⟩
theorem d_X5_itemOf_13 : Dc M_X5_itemOf 13 (.ireturn) 1 14 := ⟨by decide +kernel, rfl⟩
theorem d_X5_change_0 : Dc M_X5_change 0 (.aload_n 0) 1 1 := ⟨by decide +kernel, rfl⟩
theorem d_X5_change_1 : GF M_X5_change 1 5 2 4 := ⟨18, ⟨by decide +kernel, rfl⟩, fl_X5_18⟩
theorem d_X5_change_4 : Dc M_X5_change 4 (.iload_n 1) 1 5 := ⟨by decide +kernel, rfl⟩
theorem d_X5_change_5 : KI M_X5_change 5 (nI 48) 7 := Or.inr (Or.inl ⟨48, ⟨by decide +kernel, rfl⟩, by decide⟩)
theorem d_X5_change_7 : Dc M_X5_change 7 (.imul) 1 8 := ⟨by decide +kernel, rfl⟩
theorem d_X5_change_8 : Dc M_X5_change 8 (.iload_n 2) 1 9 := ⟨by decide +kernel, rfl⟩
theorem d_X5_change_9 : Dc M_X5_change 9 (.iadd) 1 10 := ⟨by decide +kernel, rfl⟩
theorem d_X5_change_10 : Dc M_X5_change 10 (.aload_n 0) 1 11 := ⟨by decide +kernel, rfl⟩
theorem d_X5_change_11 : Dc M_X5_change 11 (.iload_n 1) 1 12 := ⟨by decide +kernel, rfl⟩
theorem d_X5_change_12 : CV M_X5_change 12 M_X5_formOf 1 15 := ⟨28, ⟨by decide +kernel, rfl⟩, Or.inl (inT (List.mem_append_right _ (List.mem_append_left _ (List.mem_of_getElem? (l := tables_1_2) (i := 85) (by decide +kernel))))), mf_X5_formOf, mi_X5_formOf, ⟨by decide, by decide⟩⟩
theorem d_X5_change_15 : Dc M_X5_change 15 (.iload_n 3) 1 16 := ⟨by decide +kernel, rfl⟩
theorem d_X5_change_16 : CS M_X5_change 16 M_X5_narrow 2 19 := ⟨36, ⟨by decide +kernel, rfl⟩, Or.inl (inT (List.mem_append_right _ (List.mem_append_right _ (List.mem_append_left _ (List.mem_of_getElem? (l := tables_1_3) (i := 130) (by decide +kernel)))))), mf_X5_narrow, ms_X5_narrow, ⟨by decide, by decide⟩⟩
theorem d_X5_change_19 : CS M_X5_change 19 M_X8_keep 3 22 := ⟨40, ⟨by decide +kernel, rfl⟩, Or.inr (inT (List.mem_append_right _ (List.mem_append_right _ (List.mem_append_left _ (List.mem_of_getElem? (l := tables_1_3) (i := 125) (by decide +kernel)))))), mf_X8_keep, ms_X8_keep, ⟨by decide, by decide⟩⟩
theorem d_X5_change_22 : Dc M_X5_change 22 (.return_) 1 23 := ⟨by decide +kernel, rfl⟩
theorem d_X5_narrow_0 : Dc M_X5_narrow 0 (.iload_n 0) 1 1 := ⟨by decide +kernel, rfl⟩
theorem d_X5_narrow_1 : Db M_X5_narrow 1 .ne 9 4 := ⟨8, by decide +kernel, by decide, rfl⟩
theorem d_X5_narrow_4 : Dc M_X5_narrow 4 (.iload_n 1) 1 5 := ⟨by decide +kernel, rfl⟩
theorem d_X5_narrow_5 : Dc M_X5_narrow 5 (.i2b) 1 6 := ⟨by decide +kernel, rfl⟩
theorem d_X5_narrow_6 : Dg M_X5_narrow 6 20 := ⟨14, by decide +kernel, by decide⟩
theorem d_X5_narrow_9 : Dc M_X5_narrow 9 (.iload_n 0) 1 10 := ⟨by decide +kernel, rfl⟩
theorem d_X5_narrow_10 : KI M_X5_narrow 10 (nI 1) 11 := Or.inl ⟨1, ⟨by decide +kernel, rfl⟩, by decide⟩
theorem d_X5_narrow_11 : Di M_X5_narrow 11 .ne 19 14 := ⟨8, by decide +kernel, by decide, rfl⟩
theorem d_X5_narrow_14 : Dc M_X5_narrow 14 (.iload_n 1) 1 15 := ⟨by decide +kernel, rfl⟩
theorem d_X5_narrow_15 : Dc M_X5_narrow 15 (.i2s) 1 16 := ⟨by decide +kernel, rfl⟩
theorem d_X5_narrow_16 : Dg M_X5_narrow 16 20 := ⟨4, by decide +kernel, by decide⟩
theorem d_X5_narrow_19 : Dc M_X5_narrow 19 (.iload_n 1) 1 20 := ⟨by decide +kernel, rfl⟩
theorem d_X5_narrow_20 : Dc M_X5_narrow 20 (.ireturn) 1 21 := ⟨by decide +kernel, rfl⟩
theorem d_X5_make_0 : Dc M_X5_make 0 (.aload_n 0) 1 1 := ⟨by decide +kernel, rfl⟩
theorem d_X5_make_1 : GF M_X5_make 1 5 0 4 := ⟨11, ⟨by decide +kernel, rfl⟩, fl_X5_11⟩
theorem d_X5_make_4 : Dc M_X5_make 4 (.iload_n 1) 1 5 := ⟨by decide +kernel, rfl⟩
theorem d_X5_make_5 : Dc M_X5_make 5 (.iload_n 2) 1 6 := ⟨by decide +kernel, rfl⟩
theorem d_X5_make_6 : CS M_X5_make 6 M_X8_keep 3 9 := ⟨40, ⟨by decide +kernel, rfl⟩, Or.inr (inT (List.mem_append_right _ (List.mem_append_right _ (List.mem_append_left _ (List.mem_of_getElem? (l := tables_1_3) (i := 125) (by decide +kernel)))))), mf_X8_keep, ms_X8_keep, ⟨by decide, by decide⟩⟩
theorem d_X5_make_9 : Dc M_X5_make 9 (.aload_n 0) 1 10 := ⟨by decide +kernel, rfl⟩
theorem d_X5_make_10 : GF M_X5_make 10 5 1 13 := ⟨15, ⟨by decide +kernel, rfl⟩, fl_X5_15⟩
theorem d_X5_make_13 : Dc M_X5_make 13 (.iload_n 1) 1 14 := ⟨by decide +kernel, rfl⟩
theorem d_X5_make_14 : Dc M_X5_make 14 (.iload_n 3) 1 15 := ⟨by decide +kernel, rfl⟩
theorem d_X5_make_15 : CS M_X5_make 15 M_X8_keep 3 18 := ⟨40, ⟨by decide +kernel, rfl⟩, Or.inr (inT (List.mem_append_right _ (List.mem_append_right _ (List.mem_append_left _ (List.mem_of_getElem? (l := tables_1_3) (i := 125) (by decide +kernel)))))), mf_X8_keep, ms_X8_keep, ⟨by decide, by decide⟩⟩
theorem d_X5_make_18 : KI M_X5_make 18 (nI 0) 19 := Or.inl ⟨0, ⟨by decide +kernel, rfl⟩, by decide⟩
theorem d_X5_make_19 : Dc M_X5_make 19 (.istore 4) 2 21 := ⟨by decide +kernel, rfl⟩
theorem d_X5_make_21 : Dc M_X5_make 21 (.iload 4) 2 23 := ⟨by decide +kernel, rfl⟩
theorem d_X5_make_23 : Dc M_X5_make 23 (.iload_n 3) 1 24 := ⟨by decide +kernel, rfl⟩
theorem d_X5_make_24 : Di M_X5_make 24 .ge 48 27 := ⟨24, by decide +kernel, by decide, rfl⟩
theorem d_X5_make_27 : Dc M_X5_make 27 (.iload 4) 2 29 := ⟨by decide +kernel, rfl⟩
theorem d_X5_make_29 : KI M_X5_make 29 (nI 48) 31 := Or.inr (Or.inl ⟨48, ⟨by decide +kernel, rfl⟩, by decide⟩)
theorem d_X5_make_31 : Di M_X5_make 31 .ge 48 34 := ⟨17, by decide +kernel, by decide, rfl⟩
theorem d_X5_make_34 : Dc M_X5_make 34 (.aload_n 0) 1 35 := ⟨by decide +kernel, rfl⟩
theorem d_X5_make_35 : Dc M_X5_make 35 (.iload_n 1) 1 36 := ⟨by decide +kernel, rfl⟩
theorem d_X5_make_36 : Dc M_X5_make 36 (.iload 4) 2 38 := ⟨by decide +kernel, rfl⟩
theorem d_X5_make_38 : KI M_X5_make 38 (nI 0) 39 := Or.inl ⟨0, ⟨by decide +kernel, rfl⟩, by decide⟩
theorem d_X5_make_39 : CV M_X5_make 39 M_X5_change 3 42 := ⟨44, ⟨by decide +kernel, rfl⟩, Or.inl (inT (List.mem_append_right _ (List.mem_append_right _ (List.mem_append_left _ (List.mem_of_getElem? (l := tables_1_3) (i := 126) (by decide +kernel)))))), mf_X5_change, mi_X5_change, ⟨by decide, by decide⟩⟩
theorem d_X5_make_42 : Dc M_X5_make 42 (.iinc 4 1) 3 45 := ⟨by decide +kernel, rfl⟩
theorem d_X5_make_45 : Dg M_X5_make 45 21 := ⟨(-24), by decide +kernel, by decide⟩
theorem d_X5_make_48 : Dc M_X5_make 48 (.return_) 1 49 := ⟨by decide +kernel, rfl⟩
theorem d_X5_drop_0 : Dc M_X5_drop 0 (.aload_n 0) 1 1 := ⟨by decide +kernel, rfl⟩
theorem d_X5_drop_1 : GF M_X5_drop 1 5 0 4 := ⟨11, ⟨by decide +kernel, rfl⟩, fl_X5_11⟩
theorem d_X5_drop_4 : Dc M_X5_drop 4 (.iload_n 1) 1 5 := ⟨by decide +kernel, rfl⟩
theorem d_X5_drop_5 : KI M_X5_drop 5 (-1 : Int32) 6 := Or.inl ⟨(-1), ⟨by decide +kernel, rfl⟩, by decide⟩
theorem d_X5_drop_6 : CS M_X5_drop 6 M_X8_keep 3 9 := ⟨40, ⟨by decide +kernel, rfl⟩, Or.inr (inT (List.mem_append_right _ (List.mem_append_right _ (List.mem_append_left _ (List.mem_of_getElem? (l := tables_1_3) (i := 125) (by decide +kernel)))))), mf_X8_keep, ms_X8_keep, ⟨by decide, by decide⟩⟩
theorem d_X5_drop_9 : Dc M_X5_drop 9 (.aload_n 0) 1 10 := ⟨by decide +kernel, rfl⟩
theorem d_X5_drop_10 : Dc M_X5_drop 10 (.iload_n 1) 1 11 := ⟨by decide +kernel, rfl⟩
theorem d_X5_drop_11 : CV M_X5_drop 11 M_X5_sizeOf 1 14 := ⟨48, ⟨by decide +kernel, rfl⟩, Or.inl (inT (List.mem_append_right _ (List.mem_append_right _ (List.mem_append_left _ (List.mem_of_getElem? (l := tables_1_3) (i := 141) (by decide +kernel)))))), mf_X5_sizeOf, mi_X5_sizeOf, ⟨by decide, by decide⟩⟩
theorem d_X5_drop_14 : Dc M_X5_drop 14 (.ireturn) 1 15 := ⟨by decide +kernel, rfl⟩
theorem d_X5_hindrance_0 : Dc M_X5_hindrance 0 (.aload_n 0) 1 1 := ⟨by decide +kernel, rfl⟩
theorem d_X5_hindrance_1 : Dc M_X5_hindrance 1 (.iload_n 1) 1 2 := ⟨by decide +kernel, rfl⟩
theorem d_X5_hindrance_2 : CV M_X5_hindrance 2 M_X5_isLost 1 5 := ⟨51, ⟨by decide +kernel, rfl⟩, Or.inl (inT (List.mem_append_right _ (List.mem_append_right _ (List.mem_append_left _ (List.mem_of_getElem? (l := tables_1_3) (i := 150) (by decide +kernel)))))), mf_X5_isLost, mi_X5_isLost, ⟨by decide, by decide⟩⟩
theorem d_X5_hindrance_5 : Db M_X5_hindrance 5 .eq 10 8 := ⟨5, by decide +kernel, by decide, rfl⟩
theorem d_X5_hindrance_8 : KI M_X5_hindrance 8 (nI 1) 9 := Or.inl ⟨1, ⟨by decide +kernel, rfl⟩, by decide⟩
theorem d_X5_hindrance_9 : Dc M_X5_hindrance 9 (.ireturn) 1 10 := ⟨by decide +kernel, rfl⟩
theorem d_X5_hindrance_10 : Dc M_X5_hindrance 10 (.aload_n 0) 1 11 := ⟨by decide +kernel, rfl⟩
theorem d_X5_hindrance_11 : Dc M_X5_hindrance 11 (.iload_n 1) 1 12 := ⟨by decide +kernel, rfl⟩
theorem d_X5_hindrance_12 : CV M_X5_hindrance 12 M_X5_formOf 1 15 := ⟨28, ⟨by decide +kernel, rfl⟩, Or.inl (inT (List.mem_append_right _ (List.mem_append_left _ (List.mem_of_getElem? (l := tables_1_2) (i := 85) (by decide +kernel))))), mf_X5_formOf, mi_X5_formOf, ⟨by decide, by decide⟩⟩
theorem d_X5_hindrance_15 : Dc M_X5_hindrance 15 (.iload_n 2) 1 16 := ⟨by decide +kernel, rfl⟩
theorem d_X5_hindrance_16 : Di M_X5_hindrance 16 .eq 21 19 := ⟨5, by decide +kernel, by decide, rfl⟩
theorem d_X5_hindrance_19 : KI M_X5_hindrance 19 (nI 3) 20 := Or.inl ⟨3, ⟨by decide +kernel, rfl⟩, by decide⟩
theorem d_X5_hindrance_20 : Dc M_X5_hindrance 20 (.ireturn) 1 21 := ⟨by decide +kernel, rfl⟩
theorem d_X5_hindrance_21 : Dc M_X5_hindrance 21 (.iload_n 3) 1 22 := ⟨by decide +kernel, rfl⟩
theorem d_X5_hindrance_22 : KI M_X5_hindrance 22 (nI 0) 23 := Or.inl ⟨0, ⟨by decide +kernel, rfl⟩, by decide⟩
theorem d_X5_hindrance_23 : Dc M_X5_hindrance 23 (.aload_n 0) 1 24 := ⟨by decide +kernel, rfl⟩
theorem d_X5_hindrance_24 : Dc M_X5_hindrance 24 (.iload_n 1) 1 25 := ⟨by decide +kernel, rfl⟩
theorem d_X5_hindrance_25 : CV M_X5_hindrance 25 M_X5_sizeOf 1 28 := ⟨48, ⟨by decide +kernel, rfl⟩, Or.inl (inT (List.mem_append_right _ (List.mem_append_right _ (List.mem_append_left _ (List.mem_of_getElem? (l := tables_1_3) (i := 141) (by decide +kernel)))))), mf_X5_sizeOf, mi_X5_sizeOf, ⟨by decide, by decide⟩⟩
theorem d_X5_hindrance_28 : KI M_X5_hindrance 28 (nI 1) 29 := Or.inl ⟨1, ⟨by decide +kernel, rfl⟩, by decide⟩
theorem d_X5_hindrance_29 : Dc M_X5_hindrance 29 (.isub) 1 30 := ⟨by decide +kernel, rfl⟩
theorem d_X5_hindrance_30 : CS M_X5_hindrance 30 M_X8_within 3 33 := ⟨55, ⟨by decide +kernel, rfl⟩, Or.inr (inT (List.mem_append_right _ (List.mem_append_right _ (List.mem_append_left _ (List.mem_of_getElem? (l := tables_1_3) (i := 151) (by decide +kernel)))))), mf_X8_within, ms_X8_within, ⟨by decide, by decide⟩⟩
theorem d_X5_hindrance_33 : Db M_X5_hindrance 33 .eq 40 36 := ⟨7, by decide +kernel, by decide, rfl⟩
theorem d_X5_hindrance_36 : KI M_X5_hindrance 36 (nI 0) 37 := Or.inl ⟨0, ⟨by decide +kernel, rfl⟩, by decide⟩
theorem d_X5_hindrance_37 : Dg M_X5_hindrance 37 41 := ⟨4, by decide +kernel, by decide⟩
theorem d_X5_hindrance_40 : KI M_X5_hindrance 40 (nI 2) 41 := Or.inl ⟨2, ⟨by decide +kernel, rfl⟩, by decide⟩
theorem d_X5_hindrance_41 : Dc M_X5_hindrance 41 (.ireturn) 1 42 := ⟨by decide +kernel, rfl⟩
theorem d_X5_hasItems_0 : Dc M_X5_hasItems 0 (.iload_n 2) 1 1 := ⟨by decide +kernel, rfl⟩
theorem d_X5_hasItems_1 : Db M_X5_hasItems 1 .lt 32 4 := ⟨31, by decide +kernel, by decide, rfl⟩
theorem d_X5_hasItems_4 : Dc M_X5_hasItems 4 (.iload_n 3) 1 5 := ⟨by decide +kernel, rfl⟩
theorem d_X5_hasItems_5 : Db M_X5_hasItems 5 .lt 32 8 := ⟨27, by decide +kernel, by decide, rfl⟩
theorem d_X5_hasItems_8 : Dc M_X5_hasItems 8 (.iload_n 3) 1 9 := ⟨by decide +kernel, rfl⟩
theorem d_X5_hasItems_9 : Dc M_X5_hasItems 9 (.aload_n 0) 1 10 := ⟨by decide +kernel, rfl⟩
theorem d_X5_hasItems_10 : Dc M_X5_hasItems 10 (.iload_n 1) 1 11 := ⟨by decide +kernel, rfl⟩
theorem d_X5_hasItems_11 : CV M_X5_hasItems 11 M_X5_sizeOf 1 14 := ⟨48, ⟨by decide +kernel, rfl⟩, Or.inl (inT (List.mem_append_right _ (List.mem_append_right _ (List.mem_append_left _ (List.mem_of_getElem? (l := tables_1_3) (i := 141) (by decide +kernel)))))), mf_X5_sizeOf, mi_X5_sizeOf, ⟨by decide, by decide⟩⟩
theorem d_X5_hasItems_14 : Di M_X5_hasItems 14 .gt 32 17 := ⟨18, by decide +kernel, by decide, rfl⟩
theorem d_X5_hasItems_17 : Dc M_X5_hasItems 17 (.iload_n 2) 1 18 := ⟨by decide +kernel, rfl⟩
theorem d_X5_hasItems_18 : Dc M_X5_hasItems 18 (.aload_n 0) 1 19 := ⟨by decide +kernel, rfl⟩
theorem d_X5_hasItems_19 : Dc M_X5_hasItems 19 (.iload_n 1) 1 20 := ⟨by decide +kernel, rfl⟩
theorem d_X5_hasItems_20 : CV M_X5_hasItems 20 M_X5_sizeOf 1 23 := ⟨48, ⟨by decide +kernel, rfl⟩, Or.inl (inT (List.mem_append_right _ (List.mem_append_right _ (List.mem_append_left _ (List.mem_of_getElem? (l := tables_1_3) (i := 141) (by decide +kernel)))))), mf_X5_sizeOf, mi_X5_sizeOf, ⟨by decide, by decide⟩⟩
theorem d_X5_hasItems_23 : Dc M_X5_hasItems 23 (.iload_n 3) 1 24 := ⟨by decide +kernel, rfl⟩
theorem d_X5_hasItems_24 : Dc M_X5_hasItems 24 (.isub) 1 25 := ⟨by decide +kernel, rfl⟩
theorem d_X5_hasItems_25 : Di M_X5_hasItems 25 .gt 32 28 := ⟨7, by decide +kernel, by decide, rfl⟩
theorem d_X5_hasItems_28 : KI M_X5_hasItems 28 (nI 1) 29 := Or.inl ⟨1, ⟨by decide +kernel, rfl⟩, by decide⟩
theorem d_X5_hasItems_29 : Dg M_X5_hasItems 29 33 := ⟨4, by decide +kernel, by decide⟩
theorem d_X5_hasItems_32 : KI M_X5_hasItems 32 (nI 0) 33 := Or.inl ⟨0, ⟨by decide +kernel, rfl⟩, by decide⟩
theorem d_X5_hasItems_33 : Dc M_X5_hasItems 33 (.ireturn) 1 34 := ⟨by decide +kernel, rfl⟩
theorem d_X5_move_0 : KI M_X5_move 0 (nI 0) 1 := Or.inl ⟨0, ⟨by decide +kernel, rfl⟩, by decide⟩
theorem d_X5_move_1 : Dc M_X5_move 1 (.istore 6) 2 3 := ⟨by decide +kernel, rfl⟩
theorem d_X5_move_3 : Dc M_X5_move 3 (.iload 6) 2 5 := ⟨by decide +kernel, rfl⟩
theorem d_X5_move_5 : Dc M_X5_move 5 (.iload 5) 2 7 := ⟨by decide +kernel, rfl⟩
theorem d_X5_move_7 : Di M_X5_move 7 .ge 41 10 := ⟨34, by decide +kernel, by decide, rfl⟩
theorem d_X5_move_10 : Dc M_X5_move 10 (.iload 6) 2 12 := ⟨by decide +kernel, rfl⟩
theorem d_X5_move_12 : KI M_X5_move 12 (nI 48) 14 := Or.inr (Or.inl ⟨48, ⟨by decide +kernel, rfl⟩, by decide⟩)
theorem d_X5_move_14 : Di M_X5_move 14 .ge 41 17 := ⟨27, by decide +kernel, by decide, rfl⟩
theorem d_X5_move_17 : Dc M_X5_move 17 (.aload_n 0) 1 18 := ⟨by decide +kernel, rfl⟩
theorem d_X5_move_18 : GF M_X5_move 18 5 3 21 := ⟨21, ⟨by decide +kernel, rfl⟩, fl_X5_21⟩
theorem d_X5_move_21 : Dc M_X5_move 21 (.iload 6) 2 23 := ⟨by decide +kernel, rfl⟩
theorem d_X5_move_23 : Dc M_X5_move 23 (.aload_n 0) 1 24 := ⟨by decide +kernel, rfl⟩
theorem d_X5_move_24 : Dc M_X5_move 24 (.iload_n 1) 1 25 := ⟨by decide +kernel, rfl⟩
theorem d_X5_move_25 : Dc M_X5_move 25 (.iload_n 2) 1 26 := ⟨by decide +kernel, rfl⟩
theorem d_X5_move_26 : Dc M_X5_move 26 (.iload 6) 2 28 := ⟨by decide +kernel, rfl⟩
theorem d_X5_move_28 : Dc M_X5_move 28 (.iadd) 1 29 := ⟨by decide +kernel, rfl⟩
theorem d_X5_move_29 : CV M_X5_move 29 M_X5_itemOf 2 32 := ⟨59, ⟨by decide +kernel, rfl⟩, Or.inl (inT (List.mem_append_right _ (List.mem_append_right _ (List.mem_append_left _ (List.mem_of_getElem? (l := tables_1_3) (i := 171) (by decide +kernel)))))), mf_X5_itemOf, mi_X5_itemOf, ⟨by decide, by decide⟩⟩
theorem d_X5_move_32 : CS M_X5_move 32 M_X8_keep 3 35 := ⟨40, ⟨by decide +kernel, rfl⟩, Or.inr (inT (List.mem_append_right _ (List.mem_append_right _ (List.mem_append_left _ (List.mem_of_getElem? (l := tables_1_3) (i := 125) (by decide +kernel)))))), mf_X8_keep, ms_X8_keep, ⟨by decide, by decide⟩⟩
theorem d_X5_move_35 : Dc M_X5_move 35 (.iinc 6 1) 3 38 := ⟨by decide +kernel, rfl⟩
theorem d_X5_move_38 : Dg M_X5_move 38 3 := ⟨(-35), by decide +kernel, by decide⟩
theorem d_X5_move_41 : KI M_X5_move 41 (nI 0) 42 := Or.inl ⟨0, ⟨by decide +kernel, rfl⟩, by decide⟩
theorem d_X5_move_42 : Dc M_X5_move 42 (.istore 6) 2 44 := ⟨by decide +kernel, rfl⟩
theorem d_X5_move_44 : Dc M_X5_move 44 (.iload 6) 2 46 := ⟨by decide +kernel, rfl⟩
theorem d_X5_move_46 : Dc M_X5_move 46 (.iload 5) 2 48 := ⟨by decide +kernel, rfl⟩
theorem d_X5_move_48 : Di M_X5_move 48 .ge 83 51 := ⟨35, by decide +kernel, by decide, rfl⟩
theorem d_X5_move_51 : Dc M_X5_move 51 (.iload 6) 2 53 := ⟨by decide +kernel, rfl⟩
theorem d_X5_move_53 : KI M_X5_move 53 (nI 48) 55 := Or.inr (Or.inl ⟨48, ⟨by decide +kernel, rfl⟩, by decide⟩)
theorem d_X5_move_55 : Di M_X5_move 55 .ge 83 58 := ⟨28, by decide +kernel, by decide, rfl⟩
theorem d_X5_move_58 : Dc M_X5_move 58 (.aload_n 0) 1 59 := ⟨by decide +kernel, rfl⟩
theorem d_X5_move_59 : Dc M_X5_move 59 (.iload_n 3) 1 60 := ⟨by decide +kernel, rfl⟩
theorem d_X5_move_60 : Dc M_X5_move 60 (.iload 4) 2 62 := ⟨by decide +kernel, rfl⟩
theorem d_X5_move_62 : Dc M_X5_move 62 (.iload 6) 2 64 := ⟨by decide +kernel, rfl⟩
theorem d_X5_move_64 : Dc M_X5_move 64 (.iadd) 1 65 := ⟨by decide +kernel, rfl⟩
theorem d_X5_move_65 : Dc M_X5_move 65 (.aload_n 0) 1 66 := ⟨by decide +kernel, rfl⟩
theorem d_X5_move_66 : GF M_X5_move 66 5 3 69 := ⟨21, ⟨by decide +kernel, rfl⟩, fl_X5_21⟩
theorem d_X5_move_69 : Dc M_X5_move 69 (.iload 6) 2 71 := ⟨by decide +kernel, rfl⟩
theorem d_X5_move_71 : CS M_X5_move 71 M_X8_item 2 74 := ⟨32, ⟨by decide +kernel, rfl⟩, Or.inr (inT (List.mem_append_right _ (List.mem_append_left _ (List.mem_of_getElem? (l := tables_1_2) (i := 89) (by decide +kernel))))), mf_X8_item, ms_X8_item, ⟨by decide, by decide⟩⟩
theorem d_X5_move_74 : CV M_X5_move 74 M_X5_change 3 77 := ⟨44, ⟨by decide +kernel, rfl⟩, Or.inl (inT (List.mem_append_right _ (List.mem_append_right _ (List.mem_append_left _ (List.mem_of_getElem? (l := tables_1_3) (i := 126) (by decide +kernel)))))), mf_X5_change, mi_X5_change, ⟨by decide, by decide⟩⟩
theorem d_X5_move_77 : Dc M_X5_move 77 (.iinc 6 1) 3 80 := ⟨by decide +kernel, rfl⟩
theorem d_X5_move_80 : Dg M_X5_move 80 44 := ⟨(-36), by decide +kernel, by decide⟩
theorem d_X5_move_83 : Dc M_X5_move 83 (.return_) 1 84 := ⟨by decide +kernel, rfl⟩
