theorem d_X0_init_0 : Dc M_X0_init 0 (.aload_n 0) 1 1 := ⟨by decide +kernel, rfl⟩
theorem d_X0_init_1 : OI M_X0_init 1 4 := ⟨3, ⟨by decide +kernel, rfl⟩, inT (List.mem_append_left _ (List.mem_of_getElem? (l := tables_1_1) (i := 99) (by decide +kernel)))⟩
theorem d_X0_init_4 : Dc M_X0_init 4 (.aload_n 0) 1 5 := ⟨by decide +kernel, rfl⟩
theorem d_X0_init_5 : KI M_X0_init 5 (nI 42) 7 := Or.inr (Or.inl ⟨42, ⟨by decide +kernel, rfl⟩, by decide⟩)
theorem d_X0_init_7 : Dc M_X0_init 7 (.newarray .int) 2 9 := ⟨by decide +kernel, rfl⟩
theorem d_X0_init_9 : PF M_X0_init 9 0 1 12 := ⟨9, ⟨by decide +kernel, rfl⟩, ⟨by decide, by decide⟩, inT (List.mem_append_left _ (List.mem_of_getElem? (l := tables_1_1) (i := 114) (by decide +kernel)))⟩
theorem d_X0_init_12 : Dc M_X0_init 12 (.aload_n 0) 1 13 := ⟨by decide +kernel, rfl⟩
theorem d_X0_init_13 : KI M_X0_init 13 (nI 384) 16 := Or.inr (Or.inr ⟨384, ⟨by decide +kernel, rfl⟩, by decide⟩)
theorem d_X0_init_16 : Dc M_X0_init 16 (.newarray .int) 2 18 := ⟨by decide +kernel, rfl⟩
theorem d_X0_init_18 : PF M_X0_init 18 0 2 21 := ⟨15, ⟨by decide +kernel, rfl⟩, ⟨by decide, by decide⟩, inT (List.mem_append_left _ (List.mem_of_getElem? (l := tables_1_1) (i := 115) (by decide +kernel)))⟩
theorem d_X0_init_21 : Dc M_X0_init 21 (.aload_n 0) 1 22 := ⟨by decide +kernel, rfl⟩
theorem d_X0_init_22 : NW M_X0_init 22 2 25 := ⟨18, ⟨by decide +kernel, rfl⟩, by decide, inT (List.mem_append_left _ (List.mem_of_getElem? (l := tables_1_1) (i := 100) (by decide +kernel))), inT (List.mem_append_left _ (List.mem_of_getElem? (l := tables_1_1) (i := 101) (by decide +kernel))), inT (List.mem_append_left _ (List.mem_of_getElem? (l := tables_1_1) (i := 6) (by decide +kernel)))⟩
theorem d_X0_init_25 : Dc M_X0_init 25 (.dup) 1 26 := ⟨by decide +kernel, rfl⟩
theorem d_X0_init_26 : CI M_X0_init 26 M_X2_init 0 29 := ⟨20, ⟨by decide +kernel, rfl⟩, Or.inr (inT (List.mem_append_left _ (List.mem_of_getElem? (l := tables_1_1) (i := 102) (by decide +kernel)))), mf_X2_init, mi_X2_init, by rfl, rfl, ⟨by decide, by decide⟩⟩
theorem d_X0_init_29 : PF M_X0_init 29 0 3 32 := ⟨21, ⟨by decide +kernel, rfl⟩, ⟨by decide, by decide⟩, inT (List.mem_append_left _ (List.mem_of_getElem? (l := tables_1_1) (i := 116) (by decide +kernel)))⟩
theorem d_X0_init_32 : Dc M_X0_init 32 (.aload_n 0) 1 33 := ⟨by decide +kernel, rfl⟩
theorem d_X0_init_33 : Dc M_X0_init 33 (.aload_n 1) 1 34 := ⟨by decide +kernel, rfl⟩
theorem d_X0_init_34 : PF M_X0_init 34 0 0 37 := ⟨25, ⟨by decide +kernel, rfl⟩, ⟨by decide, by decide⟩, inT (List.mem_append_left _ (List.mem_of_getElem? (l := tables_1_1) (i := 113) (by decide +kernel)))⟩
theorem d_X0_init_37 : Dc M_X0_init 37 (.return_) 1 38 := ⟨by decide +kernel, rfl⟩
theorem d_X0_tell_0 : Dc M_X0_tell 0 (.aload_n 0) 1 1 := ⟨by decide +kernel, rfl⟩
theorem d_X0_tell_1 : GF M_X0_tell 1 0 1 4 := ⟨9, ⟨by decide +kernel, rfl⟩, fl_X0_9⟩
theorem d_X0_tell_4 : KI M_X0_tell 4 (nI 0) 5 := Or.inl ⟨0, ⟨by decide +kernel, rfl⟩, by decide⟩
theorem d_X0_tell_5 : CS M_X0_tell 5 M_X8_fill 2 8 := ⟨29, ⟨by decide +kernel, rfl⟩, Or.inr (inT (List.mem_append_right _ (List.mem_append_left _ (List.mem_of_getElem? (l := tables_1_2) (i := 178) (by decide +kernel))))), mf_X8_fill, ms_X8_fill, ⟨by decide, by decide⟩⟩
theorem d_X0_tell_8 : KI M_X0_tell 8 (nI 0) 9 := Or.inl ⟨0, ⟨by decide +kernel, rfl⟩, by decide⟩
theorem d_X0_tell_9 : Dc M_X0_tell 9 (.istore_n 2) 1 10 := ⟨by decide +kernel, rfl⟩
theorem d_X0_tell_10 : Dc M_X0_tell 10 (.iload_n 2) 1 11 := ⟨by decide +kernel, rfl⟩
theorem d_X0_tell_11 : Dc M_X0_tell 11 (.iload_n 1) 1 12 := ⟨by decide +kernel, rfl⟩
theorem d_X0_tell_12 : Di M_X0_tell 12 .ge 71 15 := ⟨59, by decide +kernel, by decide, rfl⟩
theorem d_X0_tell_15 : Dc M_X0_tell 15 (.iload_n 2) 1 16 := ⟨by decide +kernel, rfl⟩
theorem d_X0_tell_16 : KI M_X0_tell 16 (nI 8) 18 := Or.inr (Or.inl ⟨8, ⟨by decide +kernel, rfl⟩, by decide⟩)
theorem d_X0_tell_18 : Di M_X0_tell 18 .ge 71 21 := ⟨53, by decide +kernel, by decide, rfl⟩
theorem d_X0_tell_21 : KI M_X0_tell 21 (nI 0) 22 := Or.inl ⟨0, ⟨by decide +kernel, rfl⟩, by decide⟩
theorem d_X0_tell_22 : Dc M_X0_tell 22 (.istore_n 3) 1 23 := ⟨by decide +kernel, rfl⟩
theorem d_X0_tell_23 : Dc M_X0_tell 23 (.iload_n 3) 1 24 := ⟨by decide +kernel, rfl⟩
theorem d_X0_tell_24 : Dc M_X0_tell 24 (.aload_n 0) 1 25 := ⟨by decide +kernel, rfl⟩
theorem d_X0_tell_25 : GF M_X0_tell 25 0 0 28 := ⟨25, ⟨by decide +kernel, rfl⟩, fl_X0_25⟩
theorem d_X0_tell_28 : Dc M_X0_tell 28 (.iload_n 2) 1 29 := ⟨by decide +kernel, rfl⟩
theorem d_X0_tell_29 : CV M_X0_tell 29 M_X4_lengthOf 1 32 := ⟨33, ⟨by decide +kernel, rfl⟩, Or.inr (inT (List.mem_append_right _ (List.mem_append_left _ (List.mem_of_getElem? (l := tables_1_2) (i := 179) (by decide +kernel))))), mf_X4_lengthOf, mi_X4_lengthOf, ⟨by decide, by decide⟩⟩
theorem d_X0_tell_32 : Di M_X0_tell 32 .ge 65 35 := ⟨33, by decide +kernel, by decide, rfl⟩
theorem d_X0_tell_35 : Dc M_X0_tell 35 (.aload_n 0) 1 36 := ⟨by decide +kernel, rfl⟩
theorem d_X0_tell_36 : Dc M_X0_tell 36 (.aload_n 0) 1 37 := ⟨by decide +kernel, rfl⟩
theorem d_X0_tell_37 : GF M_X0_tell 37 0 0 40 := ⟨25, ⟨by decide +kernel, rfl⟩, fl_X0_25⟩
theorem d_X0_tell_40 : Dc M_X0_tell 40 (.iload_n 2) 1 41 := ⟨by decide +kernel, rfl⟩
theorem d_X0_tell_41 : Dc M_X0_tell 41 (.iload_n 3) 1 42 := ⟨by decide +kernel, rfl⟩
theorem d_X0_tell_42 : KI M_X0_tell 42 (nI 1) 43 := Or.inl ⟨1, ⟨by decide +kernel, rfl⟩, by decide⟩
theorem d_X0_tell_43 : Dc M_X0_tell 43 (.isub) 1 44 := ⟨by decide +kernel, rfl⟩
theorem d_X0_tell_44 : CV M_X0_tell 44 M_X4_shedOf 2 47 := ⟨39, ⟨by decide +kernel, rfl⟩, Or.inr (inT (List.mem_append_right _ (List.mem_append_left _ (List.mem_of_getElem? (l := tables_1_2) (i := 180) (by decide +kernel))))), mf_X4_shedOf, mi_X4_shedOf, ⟨by decide, by decide⟩⟩
theorem d_X0_tell_47 : Dc M_X0_tell 47 (.aload_n 0) 1 48 := ⟨by decide +kernel, rfl⟩
theorem d_X0_tell_48 : GF M_X0_tell 48 0 0 51 := ⟨25, ⟨by decide +kernel, rfl⟩, fl_X0_25⟩
theorem d_X0_tell_51 : Dc M_X0_tell 51 (.iload_n 2) 1 52 := ⟨by decide +kernel, rfl⟩
theorem d_X0_tell_52 : Dc M_X0_tell 52 (.iload_n 3) 1 53 := ⟨by decide +kernel, rfl⟩
theorem d_X0_tell_53 : CV M_X0_tell 53 M_X4_shedOf 2 56 := ⟨39, ⟨by decide +kernel, rfl⟩, Or.inr (inT (List.mem_append_right _ (List.mem_append_left _ (List.mem_of_getElem? (l := tables_1_2) (i := 180) (by decide +kernel))))), mf_X4_shedOf, mi_X4_shedOf, ⟨by decide, by decide⟩⟩
theorem d_X0_tell_56 : CV M_X0_tell 56 M_X0_go 2 59 := ⟨43, ⟨by decide +kernel, rfl⟩, Or.inl (inT (List.mem_append_right _ (List.mem_append_left _ (List.mem_of_getElem? (l := tables_1_2) (i := 181) (by decide +kernel))))), mf_X0_go, mi_X0_go, ⟨by decide, by decide⟩⟩
theorem d_X0_tell_59 : Dc M_X0_tell 59 (.iinc 3 1) 3 62 := ⟨by decide +kernel, rfl⟩
theorem d_X0_tell_62 : Dg M_X0_tell 62 23 := ⟨(-39), by decide +kernel, by decide⟩
theorem d_X0_tell_65 : Dc M_X0_tell 65 (.iinc 2 1) 3 68 := ⟨by decide +kernel, rfl⟩
theorem d_X0_tell_68 : Dg M_X0_tell 68 10 := ⟨(-58), by decide +kernel, by decide⟩
theorem d_X0_tell_71 : Dc M_X0_tell 71 (.return_) 1 72 := ⟨by decide +kernel, rfl⟩
theorem d_X0_go_0 : Dc M_X0_go 0 (.aload_n 0) 1 1 := ⟨by decide +kernel, rfl⟩
theorem d_X0_go_1 : GF M_X0_go 1 0 1 4 := ⟨9, ⟨by decide +kernel, rfl⟩, fl_X0_9⟩
theorem d_X0_go_4 : Dc M_X0_go 4 (.iload_n 1) 1 5 := ⟨by decide +kernel, rfl⟩
theorem d_X0_go_5 : KI M_X0_go 5 (-1 : Int32) 6 := Or.inl ⟨(-1), ⟨by decide +kernel, rfl⟩, by decide⟩
theorem d_X0_go_6 : Di M_X0_go 6 .ne 14 9 := ⟨8, by decide +kernel, by decide, rfl⟩
theorem d_X0_go_9 : KI M_X0_go 9 (nI 6) 11 := Or.inr (Or.inl ⟨6, ⟨by decide +kernel, rfl⟩, by decide⟩)
theorem d_X0_go_11 : Dg M_X0_go 11 15 := ⟨4, by decide +kernel, by decide⟩
theorem d_X0_go_14 : Dc M_X0_go 14 (.iload_n 1) 1 15 := ⟨by decide +kernel, rfl⟩
theorem d_X0_go_15 : KI M_X0_go 15 (nI 6) 17 := Or.inr (Or.inl ⟨6, ⟨by decide +kernel, rfl⟩, by decide⟩)
theorem d_X0_go_17 : Dc M_X0_go 17 (.imul) 1 18 := ⟨by decide +kernel, rfl⟩
theorem d_X0_go_18 : Dc M_X0_go 18 (.iload_n 2) 1 19 := ⟨by decide +kernel, rfl⟩
theorem d_X0_go_19 : Dc M_X0_go 19 (.iadd) 1 20 := ⟨by decide +kernel, rfl⟩
theorem d_X0_go_20 : Dc M_X0_go 20 (.aload_n 0) 1 21 := ⟨by decide +kernel, rfl⟩
theorem d_X0_go_21 : Dc M_X0_go 21 (.iload_n 1) 1 22 := ⟨by decide +kernel, rfl⟩
theorem d_X0_go_22 : Dc M_X0_go 22 (.iload_n 2) 1 23 := ⟨by decide +kernel, rfl⟩
theorem d_X0_go_23 : CV M_X0_go 23 M_X0_gone 2 26 := ⟨47, ⟨by decide +kernel, rfl⟩, Or.inl (inT (List.mem_append_right _ (List.mem_append_left _ (List.mem_of_getElem? (l := tables_1_2) (i := 185) (by decide +kernel))))), mf_X0_gone, mi_X0_gone, ⟨by decide, by decide⟩⟩
theorem d_X0_go_26 : KI M_X0_go 26 (nI 1) 27 := Or.inl ⟨1, ⟨by decide +kernel, rfl⟩, by decide⟩
theorem d_X0_go_27 : Dc M_X0_go 27 (.iadd) 1 28 := ⟨by decide +kernel, rfl⟩
theorem d_X0_go_28 : CS M_X0_go 28 M_X8_keep 3 31 := ⟨50, ⟨by decide +kernel, rfl⟩, Or.inr (inT (List.mem_append_right _ (List.mem_append_left _ (List.mem_of_getElem? (l := tables_1_2) (i := 189) (by decide +kernel))))), mf_X8_keep, ms_X8_keep, ⟨by decide, by decide⟩⟩
theorem d_X0_go_31 : Dc M_X0_go 31 (.return_) 1 32 := ⟨by decide +kernel, rfl⟩
theorem d_X0_gone_0 : Dc M_X0_gone 0 (.iload_n 1) 1 1 := ⟨by decide +kernel, rfl⟩
theorem d_X0_gone_1 : KI M_X0_gone 1 (-1 : Int32) 2 := Or.inl ⟨(-1), ⟨by decide +kernel, rfl⟩, by decide⟩
theorem d_X0_gone_2 : Di M_X0_gone 2 .ne 10 5 := ⟨8, by decide +kernel, by decide, rfl⟩
theorem d_X0_gone_5 : KI M_X0_gone 5 (nI 6) 7 := Or.inr (Or.inl ⟨6, ⟨by decide +kernel, rfl⟩, by decide⟩)
theorem d_X0_gone_7 : Dg M_X0_gone 7 11 := ⟨4, by decide +kernel, by decide⟩
theorem d_X0_gone_10 : Dc M_X0_gone 10 (.iload_n 1) 1 11 := ⟨by decide +kernel, rfl⟩
theorem d_X0_gone_11 : KI M_X0_gone 11 (nI 6) 13 := Or.inr (Or.inl ⟨6, ⟨by decide +kernel, rfl⟩, by decide⟩)
theorem d_X0_gone_13 : Dc M_X0_gone 13 (.imul) 1 14 := ⟨by decide +kernel, rfl⟩
theorem d_X0_gone_14 : Dc M_X0_gone 14 (.iload_n 2) 1 15 := ⟨by decide +kernel, rfl⟩
theorem d_X0_gone_15 : Dc M_X0_gone 15 (.iadd) 1 16 := ⟨by decide +kernel, rfl⟩
theorem d_X0_gone_16 : Dc M_X0_gone 16 (.istore_n 3) 1 17 := ⟨by decide +kernel, rfl⟩
theorem d_X0_gone_17 : Dc M_X0_gone 17 (.iload_n 3) 1 18 := ⟨by decide +kernel, rfl⟩
theorem d_X0_gone_18 : Db M_X0_gone 18 .lt 39 21 := ⟨21, by decide +kernel, by decide, rfl⟩
theorem d_X0_gone_21 : Dc M_X0_gone 21 (.iload_n 3) 1 22 := ⟨by decide +kernel, rfl⟩
theorem d_X0_gone_22 : Dc M_X0_gone 22 (.aload_n 0) 1 23 := ⟨by decide +kernel, rfl⟩
theorem d_X0_gone_23 : GF M_X0_gone 23 0 1 26 := ⟨9, ⟨by decide +kernel, rfl⟩, fl_X0_9⟩
theorem d_X0_gone_26 : Dc M_X0_gone 26 (.arraylength) 1 27 := ⟨by decide +kernel, rfl⟩
theorem d_X0_gone_27 : Di M_X0_gone 27 .ge 39 30 := ⟨12, by decide +kernel, by decide, rfl⟩
theorem d_X0_gone_30 : Dc M_X0_gone 30 (.aload_n 0) 1 31 := ⟨by decide +kernel, rfl⟩
theorem d_X0_gone_31 : GF M_X0_gone 31 0 1 34 := ⟨9, ⟨by decide +kernel, rfl⟩, fl_X0_9⟩
theorem d_X0_gone_34 : Dc M_X0_gone 34 (.iload_n 3) 1 35 := ⟨by decide +kernel, rfl⟩
theorem d_X0_gone_35 : Dc M_X0_gone 35 (.iaload) 1 36 := ⟨by decide +kernel, rfl⟩
theorem d_X0_gone_36 : Dg M_X0_gone 36 40 := ⟨4, by decide +kernel, by decide⟩
theorem d_X0_gone_39 : KI M_X0_gone 39 (nI 0) 40 := Or.inl ⟨0, ⟨by decide +kernel, rfl⟩, by decide⟩
theorem d_X0_gone_40 : Dc M_X0_gone 40 (.ireturn) 1 41 := ⟨by decide +kernel, rfl⟩
theorem d_X0_above_0 : Dc M_X0_above 0 (.iload_n 1) 1 1 := ⟨by decide +kernel, rfl⟩
theorem d_X0_above_1 : Dc M_X0_above 1 (.iload_n 2) 1 2 := ⟨by decide +kernel, rfl⟩
theorem d_X0_above_2 : Di M_X0_above 2 .ne 9 5 := ⟨7, by decide +kernel, by decide, rfl⟩
theorem d_X0_above_5 : KI M_X0_above 5 (nI 0) 6 := Or.inl ⟨0, ⟨by decide +kernel, rfl⟩, by decide⟩
theorem d_X0_above_6 : Dg M_X0_above 6 17 := ⟨11, by decide +kernel, by decide⟩
theorem d_X0_above_9 : Dc M_X0_above 9 (.aload_n 0) 1 10 := ⟨by decide +kernel, rfl⟩
theorem d_X0_above_10 : Dc M_X0_above 10 (.iload_n 1) 1 11 := ⟨by decide +kernel, rfl⟩
theorem d_X0_above_11 : Dc M_X0_above 11 (.iload_n 2) 1 12 := ⟨by decide +kernel, rfl⟩
theorem d_X0_above_12 : CV M_X0_above 12 M_X0_gone 2 15 := ⟨47, ⟨by decide +kernel, rfl⟩, Or.inl (inT (List.mem_append_right _ (List.mem_append_left _ (List.mem_of_getElem? (l := tables_1_2) (i := 185) (by decide +kernel))))), mf_X0_gone, mi_X0_gone, ⟨by decide, by decide⟩⟩
theorem d_X0_above_15 : KI M_X0_above 15 (nI 1) 16 := Or.inl ⟨1, ⟨by decide +kernel, rfl⟩, by decide⟩
theorem d_X0_above_16 : Dc M_X0_above 16 (.iadd) 1 17 := ⟨by decide +kernel, rfl⟩
theorem d_X0_above_17 : Dc M_X0_above 17 (.ireturn) 1 18 := ⟨by decide +kernel, rfl⟩
theorem d_X0_below_0 : Dc M_X0_below 0 (.iload_n 1) 1 1 := ⟨by decide +kernel, rfl⟩
theorem d_X0_below_1 : KI M_X0_below 1 (-1 : Int32) 2 := Or.inl ⟨(-1), ⟨by decide +kernel, rfl⟩, by decide⟩
theorem d_X0_below_2 : Di M_X0_below 2 .ne 10 5 := ⟨8, by decide +kernel, by decide, rfl⟩
theorem d_X0_below_5 : KI M_X0_below 5 (nI 6) 7 := Or.inr (Or.inl ⟨6, ⟨by decide +kernel, rfl⟩, by decide⟩)
theorem d_X0_below_7 : Dg M_X0_below 7 11 := ⟨4, by decide +kernel, by decide⟩
theorem d_X0_below_10 : KI M_X0_below 10 (nI 5) 11 := Or.inl ⟨5, ⟨by decide +kernel, rfl⟩, by decide⟩
theorem d_X0_below_11 : Dc M_X0_below 11 (.istore_n 2) 1 12 := ⟨by decide +kernel, rfl⟩
theorem d_X0_below_12 : KI M_X0_below 12 (nI 0) 13 := Or.inl ⟨0, ⟨by decide +kernel, rfl⟩, by decide⟩
theorem d_X0_below_13 : Dc M_X0_below 13 (.istore_n 3) 1 14 := ⟨by decide +kernel, rfl⟩
theorem d_X0_below_14 : Dc M_X0_below 14 (.iload_n 3) 1 15 := ⟨by decide +kernel, rfl⟩
theorem d_X0_below_15 : KI M_X0_below 15 (nI 6) 17 := Or.inr (Or.inl ⟨6, ⟨by decide +kernel, rfl⟩, by decide⟩)
theorem d_X0_below_17 : Di M_X0_below 17 .ge 35 20 := ⟨18, by decide +kernel, by decide, rfl⟩
theorem d_X0_below_20 : Dc M_X0_below 20 (.iload_n 2) 1 21 := ⟨by decide +kernel, rfl⟩
theorem d_X0_below_21 : Dc M_X0_below 21 (.aload_n 0) 1 22 := ⟨by decide +kernel, rfl⟩
theorem d_X0_below_22 : Dc M_X0_below 22 (.iload_n 1) 1 23 := ⟨by decide +kernel, rfl⟩
theorem d_X0_below_23 : Dc M_X0_below 23 (.iload_n 3) 1 24 := ⟨by decide +kernel, rfl⟩
theorem d_X0_below_24 : CV M_X0_below 24 M_X0_gone 2 27 := ⟨47, ⟨by decide +kernel, rfl⟩, Or.inl (inT (List.mem_append_right _ (List.mem_append_left _ (List.mem_of_getElem? (l := tables_1_2) (i := 185) (by decide +kernel))))), mf_X0_gone, mi_X0_gone, ⟨by decide, by decide⟩⟩
theorem d_X0_below_27 : Dc M_X0_below 27 (.iadd) 1 28 := ⟨by decide +kernel, rfl⟩
theorem d_X0_below_28 : Dc M_X0_below 28 (.istore_n 2) 1 29 := ⟨by decide +kernel, rfl⟩
theorem d_X0_below_29 : Dc M_X0_below 29 (.iinc 3 1) 3 32 := ⟨by decide +kernel, rfl⟩
theorem d_X0_below_32 : Dg M_X0_below 32 14 := ⟨(-18), by decide +kernel, by decide⟩
theorem d_X0_below_35 : Dc M_X0_below 35 (.iload_n 2) 1 36 := ⟨by decide +kernel, rfl⟩
theorem d_X0_below_36 : Dc M_X0_below 36 (.ireturn) 1 37 := ⟨by decide +kernel, rfl⟩
theorem d_X0_nextBehind_0 : Dc M_X0_nextBehind 0 (.aload_n 0) 1 1 := ⟨by decide +kernel, rfl⟩
theorem d_X0_nextBehind_1 : Dc M_X0_nextBehind 1 (.iload_n 1) 1 2 := ⟨by decide +kernel, rfl⟩
theorem d_X0_nextBehind_2 : CV M_X0_nextBehind 2 M_X0_tell 1 5 := ⟨54, ⟨by decide +kernel, rfl⟩, Or.inl (inT (List.mem_append_right _ (List.mem_append_left _ (List.mem_of_getElem? (l := tables_1_2) (i := 174) (by decide +kernel))))), mf_X0_tell, mi_X0_tell, ⟨by decide, by decide⟩⟩
theorem d_X0_nextBehind_5 : Dc M_X0_nextBehind 5 (.aload_n 0) 1 6 := ⟨by decide +kernel, rfl⟩
theorem d_X0_nextBehind_6 : GF M_X0_nextBehind 6 0 3 9 := ⟨21, ⟨by decide +kernel, rfl⟩, fl_X0_21⟩
theorem d_X0_nextBehind_9 : Dc M_X0_nextBehind 9 (.aload_n 0) 1 10 := ⟨by decide +kernel, rfl⟩
theorem d_X0_nextBehind_10 : Dc M_X0_nextBehind 10 (.iload_n 2) 1 11 := ⟨by decide +kernel, rfl⟩
theorem d_X0_nextBehind_11 : Dc M_X0_nextBehind 11 (.iload_n 3) 1 12 := ⟨by decide +kernel, rfl⟩
theorem d_X0_nextBehind_12 : CV M_X0_nextBehind 12 M_X0_above 2 15 := ⟨58, ⟨by decide +kernel, rfl⟩, Or.inl (inT (List.mem_append_right _ (List.mem_append_left _ (List.mem_of_getElem? (l := tables_1_2) (i := 190) (by decide +kernel))))), mf_X0_above, mi_X0_above, ⟨by decide, by decide⟩⟩
theorem d_X0_nextBehind_15 : Dc M_X0_nextBehind 15 (.i2l) 1 16 := ⟨by decide +kernel, rfl⟩
theorem d_X0_nextBehind_16 : Dc M_X0_nextBehind 16 (.aload_n 0) 1 17 := ⟨by decide +kernel, rfl⟩
theorem d_X0_nextBehind_17 : Dc M_X0_nextBehind 17 (.iload_n 2) 1 18 := ⟨by decide +kernel, rfl⟩
theorem d_X0_nextBehind_18 : CV M_X0_nextBehind 18 M_X0_below 1 21 := ⟨61, ⟨by decide +kernel, rfl⟩, Or.inl (inT (List.mem_append_right _ (List.mem_append_left _ (List.mem_of_getElem? (l := tables_1_2) (i := 194) (by decide +kernel))))), mf_X0_below, mi_X0_below, ⟨by decide, by decide⟩⟩
theorem d_X0_nextBehind_21 : Dc M_X0_nextBehind 21 (.i2l) 1 22 := ⟨by decide +kernel, rfl⟩
theorem d_X0_nextBehind_22 : CV M_X0_nextBehind 22 M_X2_become 2 25 := ⟨64, ⟨by decide +kernel, rfl⟩, Or.inr (inT (List.mem_append_right _ (List.mem_append_left _ (List.mem_of_getElem? (l := tables_1_2) (i := 198) (by decide +kernel))))), mf_X2_become, mi_X2_become, ⟨by decide, by decide⟩⟩
theorem d_X0_nextBehind_25 : Dc M_X0_nextBehind 25 (.areturn) 1 26 := ⟨by decide +kernel, rfl⟩
theorem d_X0_likelihood_0 : Dc M_X0_likelihood 0 (.aload_n 0) 1 1 := ⟨by decide +kernel, rfl⟩
theorem d_X0_likelihood_1 : Dc M_X0_likelihood 1 (.iload_n 1) 1 2 := ⟨by decide +kernel, rfl⟩
theorem d_X0_likelihood_2 : CV M_X0_likelihood 2 M_X0_tell 1 5 := ⟨54, ⟨by decide +kernel, rfl⟩, Or.inl (inT (List.mem_append_right _ (List.mem_append_left _ (List.mem_of_getElem? (l := tables_1_2) (i := 174) (by decide +kernel))))), mf_X0_tell, mi_X0_tell, ⟨by decide, by decide⟩⟩
theorem d_X0_likelihood_5 : Dc M_X0_likelihood 5 (.aload_n 0) 1 6 := ⟨by decide +kernel, rfl⟩
theorem d_X0_likelihood_6 : GF M_X0_likelihood 6 0 3 9 := ⟨21, ⟨by decide +kernel, rfl⟩, fl_X0_21⟩
theorem d_X0_likelihood_9 : Dc M_X0_likelihood 9 (.lconst 1) 1 10 := ⟨by decide +kernel, rfl⟩
theorem d_X0_likelihood_10 : Dc M_X0_likelihood 10 (.lconst 1) 1 11 := ⟨by decide +kernel, rfl⟩
theorem d_X0_likelihood_11 : CV M_X0_likelihood 11 M_X2_become 2 14 := ⟨64, ⟨by decide +kernel, rfl⟩, Or.inr (inT (List.mem_append_right _ (List.mem_append_left _ (List.mem_of_getElem? (l := tables_1_2) (i := 198) (by decide +kernel))))), mf_X2_become, mi_X2_become, ⟨by decide, by decide⟩⟩
theorem d_X0_likelihood_14 : Dc M_X0_likelihood 14 (.pop) 1 15 := ⟨by decide +kernel, rfl⟩
theorem d_X0_likelihood_15 : KI M_X0_likelihood 15 (nI 0) 16 := Or.inl ⟨0, ⟨by decide +kernel, rfl⟩, by decide⟩
theorem d_X0_likelihood_16 : Dc M_X0_likelihood 16 (.istore_n 2) 1 17 := ⟨by decide +kernel, rfl⟩
theorem d_X0_likelihood_17 : Dc M_X0_likelihood 17 (.iload_n 2) 1 18 := ⟨by decide +kernel, rfl⟩
theorem d_X0_likelihood_18 : Dc M_X0_likelihood 18 (.aload_n 0) 1 19 := ⟨by decide +kernel, rfl⟩
theorem d_X0_likelihood_19 : GF M_X0_likelihood 19 0 0 22 := ⟨25, ⟨by decide +kernel, rfl⟩, fl_X0_25⟩
theorem d_X0_likelihood_22 : Dc M_X0_likelihood 22 (.iload_n 1) 1 23 := ⟨by decide +kernel, rfl⟩
theorem d_X0_likelihood_23 : CV M_X0_likelihood 23 M_X4_lengthOf 1 26 := ⟨33, ⟨by decide +kernel, rfl⟩, Or.inr (inT (List.mem_append_right _ (List.mem_append_left _ (List.mem_of_getElem? (l := tables_1_2) (i := 179) (by decide +kernel))))), mf_X4_lengthOf, mi_X4_lengthOf, ⟨by decide, by decide⟩⟩
theorem d_X0_likelihood_26 : Di M_X0_likelihood 26 .ge 75 29 := ⟨49, by decide +kernel, by decide, rfl⟩
theorem d_X0_likelihood_29 : Dc M_X0_likelihood 29 (.aload_n 0) 1 30 := ⟨by decide +kernel, rfl⟩
theorem d_X0_likelihood_30 : GF M_X0_likelihood 30 0 0 33 := ⟨25, ⟨by decide +kernel, rfl⟩, fl_X0_25⟩
theorem d_X0_likelihood_33 : Dc M_X0_likelihood 33 (.iload_n 1) 1 34 := ⟨by decide +kernel, rfl⟩
theorem d_X0_likelihood_34 : Dc M_X0_likelihood 34 (.iload_n 2) 1 35 := ⟨by decide +kernel, rfl⟩
theorem d_X0_likelihood_35 : KI M_X0_likelihood 35 (nI 1) 36 := Or.inl ⟨1, ⟨by decide +kernel, rfl⟩, by decide⟩
theorem d_X0_likelihood_36 : Dc M_X0_likelihood 36 (.isub) 1 37 := ⟨by decide +kernel, rfl⟩
theorem d_X0_likelihood_37 : CV M_X0_likelihood 37 M_X4_shedOf 2 40 := ⟨39, ⟨by decide +kernel, rfl⟩, Or.inr (inT (List.mem_append_right _ (List.mem_append_left _ (List.mem_of_getElem? (l := tables_1_2) (i := 180) (by decide +kernel))))), mf_X4_shedOf, mi_X4_shedOf, ⟨by decide, by decide⟩⟩
theorem d_X0_likelihood_40 : Dc M_X0_likelihood 40 (.istore_n 3) 1 41 := ⟨by decide +kernel, rfl⟩
theorem d_X0_likelihood_41 : Dc M_X0_likelihood 41 (.aload_n 0) 1 42 := ⟨by decide +kernel, rfl⟩
theorem d_X0_likelihood_42 : GF M_X0_likelihood 42 0 3 45 := ⟨21, ⟨by decide +kernel, rfl⟩, fl_X0_21⟩
theorem d_X0_likelihood_45 : Dc M_X0_likelihood 45 (.aload_n 0) 1 46 := ⟨by decide +kernel, rfl⟩
theorem d_X0_likelihood_46 : Dc M_X0_likelihood 46 (.iload_n 3) 1 47 := ⟨by decide +kernel, rfl⟩
theorem d_X0_likelihood_47 : Dc M_X0_likelihood 47 (.aload_n 0) 1 48 := ⟨by decide +kernel, rfl⟩
theorem d_X0_likelihood_48 : GF M_X0_likelihood 48 0 0 51 := ⟨25, ⟨by decide +kernel, rfl⟩, fl_X0_25⟩
theorem d_X0_likelihood_51 : Dc M_X0_likelihood 51 (.iload_n 1) 1 52 := ⟨by decide +kernel, rfl⟩
theorem d_X0_likelihood_52 : Dc M_X0_likelihood 52 (.iload_n 2) 1 53 := ⟨by decide +kernel, rfl⟩
theorem d_X0_likelihood_53 : CV M_X0_likelihood 53 M_X4_shedOf 2 56 := ⟨39, ⟨by decide +kernel, rfl⟩, Or.inr (inT (List.mem_append_right _ (List.mem_append_left _ (List.mem_of_getElem? (l := tables_1_2) (i := 180) (by decide +kernel))))), mf_X4_shedOf, mi_X4_shedOf, ⟨by decide, by decide⟩⟩
theorem d_X0_likelihood_56 : CV M_X0_likelihood 56 M_X0_above 2 59 := ⟨58, ⟨by decide +kernel, rfl⟩, Or.inl (inT (List.mem_append_right _ (List.mem_append_left _ (List.mem_of_getElem? (l := tables_1_2) (i := 190) (by decide +kernel))))), mf_X0_above, mi_X0_above, ⟨by decide, by decide⟩⟩
theorem d_X0_likelihood_59 : Dc M_X0_likelihood 59 (.i2l) 1 60 := ⟨by decide +kernel, rfl⟩
theorem d_X0_likelihood_60 : Dc M_X0_likelihood 60 (.aload_n 0) 1 61 := ⟨by decide +kernel, rfl⟩
theorem d_X0_likelihood_61 : Dc M_X0_likelihood 61 (.iload_n 3) 1 62 := ⟨by decide +kernel, rfl⟩
theorem d_X0_likelihood_62 : CV M_X0_likelihood 62 M_X0_below 1 65 := ⟨61, ⟨by decide +kernel, rfl⟩, Or.inl (inT (List.mem_append_right _ (List.mem_append_left _ (List.mem_of_getElem? (l := tables_1_2) (i := 194) (by decide +kernel))))), mf_X0_below, mi_X0_below, ⟨by decide, by decide⟩⟩
theorem d_X0_likelihood_65 : Dc M_X0_likelihood 65 (.i2l) 1 66 := ⟨by decide +kernel, rfl⟩
theorem d_X0_likelihood_66 : CV M_X0_likelihood 66 M_X2_multiply 2 69 := ⟨68, ⟨by decide +kernel, rfl⟩, Or.inr (inT (List.mem_append_right _ (List.mem_append_left _ (List.mem_of_getElem? (l := tables_1_2) (i := 217) (by decide +kernel))))), mf_X2_multiply, mi_X2_multiply, ⟨by decide, by decide⟩⟩
theorem d_X0_likelihood_69 : Dc M_X0_likelihood 69 (.iinc 2 1) 3 72 := ⟨by decide +kernel, rfl⟩
theorem d_X0_likelihood_72 : Dg M_X0_likelihood 72 17 := ⟨(-55), by decide +kernel, by decide⟩
theorem d_X0_likelihood_75 : Dc M_X0_likelihood 75 (.aload_n 0) 1 76 := ⟨by decide +kernel, rfl⟩
theorem d_X0_likelihood_76 : GF M_X0_likelihood 76 0 3 79 := ⟨21, ⟨by decide +kernel, rfl⟩, fl_X0_21⟩
theorem d_X0_likelihood_79 : Dc M_X0_likelihood 79 (.areturn) 1 80 := ⟨by decide +kernel, rfl⟩
theorem d_X0_unlikeSteps_0 : Dc M_X0_unlikeSteps 0 (.aload_n 0) 1 1 := ⟨by decide +kernel, rfl⟩
theorem d_X0_unlikeSteps_1 : Dc M_X0_unlikeSteps 1 (.aload_n 0) 1 2 := ⟨by decide +kernel, rfl⟩
theorem d_X0_unlikeSteps_2 : GF M_X0_unlikeSteps 2 0 0 5 := ⟨25, ⟨by decide +kernel, rfl⟩, fl_X0_25⟩
theorem d_X0_unlikeSteps_5 : GF M_X0_unlikeSteps 5 4 4 8 := ⟨72, ⟨by decide +kernel, rfl⟩, fl_X0_72⟩
theorem d_X0_unlikeSteps_8 : CV M_X0_unlikeSteps 8 M_X0_tell 1 11 := ⟨54, ⟨by decide +kernel, rfl⟩, Or.inl (inT (List.mem_append_right _ (List.mem_append_left _ (List.mem_of_getElem? (l := tables_1_2) (i := 174) (by decide +kernel))))), mf_X0_tell, mi_X0_tell, ⟨by decide, by decide⟩⟩
theorem d_X0_unlikeSteps_11 : KI M_X0_unlikeSteps 11 (nI 0) 12 := Or.inl ⟨0, ⟨by decide +kernel, rfl⟩, by decide⟩
theorem d_X0_unlikeSteps_12 : Dc M_X0_unlikeSteps 12 (.istore_n 1) 1 13 := ⟨by decide +kernel, rfl⟩
theorem d_X0_unlikeSteps_13 : KI M_X0_unlikeSteps 13 (nI 0) 14 := Or.inl ⟨0, ⟨by decide +kernel, rfl⟩, by decide⟩
theorem d_X0_unlikeSteps_14 : Dc M_X0_unlikeSteps 14 (.istore_n 2) 1 15 := ⟨by decide +kernel, rfl⟩
theorem d_X0_unlikeSteps_15 : Dc M_X0_unlikeSteps 15 (.iload_n 2) 1 16 := ⟨by decide +kernel, rfl⟩
theorem d_X0_unlikeSteps_16 : Dc M_X0_unlikeSteps 16 (.aload_n 0) 1 17 := ⟨by decide +kernel, rfl⟩
theorem d_X0_unlikeSteps_17 : GF M_X0_unlikeSteps 17 0 1 20 := ⟨9, ⟨by decide +kernel, rfl⟩, fl_X0_9⟩
theorem d_X0_unlikeSteps_20 : Dc M_X0_unlikeSteps 20 (.arraylength) 1 21 := ⟨by decide +kernel, rfl⟩
theorem d_X0_unlikeSteps_21 : Di M_X0_unlikeSteps 21 .ge 49 24 := ⟨28, by decide +kernel, by decide, rfl⟩
theorem d_X0_unlikeSteps_24 : Dc M_X0_unlikeSteps 24 (.iload_n 1) 1 25 := ⟨by decide +kernel, rfl⟩
theorem d_X0_unlikeSteps_25 : Dc M_X0_unlikeSteps 25 (.aload_n 0) 1 26 := ⟨by decide +kernel, rfl⟩
theorem d_X0_unlikeSteps_26 : GF M_X0_unlikeSteps 26 0 1 29 := ⟨9, ⟨by decide +kernel, rfl⟩, fl_X0_9⟩
theorem d_X0_unlikeSteps_29 : Dc M_X0_unlikeSteps 29 (.iload_n 2) 1 30 := ⟨by decide +kernel, rfl⟩
theorem d_X0_unlikeSteps_30 : CS M_X0_unlikeSteps 30 M_X8_item 2 33 := ⟨76, ⟨by decide +kernel, rfl⟩, Or.inr (inT (List.mem_append_right _ (List.mem_append_left _ (List.mem_of_getElem? (l := tables_1_2) (i := 238) (by decide +kernel))))), mf_X8_item, ms_X8_item, ⟨by decide, by decide⟩⟩
theorem d_X0_unlikeSteps_33 : Db M_X0_unlikeSteps 33 .le 40 36 := ⟨7, by decide +kernel, by decide, rfl⟩
theorem d_X0_unlikeSteps_36 : KI M_X0_unlikeSteps 36 (nI 1) 37 := Or.inl ⟨1, ⟨by decide +kernel, rfl⟩, by decide⟩
theorem d_X0_unlikeSteps_37 : Dg M_X0_unlikeSteps 37 41 := ⟨4, by decide +kernel, by decide⟩
theorem d_X0_unlikeSteps_40 : KI M_X0_unlikeSteps 40 (nI 0) 41 := Or.inl ⟨0, ⟨by decide +kernel, rfl⟩, by decide⟩
theorem d_X0_unlikeSteps_41 : Dc M_X0_unlikeSteps 41 (.iadd) 1 42 := ⟨by decide +kernel, rfl⟩
theorem d_X0_unlikeSteps_42 : Dc M_X0_unlikeSteps 42 (.istore_n 1) 1 43 := ⟨by decide +kernel, rfl⟩
theorem d_X0_unlikeSteps_43 : Dc M_X0_unlikeSteps 43 (.iinc 2 1) 3 46 := ⟨by decide +kernel, rfl⟩
theorem d_X0_unlikeSteps_46 : Dg M_X0_unlikeSteps 46 15 := ⟨(-31), by decide +kernel, by decide⟩
theorem d_X0_unlikeSteps_49 : Dc M_X0_unlikeSteps 49 (.iload_n 1) 1 50 := ⟨by decide +kernel, rfl⟩
theorem d_X0_unlikeSteps_50 : Dc M_X0_unlikeSteps 50 (.ireturn) 1 51 := ⟨by decide +kernel, rfl⟩
theorem d_X0_allSteps_0 : Dc M_X0_allSteps 0 (.aload_n 0) 1 1 := ⟨by decide +kernel, rfl⟩
theorem d_X0_allSteps_1 : Dc M_X0_allSteps 1 (.aload_n 0) 1 2 := ⟨by decide +kernel, rfl⟩
theorem d_X0_allSteps_2 : GF M_X0_allSteps 2 0 0 5 := ⟨25, ⟨by decide +kernel, rfl⟩, fl_X0_25⟩
theorem d_X0_allSteps_5 : GF M_X0_allSteps 5 4 4 8 := ⟨72, ⟨by decide +kernel, rfl⟩, fl_X0_72⟩
theorem d_X0_allSteps_8 : CV M_X0_allSteps 8 M_X0_tell 1 11 := ⟨54, ⟨by decide +kernel, rfl⟩, Or.inl (inT (List.mem_append_right _ (List.mem_append_left _ (List.mem_of_getElem? (l := tables_1_2) (i := 174) (by decide +kernel))))), mf_X0_tell, mi_X0_tell, ⟨by decide, by decide⟩⟩
theorem d_X0_allSteps_11 : KI M_X0_allSteps 11 (nI 0) 12 := Or.inl ⟨0, ⟨by decide +kernel, rfl⟩, by decide⟩
theorem d_X0_allSteps_12 : Dc M_X0_allSteps 12 (.istore_n 1) 1 13 := ⟨by decide +kernel, rfl⟩
theorem d_X0_allSteps_13 : KI M_X0_allSteps 13 (nI 0) 14 := Or.inl ⟨0, ⟨by decide +kernel, rfl⟩, by decide⟩
theorem d_X0_allSteps_14 : Dc M_X0_allSteps 14 (.istore_n 2) 1 15 := ⟨by decide +kernel, rfl⟩
theorem d_X0_allSteps_15 : Dc M_X0_allSteps 15 (.iload_n 2) 1 16 := ⟨by decide +kernel, rfl⟩
theorem d_X0_allSteps_16 : Dc M_X0_allSteps 16 (.aload_n 0) 1 17 := ⟨by decide +kernel, rfl⟩
theorem d_X0_allSteps_17 : GF M_X0_allSteps 17 0 1 20 := ⟨9, ⟨by decide +kernel, rfl⟩, fl_X0_9⟩
theorem d_X0_allSteps_20 : Dc M_X0_allSteps 20 (.arraylength) 1 21 := ⟨by decide +kernel, rfl⟩
theorem d_X0_allSteps_21 : Di M_X0_allSteps 21 .ge 41 24 := ⟨20, by decide +kernel, by decide, rfl⟩
theorem d_X0_allSteps_24 : Dc M_X0_allSteps 24 (.iload_n 1) 1 25 := ⟨by decide +kernel, rfl⟩
theorem d_X0_allSteps_25 : Dc M_X0_allSteps 25 (.aload_n 0) 1 26 := ⟨by decide +kernel, rfl⟩
theorem d_X0_allSteps_26 : GF M_X0_allSteps 26 0 1 29 := ⟨9, ⟨by decide +kernel, rfl⟩, fl_X0_9⟩
theorem d_X0_allSteps_29 : Dc M_X0_allSteps 29 (.iload_n 2) 1 30 := ⟨by decide +kernel, rfl⟩
theorem d_X0_allSteps_30 : CS M_X0_allSteps 30 M_X8_item 2 33 := ⟨76, ⟨by decide +kernel, rfl⟩, Or.inr (inT (List.mem_append_right _ (List.mem_append_left _ (List.mem_of_getElem? (l := tables_1_2) (i := 238) (by decide +kernel))))), mf_X8_item, ms_X8_item, ⟨by decide, by decide⟩⟩
theorem d_X0_allSteps_33 : Dc M_X0_allSteps 33 (.iadd) 1 34 := ⟨by decide +kernel, rfl⟩
theorem d_X0_allSteps_34 : Dc M_X0_allSteps 34 (.istore_n 1) 1 35 := ⟨by decide +kernel, rfl⟩
theorem d_X0_allSteps_35 : Dc M_X0_allSteps 35 (.iinc 2 1) 3 38 := ⟨by decide +kernel, rfl⟩
theorem d_X0_allSteps_38 : Dg M_X0_allSteps 38 15 := ⟨(-23), by decide +kernel, by decide⟩
theorem d_X0_allSteps_41 : Dc M_X0_allSteps 41 (.iload_n 1) 1 42 := ⟨by decide +kernel, rfl⟩
theorem d_X0_allSteps_42 : Dc M_X0_allSteps 42 (.ireturn) 1 43 := ⟨by decide +kernel, rfl⟩
theorem d_X0_leastNewRow_0 : KI M_X0_leastNewRow 0 (nI 0) 1 := Or.inl ⟨0, ⟨by decide +kernel, rfl⟩, by decide⟩
theorem d_X0_leastNewRow_1 : Dc M_X0_leastNewRow 1 (.istore_n 2) 1 2 := ⟨by decide +kernel, rfl⟩
theorem d_X0_leastNewRow_2 : KI M_X0_leastNewRow 2 (-1 : Int32) 3 := Or.inl ⟨(-1), ⟨by decide +kernel, rfl⟩, by decide⟩
theorem d_X0_leastNewRow_3 : Dc M_X0_leastNewRow 3 (.istore_n 3) 1 4 := ⟨by decide +kernel, rfl⟩
theorem d_X0_leastNewRow_4 : KI M_X0_leastNewRow 4 (nI 0) 5 := Or.inl ⟨0, ⟨by decide +kernel, rfl⟩, by decide⟩
theorem d_X0_leastNewRow_5 : Dc M_X0_leastNewRow 5 (.istore 4) 2 7 := ⟨by decide +kernel, rfl⟩
theorem d_X0_leastNewRow_7 : Dc M_X0_leastNewRow 7 (.iload 4) 2 9 := ⟨by decide +kernel, rfl⟩
theorem d_X0_leastNewRow_9 : Dc M_X0_leastNewRow 9 (.iload_n 1) 1 10 := ⟨by decide +kernel, rfl⟩
theorem d_X0_leastNewRow_10 : Di M_X0_leastNewRow 10 .gt 46 13 := ⟨36, by decide +kernel, by decide, rfl⟩
theorem d_X0_leastNewRow_13 : Dc M_X0_leastNewRow 13 (.iload 4) 2 15 := ⟨by decide +kernel, rfl⟩
theorem d_X0_leastNewRow_15 : KI M_X0_leastNewRow 15 (nI 6) 17 := Or.inr (Or.inl ⟨6, ⟨by decide +kernel, rfl⟩, by decide⟩)
theorem d_X0_leastNewRow_17 : Di M_X0_leastNewRow 17 .ge 46 20 := ⟨29, by decide +kernel, by decide, rfl⟩
theorem d_X0_leastNewRow_20 : Dc M_X0_leastNewRow 20 (.aload_n 0) 1 21 := ⟨by decide +kernel, rfl⟩
theorem d_X0_leastNewRow_21 : Dc M_X0_leastNewRow 21 (.iload_n 2) 1 22 := ⟨by decide +kernel, rfl⟩
theorem d_X0_leastNewRow_22 : Dc M_X0_leastNewRow 22 (.iload_n 3) 1 23 := ⟨by decide +kernel, rfl⟩
theorem d_X0_leastNewRow_23 : CV M_X0_leastNewRow 23 M_X0_leastOn 2 26 := ⟨80, ⟨by decide +kernel, rfl⟩, Or.inl (inT (List.mem_append_right _ (List.mem_append_right _ (List.mem_append_left _ (List.mem_of_getElem? (l := tables_1_3) (i := 4) (by decide +kernel)))))), mf_X0_leastOn, mi_X0_leastOn, ⟨by decide, by decide⟩⟩
theorem d_X0_leastNewRow_26 : Dc M_X0_leastNewRow 26 (.istore_n 3) 1 27 := ⟨by decide +kernel, rfl⟩
theorem d_X0_leastNewRow_27 : Dc M_X0_leastNewRow 27 (.iload_n 3) 1 28 := ⟨by decide +kernel, rfl⟩
theorem d_X0_leastNewRow_28 : KI M_X0_leastNewRow 28 (-1 : Int32) 29 := Or.inl ⟨(-1), ⟨by decide +kernel, rfl⟩, by decide⟩
theorem d_X0_leastNewRow_29 : Di M_X0_leastNewRow 29 .ne 34 32 := ⟨5, by decide +kernel, by decide, rfl⟩
theorem d_X0_leastNewRow_32 : KI M_X0_leastNewRow 32 (-1 : Int32) 33 := Or.inl ⟨(-1), ⟨by decide +kernel, rfl⟩, by decide⟩
theorem d_X0_leastNewRow_33 : Dc M_X0_leastNewRow 33 (.ireturn) 1 34 := ⟨by decide +kernel, rfl⟩
theorem d_X0_leastNewRow_34 : Dc M_X0_leastNewRow 34 (.iload_n 2) 1 35 := ⟨by decide +kernel, rfl⟩
theorem d_X0_leastNewRow_35 : KI M_X0_leastNewRow 35 (nI 1) 36 := Or.inl ⟨1, ⟨by decide +kernel, rfl⟩, by decide⟩
theorem d_X0_leastNewRow_36 : Dc M_X0_leastNewRow 36 (.iload_n 3) 1 37 := ⟨by decide +kernel, rfl⟩
theorem d_X0_leastNewRow_37 : Dc M_X0_leastNewRow 37 (.ishl) 1 38 := ⟨by decide +kernel, rfl⟩
theorem d_X0_leastNewRow_38 : Dc M_X0_leastNewRow 38 (.ior) 1 39 := ⟨by decide +kernel, rfl⟩
theorem d_X0_leastNewRow_39 : Dc M_X0_leastNewRow 39 (.istore_n 2) 1 40 := ⟨by decide +kernel, rfl⟩
theorem d_X0_leastNewRow_40 : Dc M_X0_leastNewRow 40 (.iinc 4 1) 3 43 := ⟨by decide +kernel, rfl⟩
theorem d_X0_leastNewRow_43 : Dg M_X0_leastNewRow 43 7 := ⟨(-36), by decide +kernel, by decide⟩
theorem d_X0_leastNewRow_46 : Dc M_X0_leastNewRow 46 (.iload_n 3) 1 47 := ⟨by decide +kernel, rfl⟩
theorem d_X0_leastNewRow_47 : Dc M_X0_leastNewRow 47 (.ireturn) 1 48 := ⟨by decide +kernel, rfl⟩
theorem d_X0_findEndings_0 : Dc M_X0_findEndings 0 (.aload_n 0) 1 1 := ⟨by decide +kernel, rfl⟩
theorem d_X0_findEndings_1 : Dc M_X0_findEndings 1 (.aload_n 0) 1 2 := ⟨by decide +kernel, rfl⟩
theorem d_X0_findEndings_2 : GF M_X0_findEndings 2 0 0 5 := ⟨25, ⟨by decide +kernel, rfl⟩, fl_X0_25⟩
theorem d_X0_findEndings_5 : GF M_X0_findEndings 5 4 4 8 := ⟨72, ⟨by decide +kernel, rfl⟩, fl_X0_72⟩
theorem d_X0_findEndings_8 : CV M_X0_findEndings 8 M_X0_tell 1 11 := ⟨54, ⟨by decide +kernel, rfl⟩, Or.inl (inT (List.mem_append_right _ (List.mem_append_left _ (List.mem_of_getElem? (l := tables_1_2) (i := 174) (by decide +kernel))))), mf_X0_tell, mi_X0_tell, ⟨by decide, by decide⟩⟩
theorem d_X0_findEndings_11 : KI M_X0_findEndings 11 (nI 63) 13 := Or.inr (Or.inl ⟨63, ⟨by decide +kernel, rfl⟩, by decide⟩)
theorem d_X0_findEndings_13 : Dc M_X0_findEndings 13 (.istore_n 1) 1 14 := ⟨by decide +kernel, rfl⟩
theorem d_X0_findEndings_14 : Dc M_X0_findEndings 14 (.iload_n 1) 1 15 := ⟨by decide +kernel, rfl⟩
theorem d_X0_findEndings_15 : Db M_X0_findEndings 15 .le 57 18 := ⟨42, by decide +kernel, by decide, rfl⟩
theorem d_X0_findEndings_18 : KI M_X0_findEndings 18 (nI 0) 19 := Or.inl ⟨0, ⟨by decide +kernel, rfl⟩, by decide⟩
theorem d_X0_findEndings_19 : Dc M_X0_findEndings 19 (.istore_n 2) 1 20 := ⟨by decide +kernel, rfl⟩
theorem d_X0_findEndings_20 : Dc M_X0_findEndings 20 (.iload_n 2) 1 21 := ⟨by decide +kernel, rfl⟩
theorem d_X0_findEndings_21 : KI M_X0_findEndings 21 (nI 6) 23 := Or.inr (Or.inl ⟨6, ⟨by decide +kernel, rfl⟩, by decide⟩)
theorem d_X0_findEndings_23 : Di M_X0_findEndings 23 .ge 51 26 := ⟨28, by decide +kernel, by decide, rfl⟩
theorem d_X0_findEndings_26 : Dc M_X0_findEndings 26 (.aload_n 0) 1 27 := ⟨by decide +kernel, rfl⟩
theorem d_X0_findEndings_27 : GF M_X0_findEndings 27 0 2 30 := ⟨15, ⟨by decide +kernel, rfl⟩, fl_X0_15⟩
theorem d_X0_findEndings_30 : Dc M_X0_findEndings 30 (.iload_n 1) 1 31 := ⟨by decide +kernel, rfl⟩
theorem d_X0_findEndings_31 : KI M_X0_findEndings 31 (nI 6) 33 := Or.inr (Or.inl ⟨6, ⟨by decide +kernel, rfl⟩, by decide⟩)
theorem d_X0_findEndings_33 : Dc M_X0_findEndings 33 (.imul) 1 34 := ⟨by decide +kernel, rfl⟩
theorem d_X0_findEndings_34 : Dc M_X0_findEndings 34 (.iload_n 2) 1 35 := ⟨by decide +kernel, rfl⟩
theorem d_X0_findEndings_35 : Dc M_X0_findEndings 35 (.iadd) 1 36 := ⟨by decide +kernel, rfl⟩
theorem d_X0_findEndings_36 : Dc M_X0_findEndings 36 (.aload_n 0) 1 37 := ⟨by decide +kernel, rfl⟩
theorem d_X0_findEndings_37 : Dc M_X0_findEndings 37 (.iload_n 1) 1 38 := ⟨by decide +kernel, rfl⟩
theorem d_X0_findEndings_38 : Dc M_X0_findEndings 38 (.iload_n 2) 1 39 := ⟨by decide +kernel, rfl⟩
theorem d_X0_findEndings_39 : CV M_X0_findEndings 39 M_X0_endingsBehind 2 42 := ⟨83, ⟨by decide +kernel, rfl⟩, Or.inl (inT (List.mem_append_right _ (List.mem_append_left _ (List.mem_of_getElem? (l := tables_1_2) (i := 230) (by decide +kernel))))), mf_X0_endingsBehind, mi_X0_endingsBehind, ⟨by decide, by decide⟩⟩
theorem d_X0_findEndings_42 : CS M_X0_findEndings 42 M_X8_keep 3 45 := ⟨50, ⟨by decide +kernel, rfl⟩, Or.inr (inT (List.mem_append_right _ (List.mem_append_left _ (List.mem_of_getElem? (l := tables_1_2) (i := 189) (by decide +kernel))))), mf_X8_keep, ms_X8_keep, ⟨by decide, by decide⟩⟩
theorem d_X0_findEndings_45 : Dc M_X0_findEndings 45 (.iinc 2 1) 3 48 := ⟨by decide +kernel, rfl⟩
theorem d_X0_findEndings_48 : Dg M_X0_findEndings 48 20 := ⟨(-28), by decide +kernel, by decide⟩
theorem d_X0_findEndings_51 : Dc M_X0_findEndings 51 (.iinc 1 (-1)) 3 54 := ⟨by decide +kernel, rfl⟩
theorem d_X0_findEndings_54 : Dg M_X0_findEndings 54 14 := ⟨(-40), by decide +kernel, by decide⟩
theorem d_X0_findEndings_57 : Dc M_X0_findEndings 57 (.return_) 1 58 := ⟨by decide +kernel, rfl⟩
theorem d_X0_endingsBehind_0 : Dc M_X0_endingsBehind 0 (.iload_n 1) 1 1 := ⟨by decide +kernel, rfl⟩
theorem d_X0_endingsBehind_1 : KI M_X0_endingsBehind 1 (nI 63) 3 := Or.inr (Or.inl ⟨63, ⟨by decide +kernel, rfl⟩, by decide⟩)
theorem d_X0_endingsBehind_3 : Di M_X0_endingsBehind 3 .ne 8 6 := ⟨5, by decide +kernel, by decide, rfl⟩
theorem d_X0_endingsBehind_6 : KI M_X0_endingsBehind 6 (nI 1) 7 := Or.inl ⟨1, ⟨by decide +kernel, rfl⟩, by decide⟩
theorem d_X0_endingsBehind_7 : Dc M_X0_endingsBehind 7 (.ireturn) 1 8 := ⟨by decide +kernel, rfl⟩
theorem d_X0_endingsBehind_8 : KI M_X0_endingsBehind 8 (nI 0) 9 := Or.inl ⟨0, ⟨by decide +kernel, rfl⟩, by decide⟩
theorem d_X0_endingsBehind_9 : Dc M_X0_endingsBehind 9 (.istore_n 3) 1 10 := ⟨by decide +kernel, rfl⟩
theorem d_X0_endingsBehind_10 : KI M_X0_endingsBehind 10 (nI 0) 11 := Or.inl ⟨0, ⟨by decide +kernel, rfl⟩, by decide⟩
theorem d_X0_endingsBehind_11 : Dc M_X0_endingsBehind 11 (.istore 4) 2 13 := ⟨by decide +kernel, rfl⟩
theorem d_X0_endingsBehind_13 : Dc M_X0_endingsBehind 13 (.iload 4) 2 15 := ⟨by decide +kernel, rfl⟩
theorem d_X0_endingsBehind_15 : KI M_X0_endingsBehind 15 (nI 6) 17 := Or.inr (Or.inl ⟨6, ⟨by decide +kernel, rfl⟩, by decide⟩)
theorem d_X0_endingsBehind_17 : Di M_X0_endingsBehind 17 .ge 37 20 := ⟨20, by decide +kernel, by decide, rfl⟩
theorem d_X0_endingsBehind_20 : Dc M_X0_endingsBehind 20 (.iload_n 3) 1 21 := ⟨by decide +kernel, rfl⟩
theorem d_X0_endingsBehind_21 : Dc M_X0_endingsBehind 21 (.aload_n 0) 1 22 := ⟨by decide +kernel, rfl⟩
theorem d_X0_endingsBehind_22 : Dc M_X0_endingsBehind 22 (.iload_n 1) 1 23 := ⟨by decide +kernel, rfl⟩
theorem d_X0_endingsBehind_23 : Dc M_X0_endingsBehind 23 (.iload_n 2) 1 24 := ⟨by decide +kernel, rfl⟩
theorem d_X0_endingsBehind_24 : Dc M_X0_endingsBehind 24 (.iload 4) 2 26 := ⟨by decide +kernel, rfl⟩
theorem d_X0_endingsBehind_26 : CV M_X0_endingsBehind 26 M_X0_endingsBy 3 29 := ⟨86, ⟨by decide +kernel, rfl⟩, Or.inl (inT (List.mem_append_right _ (List.mem_append_left _ (List.mem_of_getElem? (l := tables_1_2) (i := 234) (by decide +kernel))))), mf_X0_endingsBy, mi_X0_endingsBy, ⟨by decide, by decide⟩⟩
theorem d_X0_endingsBehind_29 : Dc M_X0_endingsBehind 29 (.iadd) 1 30 := ⟨by decide +kernel, rfl⟩
theorem d_X0_endingsBehind_30 : Dc M_X0_endingsBehind 30 (.istore_n 3) 1 31 := ⟨by decide +kernel, rfl⟩
theorem d_X0_endingsBehind_31 : Dc M_X0_endingsBehind 31 (.iinc 4 1) 3 34 := ⟨by decide +kernel, rfl⟩
theorem d_X0_endingsBehind_34 : Dg M_X0_endingsBehind 34 13 := ⟨(-21), by decide +kernel, by decide⟩
theorem d_X0_endingsBehind_37 : Dc M_X0_endingsBehind 37 (.iload_n 3) 1 38 := ⟨by decide +kernel, rfl⟩
theorem d_X0_endingsBehind_38 : Dc M_X0_endingsBehind 38 (.ireturn) 1 39 := ⟨by decide +kernel, rfl⟩
theorem d_X0_endingsBy_0 : Dc M_X0_endingsBy 0 (.iload_n 1) 1 1 := ⟨by decide +kernel, rfl⟩
theorem d_X0_endingsBy_1 : Dc M_X0_endingsBy 1 (.iload_n 3) 1 2 := ⟨by decide +kernel, rfl⟩
theorem d_X0_endingsBy_2 : Dc M_X0_endingsBy 2 (.ishr) 1 3 := ⟨by decide +kernel, rfl⟩
theorem d_X0_endingsBy_3 : KI M_X0_endingsBy 3 (nI 1) 4 := Or.inl ⟨1, ⟨by decide +kernel, rfl⟩, by decide⟩
theorem d_X0_endingsBy_4 : Dc M_X0_endingsBy 4 (.iand) 1 5 := ⟨by decide +kernel, rfl⟩
theorem d_X0_endingsBy_5 : Db M_X0_endingsBy 5 .eq 12 8 := ⟨7, by decide +kernel, by decide, rfl⟩
theorem d_X0_endingsBy_8 : KI M_X0_endingsBy 8 (nI 1) 9 := Or.inl ⟨1, ⟨by decide +kernel, rfl⟩, by decide⟩
theorem d_X0_endingsBy_9 : Dg M_X0_endingsBy 9 13 := ⟨4, by decide +kernel, by decide⟩
theorem d_X0_endingsBy_12 : KI M_X0_endingsBy 12 (nI 0) 13 := Or.inl ⟨0, ⟨by decide +kernel, rfl⟩, by decide⟩
theorem d_X0_endingsBy_13 : Dc M_X0_endingsBy 13 (.istore 4) 2 15 := ⟨by decide +kernel, rfl⟩
theorem d_X0_endingsBy_15 : Dc M_X0_endingsBy 15 (.iload 4) 2 17 := ⟨by decide +kernel, rfl⟩
theorem d_X0_endingsBy_17 : Db M_X0_endingsBy 17 .ne 29 20 := ⟨12, by decide +kernel, by decide, rfl⟩
theorem d_X0_endingsBy_20 : Dc M_X0_endingsBy 20 (.aload_n 0) 1 21 := ⟨by decide +kernel, rfl⟩
theorem d_X0_endingsBy_21 : Dc M_X0_endingsBy 21 (.iload_n 2) 1 22 := ⟨by decide +kernel, rfl⟩
theorem d_X0_endingsBy_22 : Dc M_X0_endingsBy 22 (.iload_n 3) 1 23 := ⟨by decide +kernel, rfl⟩
theorem d_X0_endingsBy_23 : CV M_X0_endingsBy 23 M_X0_gone 2 26 := ⟨47, ⟨by decide +kernel, rfl⟩, Or.inl (inT (List.mem_append_right _ (List.mem_append_left _ (List.mem_of_getElem? (l := tables_1_2) (i := 185) (by decide +kernel))))), mf_X0_gone, mi_X0_gone, ⟨by decide, by decide⟩⟩
theorem d_X0_endingsBy_26 : Db M_X0_endingsBy 26 .le 33 29 := ⟨7, by decide +kernel, by decide, rfl⟩
theorem d_X0_endingsBy_29 : KI M_X0_endingsBy 29 (nI 0) 30 := Or.inl ⟨0, ⟨by decide +kernel, rfl⟩, by decide⟩
theorem d_X0_endingsBy_30 : Dg M_X0_endingsBy 30 50 := ⟨20, by decide +kernel, by decide⟩
theorem d_X0_endingsBy_33 : Dc M_X0_endingsBy 33 (.aload_n 0) 1 34 := ⟨by decide +kernel, rfl⟩
theorem d_X0_endingsBy_34 : GF M_X0_endingsBy 34 0 2 37 := ⟨15, ⟨by decide +kernel, rfl⟩, fl_X0_15⟩
theorem d_X0_endingsBy_37 : Dc M_X0_endingsBy 37 (.iload_n 1) 1 38 := ⟨by decide +kernel, rfl⟩
theorem d_X0_endingsBy_38 : KI M_X0_endingsBy 38 (nI 1) 39 := Or.inl ⟨1, ⟨by decide +kernel, rfl⟩, by decide⟩
theorem d_X0_endingsBy_39 : Dc M_X0_endingsBy 39 (.iload_n 3) 1 40 := ⟨by decide +kernel, rfl⟩
theorem d_X0_endingsBy_40 : Dc M_X0_endingsBy 40 (.ishl) 1 41 := ⟨by decide +kernel, rfl⟩
theorem d_X0_endingsBy_41 : Dc M_X0_endingsBy 41 (.ior) 1 42 := ⟨by decide +kernel, rfl⟩
theorem d_X0_endingsBy_42 : KI M_X0_endingsBy 42 (nI 6) 44 := Or.inr (Or.inl ⟨6, ⟨by decide +kernel, rfl⟩, by decide⟩)
theorem d_X0_endingsBy_44 : Dc M_X0_endingsBy 44 (.imul) 1 45 := ⟨by decide +kernel, rfl⟩
theorem d_X0_endingsBy_45 : Dc M_X0_endingsBy 45 (.iload_n 3) 1 46 := ⟨by decide +kernel, rfl⟩
theorem d_X0_endingsBy_46 : Dc M_X0_endingsBy 46 (.iadd) 1 47 := ⟨by decide +kernel, rfl⟩
theorem d_X0_endingsBy_47 : CS M_X0_endingsBy 47 M_X8_item 2 50 := ⟨76, ⟨by decide +kernel, rfl⟩, Or.inr (inT (List.mem_append_right _ (List.mem_append_left _ (List.mem_of_getElem? (l := tables_1_2) (i := 238) (by decide +kernel))))), mf_X8_item, ms_X8_item, ⟨by decide, by decide⟩⟩
theorem d_X0_endingsBy_50 : Dc M_X0_endingsBy 50 (.ireturn) 1 51 := ⟨by decide +kernel, rfl⟩
theorem d_X0_leastOn_0 : KI M_X0_leastOn 0 (nI 0) 1 := Or.inl ⟨0, ⟨by decide +kernel, rfl⟩, by decide⟩
theorem d_X0_leastOn_1 : Dc M_X0_leastOn 1 (.istore_n 3) 1 2 := ⟨by decide +kernel, rfl⟩
theorem d_X0_leastOn_2 : Dc M_X0_leastOn 2 (.iload_n 3) 1 3 := ⟨by decide +kernel, rfl⟩
theorem d_X0_leastOn_3 : KI M_X0_leastOn 3 (nI 6) 5 := Or.inr (Or.inl ⟨6, ⟨by decide +kernel, rfl⟩, by decide⟩)
theorem d_X0_leastOn_5 : Di M_X0_leastOn 5 .ge 26 8 := ⟨21, by decide +kernel, by decide, rfl⟩
theorem d_X0_leastOn_8 : Dc M_X0_leastOn 8 (.aload_n 0) 1 9 := ⟨by decide +kernel, rfl⟩
theorem d_X0_leastOn_9 : Dc M_X0_leastOn 9 (.iload_n 1) 1 10 := ⟨by decide +kernel, rfl⟩
theorem d_X0_leastOn_10 : Dc M_X0_leastOn 10 (.iload_n 2) 1 11 := ⟨by decide +kernel, rfl⟩
theorem d_X0_leastOn_11 : Dc M_X0_leastOn 11 (.iload_n 3) 1 12 := ⟨by decide +kernel, rfl⟩
theorem d_X0_leastOn_12 : CV M_X0_leastOn 12 M_X0_endingsBy 3 15 := ⟨86, ⟨by decide +kernel, rfl⟩, Or.inl (inT (List.mem_append_right _ (List.mem_append_left _ (List.mem_of_getElem? (l := tables_1_2) (i := 234) (by decide +kernel))))), mf_X0_endingsBy, mi_X0_endingsBy, ⟨by decide, by decide⟩⟩
theorem d_X0_leastOn_15 : Db M_X0_leastOn 15 .le 20 18 := ⟨5, by decide +kernel, by decide, rfl⟩
theorem d_X0_leastOn_18 : Dc M_X0_leastOn 18 (.iload_n 3) 1 19 := ⟨by decide +kernel, rfl⟩
theorem d_X0_leastOn_19 : Dc M_X0_leastOn 19 (.ireturn) 1 20 := ⟨by decide +kernel, rfl⟩
theorem d_X0_leastOn_20 : Dc M_X0_leastOn 20 (.iinc 3 1) 3 23 := ⟨by decide +kernel, rfl⟩
theorem d_X0_leastOn_23 : Dg M_X0_leastOn 23 2 := ⟨(-21), by decide +kernel, by decide⟩
theorem d_X0_leastOn_26 : KI M_X0_leastOn 26 (-1 : Int32) 27 := Or.inl ⟨(-1), ⟨by decide +kernel, rfl⟩, by decide⟩
theorem d_X0_leastOn_27 : Dc M_X0_leastOn 27 (.ireturn) 1 28 := ⟨by decide +kernel, rfl⟩
