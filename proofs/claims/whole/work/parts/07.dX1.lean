theorem d_X1_init_0 : Dc M_X1_init 0 (.aload_n 0) 1 1 := ⟨by decide +kernel, rfl⟩
theorem d_X1_init_1 : OI M_X1_init 1 4 := ⟨3, ⟨by decide +kernel, rfl⟩, inT (List.mem_append_left _ (List.mem_of_getElem? (l := tables_1_1) (i := 175) (by decide +kernel)))⟩
theorem d_X1_init_4 : Dc M_X1_init 4 (.aload_n 0) 1 5 := ⟨by decide +kernel, rfl⟩
theorem d_X1_init_5 : NW M_X1_init 5 2 8 := ⟨9, ⟨by decide +kernel, rfl⟩, by decide, inT (List.mem_append_left _ (List.mem_of_getElem? (l := tables_1_1) (i := 176) (by decide +kernel))), inT (List.mem_append_left _ (List.mem_of_getElem? (l := tables_1_1) (i := 101) (by decide +kernel))), inT (List.mem_append_left _ (List.mem_of_getElem? (l := tables_1_1) (i := 6) (by decide +kernel)))⟩
theorem d_X1_init_8 : Dc M_X1_init 8 (.dup) 1 9 := ⟨by decide +kernel, rfl⟩
theorem d_X1_init_9 : CI M_X1_init 9 M_X2_init 0 12 := ⟨11, ⟨by decide +kernel, rfl⟩, Or.inr (inT (List.mem_append_left _ (List.mem_of_getElem? (l := tables_1_1) (i := 177) (by decide +kernel)))), mf_X2_init, mi_X2_init, by rfl, rfl, ⟨by decide, by decide⟩⟩
theorem d_X1_init_12 : PF M_X1_init 12 1 1 15 := ⟨12, ⟨by decide +kernel, rfl⟩, ⟨by decide, by decide⟩, inT (List.mem_append_left _ (List.mem_of_getElem? (l := tables_1_1) (i := 179) (by decide +kernel)))⟩
theorem d_X1_init_15 : Dc M_X1_init 15 (.aload_n 0) 1 16 := ⟨by decide +kernel, rfl⟩
theorem d_X1_init_16 : Dc M_X1_init 16 (.aload_n 1) 1 17 := ⟨by decide +kernel, rfl⟩
theorem d_X1_init_17 : PF M_X1_init 17 1 0 20 := ⟨18, ⟨by decide +kernel, rfl⟩, ⟨by decide, by decide⟩, inT (List.mem_append_left _ (List.mem_of_getElem? (l := tables_1_1) (i := 178) (by decide +kernel)))⟩
theorem d_X1_init_20 : Dc M_X1_init 20 (.return_) 1 21 := ⟨by decide +kernel, rfl⟩
theorem d_X1_alike_0 : KI M_X1_alike 0 (nI 0) 1 := Or.inl ⟨0, ⟨by decide +kernel, rfl⟩, by decide⟩
theorem d_X1_alike_1 : Dc M_X1_alike 1 (.istore_n 2) 1 2 := ⟨by decide +kernel, rfl⟩
theorem d_X1_alike_2 : KI M_X1_alike 2 (nI 0) 3 := Or.inl ⟨0, ⟨by decide +kernel, rfl⟩, by decide⟩
theorem d_X1_alike_3 : Dc M_X1_alike 3 (.istore_n 3) 1 4 := ⟨by decide +kernel, rfl⟩
theorem d_X1_alike_4 : Dc M_X1_alike 4 (.iload_n 3) 1 5 := ⟨by decide +kernel, rfl⟩
theorem d_X1_alike_5 : Dc M_X1_alike 5 (.aload_n 0) 1 6 := ⟨by decide +kernel, rfl⟩
theorem d_X1_alike_6 : GF M_X1_alike 6 1 0 9 := ⟨18, ⟨by decide +kernel, rfl⟩, fl_X1_18⟩
theorem d_X1_alike_9 : GF M_X1_alike 9 4 4 12 := ⟨22, ⟨by decide +kernel, rfl⟩, fl_X1_22⟩
theorem d_X1_alike_12 : Di M_X1_alike 12 .ge 41 15 := ⟨29, by decide +kernel, by decide, rfl⟩
theorem d_X1_alike_15 : Dc M_X1_alike 15 (.iload_n 2) 1 16 := ⟨by decide +kernel, rfl⟩
theorem d_X1_alike_16 : Dc M_X1_alike 16 (.aload_n 0) 1 17 := ⟨by decide +kernel, rfl⟩
theorem d_X1_alike_17 : GF M_X1_alike 17 1 0 20 := ⟨18, ⟨by decide +kernel, rfl⟩, fl_X1_18⟩
theorem d_X1_alike_20 : Dc M_X1_alike 20 (.iload_n 1) 1 21 := ⟨by decide +kernel, rfl⟩
theorem d_X1_alike_21 : Dc M_X1_alike 21 (.iload_n 3) 1 22 := ⟨by decide +kernel, rfl⟩
theorem d_X1_alike_22 : CV M_X1_alike 22 M_X4_same 2 25 := ⟨28, ⟨by decide +kernel, rfl⟩, Or.inr (inT (List.mem_append_right _ (List.mem_append_right _ (List.mem_append_left _ (List.mem_of_getElem? (l := tables_1_3) (i := 84) (by decide +kernel)))))), mf_X4_same, mi_X4_same, ⟨by decide, by decide⟩⟩
theorem d_X1_alike_25 : Db M_X1_alike 25 .eq 32 28 := ⟨7, by decide +kernel, by decide, rfl⟩
theorem d_X1_alike_28 : KI M_X1_alike 28 (nI 1) 29 := Or.inl ⟨1, ⟨by decide +kernel, rfl⟩, by decide⟩
theorem d_X1_alike_29 : Dg M_X1_alike 29 33 := ⟨4, by decide +kernel, by decide⟩
theorem d_X1_alike_32 : KI M_X1_alike 32 (nI 0) 33 := Or.inl ⟨0, ⟨by decide +kernel, rfl⟩, by decide⟩
theorem d_X1_alike_33 : Dc M_X1_alike 33 (.iadd) 1 34 := ⟨by decide +kernel, rfl⟩
theorem d_X1_alike_34 : Dc M_X1_alike 34 (.istore_n 2) 1 35 := ⟨by decide +kernel, rfl⟩
theorem d_X1_alike_35 : Dc M_X1_alike 35 (.iinc 3 1) 3 38 := ⟨by decide +kernel, rfl⟩
theorem d_X1_alike_38 : Dg M_X1_alike 38 4 := ⟨(-34), by decide +kernel, by decide⟩
theorem d_X1_alike_41 : Dc M_X1_alike 41 (.iload_n 2) 1 42 := ⟨by decide +kernel, rfl⟩
theorem d_X1_alike_42 : Dc M_X1_alike 42 (.ireturn) 1 43 := ⟨by decide +kernel, rfl⟩
theorem d_X1_chance_0 : Dc M_X1_chance 0 (.aload_n 0) 1 1 := ⟨by decide +kernel, rfl⟩
theorem d_X1_chance_1 : Dc M_X1_chance 1 (.iload_n 1) 1 2 := ⟨by decide +kernel, rfl⟩
theorem d_X1_chance_2 : CV M_X1_chance 2 M_X1_alike 1 5 := ⟨32, ⟨by decide +kernel, rfl⟩, Or.inl (inT (List.mem_append_right _ (List.mem_append_right _ (List.mem_append_left _ (List.mem_of_getElem? (l := tables_1_3) (i := 93) (by decide +kernel)))))), mf_X1_alike, mi_X1_alike, ⟨by decide, by decide⟩⟩
theorem d_X1_chance_5 : Dc M_X1_chance 5 (.istore_n 3) 1 6 := ⟨by decide +kernel, rfl⟩
theorem d_X1_chance_6 : Dc M_X1_chance 6 (.aload_n 0) 1 7 := ⟨by decide +kernel, rfl⟩
theorem d_X1_chance_7 : GF M_X1_chance 7 1 0 10 := ⟨18, ⟨by decide +kernel, rfl⟩, fl_X1_18⟩
theorem d_X1_chance_10 : GF M_X1_chance 10 4 4 13 := ⟨22, ⟨by decide +kernel, rfl⟩, fl_X1_22⟩
theorem d_X1_chance_13 : Dc M_X1_chance 13 (.iload_n 3) 1 14 := ⟨by decide +kernel, rfl⟩
theorem d_X1_chance_14 : Dc M_X1_chance 14 (.isub) 1 15 := ⟨by decide +kernel, rfl⟩
theorem d_X1_chance_15 : Dc M_X1_chance 15 (.istore 4) 2 17 := ⟨by decide +kernel, rfl⟩
theorem d_X1_chance_17 : Dc M_X1_chance 17 (.aload_n 0) 1 18 := ⟨by decide +kernel, rfl⟩
theorem d_X1_chance_18 : GF M_X1_chance 18 1 1 21 := ⟨12, ⟨by decide +kernel, rfl⟩, fl_X1_12⟩
theorem d_X1_chance_21 : Dc M_X1_chance 21 (.lconst 1) 1 22 := ⟨by decide +kernel, rfl⟩
theorem d_X1_chance_22 : Dc M_X1_chance 22 (.lconst 1) 1 23 := ⟨by decide +kernel, rfl⟩
theorem d_X1_chance_23 : CV M_X1_chance 23 M_X2_become 2 26 := ⟨36, ⟨by decide +kernel, rfl⟩, Or.inr (inT (List.mem_append_right _ (List.mem_append_right _ (List.mem_append_left _ (List.mem_of_getElem? (l := tables_1_3) (i := 94) (by decide +kernel)))))), mf_X2_become, mi_X2_become, ⟨by decide, by decide⟩⟩
theorem d_X1_chance_26 : Dc M_X1_chance 26 (.pop) 1 27 := ⟨by decide +kernel, rfl⟩
theorem d_X1_chance_27 : KI M_X1_chance 27 (nI 1) 28 := Or.inl ⟨1, ⟨by decide +kernel, rfl⟩, by decide⟩
theorem d_X1_chance_28 : Dc M_X1_chance 28 (.istore 5) 2 30 := ⟨by decide +kernel, rfl⟩
theorem d_X1_chance_30 : Dc M_X1_chance 30 (.iload 5) 2 32 := ⟨by decide +kernel, rfl⟩
theorem d_X1_chance_32 : Dc M_X1_chance 32 (.iload_n 3) 1 33 := ⟨by decide +kernel, rfl⟩
theorem d_X1_chance_33 : Di M_X1_chance 33 .gt 65 36 := ⟨32, by decide +kernel, by decide, rfl⟩
theorem d_X1_chance_36 : Dc M_X1_chance 36 (.aload_n 0) 1 37 := ⟨by decide +kernel, rfl⟩
theorem d_X1_chance_37 : GF M_X1_chance 37 1 1 40 := ⟨12, ⟨by decide +kernel, rfl⟩, fl_X1_12⟩
theorem d_X1_chance_40 : Dc M_X1_chance 40 (.iload_n 2) 1 41 := ⟨by decide +kernel, rfl⟩
theorem d_X1_chance_41 : Dc M_X1_chance 41 (.i2l) 1 42 := ⟨by decide +kernel, rfl⟩
theorem d_X1_chance_42 : Dc M_X1_chance 42 (.iload 4) 2 44 := ⟨by decide +kernel, rfl⟩
theorem d_X1_chance_44 : Dc M_X1_chance 44 (.iload 5) 2 46 := ⟨by decide +kernel, rfl⟩
theorem d_X1_chance_46 : Dc M_X1_chance 46 (.iadd) 1 47 := ⟨by decide +kernel, rfl⟩
theorem d_X1_chance_47 : Dc M_X1_chance 47 (.i2l) 1 48 := ⟨by decide +kernel, rfl⟩
theorem d_X1_chance_48 : Dc M_X1_chance 48 (.lmul) 1 49 := ⟨by decide +kernel, rfl⟩
theorem d_X1_chance_49 : LL M_X1_chance 49 (lN 16) 52 := ⟨40, ⟨by decide +kernel, rfl⟩, inT (List.mem_append_right _ (List.mem_append_right _ (List.mem_append_left _ (List.mem_of_getElem? (l := tables_1_3) (i := 95) (by decide +kernel)))))⟩
theorem d_X1_chance_52 : Dc M_X1_chance 52 (.iload 5) 2 54 := ⟨by decide +kernel, rfl⟩
theorem d_X1_chance_54 : Dc M_X1_chance 54 (.i2l) 1 55 := ⟨by decide +kernel, rfl⟩
theorem d_X1_chance_55 : Dc M_X1_chance 55 (.lmul) 1 56 := ⟨by decide +kernel, rfl⟩
theorem d_X1_chance_56 : CV M_X1_chance 56 M_X2_multiply 2 59 := ⟨42, ⟨by decide +kernel, rfl⟩, Or.inr (inT (List.mem_append_right _ (List.mem_append_right _ (List.mem_append_left _ (List.mem_of_getElem? (l := tables_1_3) (i := 96) (by decide +kernel)))))), mf_X2_multiply, mi_X2_multiply, ⟨by decide, by decide⟩⟩
theorem d_X1_chance_59 : Dc M_X1_chance 59 (.iinc 5 1) 3 62 := ⟨by decide +kernel, rfl⟩
theorem d_X1_chance_62 : Dg M_X1_chance 62 30 := ⟨(-32), by decide +kernel, by decide⟩
theorem d_X1_chance_65 : KI M_X1_chance 65 (nI 0) 66 := Or.inl ⟨0, ⟨by decide +kernel, rfl⟩, by decide⟩
theorem d_X1_chance_66 : Dc M_X1_chance 66 (.istore 5) 2 68 := ⟨by decide +kernel, rfl⟩
theorem d_X1_chance_68 : Dc M_X1_chance 68 (.iload 5) 2 70 := ⟨by decide +kernel, rfl⟩
theorem d_X1_chance_70 : Dc M_X1_chance 70 (.iload 4) 2 72 := ⟨by decide +kernel, rfl⟩
theorem d_X1_chance_72 : Di M_X1_chance 72 .ge 96 75 := ⟨24, by decide +kernel, by decide, rfl⟩
theorem d_X1_chance_75 : Dc M_X1_chance 75 (.aload_n 0) 1 76 := ⟨by decide +kernel, rfl⟩
theorem d_X1_chance_76 : GF M_X1_chance 76 1 1 79 := ⟨12, ⟨by decide +kernel, rfl⟩, fl_X1_12⟩
theorem d_X1_chance_79 : KI M_X1_chance 79 (nI 16) 81 := Or.inr (Or.inl ⟨16, ⟨by decide +kernel, rfl⟩, by decide⟩)
theorem d_X1_chance_81 : Dc M_X1_chance 81 (.iload_n 2) 1 82 := ⟨by decide +kernel, rfl⟩
theorem d_X1_chance_82 : Dc M_X1_chance 82 (.isub) 1 83 := ⟨by decide +kernel, rfl⟩
theorem d_X1_chance_83 : Dc M_X1_chance 83 (.i2l) 1 84 := ⟨by decide +kernel, rfl⟩
theorem d_X1_chance_84 : LL M_X1_chance 84 (lN 16) 87 := ⟨40, ⟨by decide +kernel, rfl⟩, inT (List.mem_append_right _ (List.mem_append_right _ (List.mem_append_left _ (List.mem_of_getElem? (l := tables_1_3) (i := 95) (by decide +kernel)))))⟩
theorem d_X1_chance_87 : CV M_X1_chance 87 M_X2_multiply 2 90 := ⟨42, ⟨by decide +kernel, rfl⟩, Or.inr (inT (List.mem_append_right _ (List.mem_append_right _ (List.mem_append_left _ (List.mem_of_getElem? (l := tables_1_3) (i := 96) (by decide +kernel)))))), mf_X2_multiply, mi_X2_multiply, ⟨by decide, by decide⟩⟩
theorem d_X1_chance_90 : Dc M_X1_chance 90 (.iinc 5 1) 3 93 := ⟨by decide +kernel, rfl⟩
theorem d_X1_chance_93 : Dg M_X1_chance 93 68 := ⟨(-25), by decide +kernel, by decide⟩
theorem d_X1_chance_96 : Dc M_X1_chance 96 (.aload_n 0) 1 97 := ⟨by decide +kernel, rfl⟩
theorem d_X1_chance_97 : GF M_X1_chance 97 1 1 100 := ⟨12, ⟨by decide +kernel, rfl⟩, fl_X1_12⟩
theorem d_X1_chance_100 : Dc M_X1_chance 100 (.areturn) 1 101 := ⟨by decide +kernel, rfl⟩
theorem d_X1_fittingSeeds_0 : KI M_X1_fittingSeeds 0 (nI 0) 1 := Or.inl ⟨0, ⟨by decide +kernel, rfl⟩, by decide⟩
theorem d_X1_fittingSeeds_1 : Dc M_X1_fittingSeeds 1 (.istore_n 1) 1 2 := ⟨by decide +kernel, rfl⟩
theorem d_X1_fittingSeeds_2 : KI M_X1_fittingSeeds 2 (nI 0) 3 := Or.inl ⟨0, ⟨by decide +kernel, rfl⟩, by decide⟩
theorem d_X1_fittingSeeds_3 : Dc M_X1_fittingSeeds 3 (.istore_n 2) 1 4 := ⟨by decide +kernel, rfl⟩
theorem d_X1_fittingSeeds_4 : Dc M_X1_fittingSeeds 4 (.iload_n 2) 1 5 := ⟨by decide +kernel, rfl⟩
theorem d_X1_fittingSeeds_5 : KI M_X1_fittingSeeds 5 (nI 100) 7 := Or.inr (Or.inl ⟨100, ⟨by decide +kernel, rfl⟩, by decide⟩)
theorem d_X1_fittingSeeds_7 : Di M_X1_fittingSeeds 7 .ge 32 10 := ⟨25, by decide +kernel, by decide, rfl⟩
theorem d_X1_fittingSeeds_10 : Dc M_X1_fittingSeeds 10 (.iload_n 1) 1 11 := ⟨by decide +kernel, rfl⟩
theorem d_X1_fittingSeeds_11 : Dc M_X1_fittingSeeds 11 (.aload_n 0) 1 12 := ⟨by decide +kernel, rfl⟩
theorem d_X1_fittingSeeds_12 : Dc M_X1_fittingSeeds 12 (.iload_n 2) 1 13 := ⟨by decide +kernel, rfl⟩
theorem d_X1_fittingSeeds_13 : CV M_X1_fittingSeeds 13 M_X1_fits 1 16 := ⟨46, ⟨by decide +kernel, rfl⟩, Or.inl (inT (List.mem_append_right _ (List.mem_append_right _ (List.mem_append_left _ (List.mem_of_getElem? (l := tables_1_3) (i := 105) (by decide +kernel)))))), mf_X1_fits, mi_X1_fits, ⟨by decide, by decide⟩⟩
theorem d_X1_fittingSeeds_16 : Db M_X1_fittingSeeds 16 .eq 23 19 := ⟨7, by decide +kernel, by decide, rfl⟩
theorem d_X1_fittingSeeds_19 : KI M_X1_fittingSeeds 19 (nI 1) 20 := Or.inl ⟨1, ⟨by decide +kernel, rfl⟩, by decide⟩
theorem d_X1_fittingSeeds_20 : Dg M_X1_fittingSeeds 20 24 := ⟨4, by decide +kernel, by decide⟩
theorem d_X1_fittingSeeds_23 : KI M_X1_fittingSeeds 23 (nI 0) 24 := Or.inl ⟨0, ⟨by decide +kernel, rfl⟩, by decide⟩
theorem d_X1_fittingSeeds_24 : Dc M_X1_fittingSeeds 24 (.iadd) 1 25 := ⟨by decide +kernel, rfl⟩
theorem d_X1_fittingSeeds_25 : Dc M_X1_fittingSeeds 25 (.istore_n 1) 1 26 := ⟨by decide +kernel, rfl⟩
theorem d_X1_fittingSeeds_26 : Dc M_X1_fittingSeeds 26 (.iinc 2 1) 3 29 := ⟨by decide +kernel, rfl⟩
theorem d_X1_fittingSeeds_29 : Dg M_X1_fittingSeeds 29 4 := ⟨(-25), by decide +kernel, by decide⟩
theorem d_X1_fittingSeeds_32 : Dc M_X1_fittingSeeds 32 (.iload_n 1) 1 33 := ⟨by decide +kernel, rfl⟩
theorem d_X1_fittingSeeds_33 : Dc M_X1_fittingSeeds 33 (.ireturn) 1 34 := ⟨by decide +kernel, rfl⟩
theorem d_X1_leastSeed_0 : KI M_X1_leastSeed 0 (nI 0) 1 := Or.inl ⟨0, ⟨by decide +kernel, rfl⟩, by decide⟩
theorem d_X1_leastSeed_1 : Dc M_X1_leastSeed 1 (.istore_n 1) 1 2 := ⟨by decide +kernel, rfl⟩
theorem d_X1_leastSeed_2 : Dc M_X1_leastSeed 2 (.iload_n 1) 1 3 := ⟨by decide +kernel, rfl⟩
theorem d_X1_leastSeed_3 : KI M_X1_leastSeed 3 (nI 100) 5 := Or.inr (Or.inl ⟨100, ⟨by decide +kernel, rfl⟩, by decide⟩)
theorem d_X1_leastSeed_5 : Di M_X1_leastSeed 5 .ge 24 8 := ⟨19, by decide +kernel, by decide, rfl⟩
theorem d_X1_leastSeed_8 : Dc M_X1_leastSeed 8 (.aload_n 0) 1 9 := ⟨by decide +kernel, rfl⟩
theorem d_X1_leastSeed_9 : Dc M_X1_leastSeed 9 (.iload_n 1) 1 10 := ⟨by decide +kernel, rfl⟩
theorem d_X1_leastSeed_10 : CV M_X1_leastSeed 10 M_X1_fits 1 13 := ⟨46, ⟨by decide +kernel, rfl⟩, Or.inl (inT (List.mem_append_right _ (List.mem_append_right _ (List.mem_append_left _ (List.mem_of_getElem? (l := tables_1_3) (i := 105) (by decide +kernel)))))), mf_X1_fits, mi_X1_fits, ⟨by decide, by decide⟩⟩
theorem d_X1_leastSeed_13 : Db M_X1_leastSeed 13 .eq 18 16 := ⟨5, by decide +kernel, by decide, rfl⟩
theorem d_X1_leastSeed_16 : Dc M_X1_leastSeed 16 (.iload_n 1) 1 17 := ⟨by decide +kernel, rfl⟩
theorem d_X1_leastSeed_17 : Dc M_X1_leastSeed 17 (.ireturn) 1 18 := ⟨by decide +kernel, rfl⟩
theorem d_X1_leastSeed_18 : Dc M_X1_leastSeed 18 (.iinc 1 1) 3 21 := ⟨by decide +kernel, rfl⟩
theorem d_X1_leastSeed_21 : Dg M_X1_leastSeed 21 2 := ⟨(-19), by decide +kernel, by decide⟩
theorem d_X1_leastSeed_24 : KI M_X1_leastSeed 24 (-1 : Int32) 25 := Or.inl ⟨(-1), ⟨by decide +kernel, rfl⟩, by decide⟩
theorem d_X1_leastSeed_25 : Dc M_X1_leastSeed 25 (.ireturn) 1 26 := ⟨by decide +kernel, rfl⟩
theorem d_X1_fits_0 : Dc M_X1_fits 0 (.iload_n 1) 1 1 := ⟨by decide +kernel, rfl⟩
theorem d_X1_fits_1 : Dc M_X1_fits 1 (.istore_n 2) 1 2 := ⟨by decide +kernel, rfl⟩
theorem d_X1_fits_2 : KI M_X1_fits 2 (nI 0) 3 := Or.inl ⟨0, ⟨by decide +kernel, rfl⟩, by decide⟩
theorem d_X1_fits_3 : Dc M_X1_fits 3 (.istore_n 3) 1 4 := ⟨by decide +kernel, rfl⟩
theorem d_X1_fits_4 : Dc M_X1_fits 4 (.iload_n 3) 1 5 := ⟨by decide +kernel, rfl⟩
theorem d_X1_fits_5 : Dc M_X1_fits 5 (.aload_n 0) 1 6 := ⟨by decide +kernel, rfl⟩
theorem d_X1_fits_6 : GF M_X1_fits 6 1 0 9 := ⟨18, ⟨by decide +kernel, rfl⟩, fl_X1_18⟩
theorem d_X1_fits_9 : GF M_X1_fits 9 4 4 12 := ⟨22, ⟨by decide +kernel, rfl⟩, fl_X1_22⟩
theorem d_X1_fits_12 : Di M_X1_fits 12 .ge 62 15 := ⟨50, by decide +kernel, by decide, rfl⟩
theorem d_X1_fits_15 : LI M_X1_fits 15 (nI 1103515245) 17 := ⟨50, ⟨by decide +kernel, rfl⟩, inT (List.mem_append_right _ (List.mem_append_right _ (List.mem_append_left _ (List.mem_of_getElem? (l := tables_1_3) (i := 109) (by decide +kernel)))))⟩
theorem d_X1_fits_17 : Dc M_X1_fits 17 (.iload_n 2) 1 18 := ⟨by decide +kernel, rfl⟩
theorem d_X1_fits_18 : Dc M_X1_fits 18 (.imul) 1 19 := ⟨by decide +kernel, rfl⟩
theorem d_X1_fits_19 : KI M_X1_fits 19 (nI 12345) 22 := Or.inr (Or.inr ⟨12345, ⟨by decide +kernel, rfl⟩, by decide⟩)
theorem d_X1_fits_22 : Dc M_X1_fits 22 (.iadd) 1 23 := ⟨by decide +kernel, rfl⟩
theorem d_X1_fits_23 : Dc M_X1_fits 23 (.istore_n 2) 1 24 := ⟨by decide +kernel, rfl⟩
theorem d_X1_fits_24 : Dc M_X1_fits 24 (.iload_n 2) 1 25 := ⟨by decide +kernel, rfl⟩
theorem d_X1_fits_25 : KI M_X1_fits 25 (nI 16) 27 := Or.inr (Or.inl ⟨16, ⟨by decide +kernel, rfl⟩, by decide⟩)
theorem d_X1_fits_27 : Dc M_X1_fits 27 (.iushr) 1 28 := ⟨by decide +kernel, rfl⟩
theorem d_X1_fits_28 : KI M_X1_fits 28 (nI 2) 29 := Or.inl ⟨2, ⟨by decide +kernel, rfl⟩, by decide⟩
theorem d_X1_fits_29 : Dc M_X1_fits 29 (.irem) 1 30 := ⟨by decide +kernel, rfl⟩
theorem d_X1_fits_30 : Dc M_X1_fits 30 (.istore 4) 2 32 := ⟨by decide +kernel, rfl⟩
theorem d_X1_fits_32 : Dc M_X1_fits 32 (.iload 4) 2 34 := ⟨by decide +kernel, rfl⟩
theorem d_X1_fits_34 : Dc M_X1_fits 34 (.aload_n 0) 1 35 := ⟨by decide +kernel, rfl⟩
theorem d_X1_fits_35 : GF M_X1_fits 35 1 0 38 := ⟨18, ⟨by decide +kernel, rfl⟩, fl_X1_18⟩
theorem d_X1_fits_38 : KI M_X1_fits 38 (nI 0) 39 := Or.inl ⟨0, ⟨by decide +kernel, rfl⟩, by decide⟩
theorem d_X1_fits_39 : Dc M_X1_fits 39 (.iload_n 3) 1 40 := ⟨by decide +kernel, rfl⟩
theorem d_X1_fits_40 : CV M_X1_fits 40 M_X4_same 2 43 := ⟨28, ⟨by decide +kernel, rfl⟩, Or.inr (inT (List.mem_append_right _ (List.mem_append_right _ (List.mem_append_left _ (List.mem_of_getElem? (l := tables_1_3) (i := 84) (by decide +kernel)))))), mf_X4_same, mi_X4_same, ⟨by decide, by decide⟩⟩
theorem d_X1_fits_43 : Db M_X1_fits 43 .eq 50 46 := ⟨7, by decide +kernel, by decide, rfl⟩
theorem d_X1_fits_46 : KI M_X1_fits 46 (nI 0) 47 := Or.inl ⟨0, ⟨by decide +kernel, rfl⟩, by decide⟩
theorem d_X1_fits_47 : Dg M_X1_fits 47 51 := ⟨4, by decide +kernel, by decide⟩
theorem d_X1_fits_50 : KI M_X1_fits 50 (nI 1) 51 := Or.inl ⟨1, ⟨by decide +kernel, rfl⟩, by decide⟩
theorem d_X1_fits_51 : Di M_X1_fits 51 .eq 56 54 := ⟨5, by decide +kernel, by decide, rfl⟩
theorem d_X1_fits_54 : KI M_X1_fits 54 (nI 0) 55 := Or.inl ⟨0, ⟨by decide +kernel, rfl⟩, by decide⟩
theorem d_X1_fits_55 : Dc M_X1_fits 55 (.ireturn) 1 56 := ⟨by decide +kernel, rfl⟩
theorem d_X1_fits_56 : Dc M_X1_fits 56 (.iinc 3 1) 3 59 := ⟨by decide +kernel, rfl⟩
theorem d_X1_fits_59 : Dg M_X1_fits 59 4 := ⟨(-55), by decide +kernel, by decide⟩
theorem d_X1_fits_62 : KI M_X1_fits 62 (nI 1) 63 := Or.inl ⟨1, ⟨by decide +kernel, rfl⟩, by decide⟩
theorem d_X1_fits_63 : Dc M_X1_fits 63 (.ireturn) 1 64 := ⟨by decide +kernel, rfl⟩
