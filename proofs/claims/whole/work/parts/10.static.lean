set_option maxRecDepth 100000 in
theorem c_X8_within {G : Gm} {S : AS} {v lo hi : Int32} : Rm G M_X8_within [.int v, .int lo, .int hi] S (some (.int (bI (inR v lo hi)))) S := by
  refine Rn_of hp_X8_within [some (.int v), some (.int lo), some (.int hi)] rfl (Nat.le_of_ble_eq_true rfl) (Nat.le_of_ble_eq_true rfl) ?_
  refine V_il0 d_X8_within_0 ?_
  refine V_il1 d_X8_within_1 ?_
  refine V_ic_lt d_X8_within_2 (fun h2 => ?_) (fun h2 => ?_)
  · refine V_ki d_X8_within_14 ?_
    exact V_zret d_X8_within_15 rfl rfl (by first | rw [bI_t (inR_t (by assumption) (by assumption))] | rw [bI_f (inR_f1 (by assumption))] | rw [bI_f (inR_f2 (by assumption))]) rfl
  · refine V_il0 d_X8_within_5 ?_
    refine V_il2 d_X8_within_6 ?_
    refine V_ic_gt d_X8_within_7 (fun h7 => ?_) (fun h7 => ?_)
    · refine V_ki d_X8_within_14 ?_
      exact V_zret d_X8_within_15 rfl rfl (by first | rw [bI_t (inR_t (by assumption) (by assumption))] | rw [bI_f (inR_f1 (by assumption))] | rw [bI_f (inR_f2 (by assumption))]) rfl
    · refine V_ki d_X8_within_10 ?_
      refine V_goto d_X8_within_11 ?_
      exact V_zret d_X8_within_15 rfl rfl (by first | rw [bI_t (inR_t (by assumption) (by assumption))] | rw [bI_f (inR_f1 (by assumption))] | rw [bI_f (inR_f2 (by assumption))]) rfl
theorem c_X8_isShed {G : Gm} {S : AS} {v : Int32} : Rm G M_X8_isShed [.int v] S (some (.int (bI (inR v (nI 0) (nI 5))))) S := by
  refine Rn_of hp_X8_isShed [some (.int v)] rfl (Nat.le_of_ble_eq_true rfl) (Nat.le_of_ble_eq_true rfl) ?_
  refine V_il0 d_X8_isShed_0 ?_
  refine V_ki d_X8_isShed_1 ?_
  refine V_ki d_X8_isShed_2 ?_
  refine U_cs3 d_X8_isShed_3 (c_X8_within) rfl ?_
  exact V_zret d_X8_isShed_6 rfl (bI_nar _) (by first | rfl | simp_all) rfl
theorem c_X8_isSixteenths {G : Gm} {S : AS} {v : Int32} : Rm G M_X8_isSixteenths [.int v] S (some (.int (bI (inR v (nI 0) (nI 16))))) S := by
  refine Rn_of hp_X8_isSixteenths [some (.int v)] rfl (Nat.le_of_ble_eq_true rfl) (Nat.le_of_ble_eq_true rfl) ?_
  refine V_il0 d_X8_isSixteenths_0 ?_
  refine V_ki d_X8_isSixteenths_1 ?_
  refine V_ki d_X8_isSixteenths_2 ?_
  refine U_cs3 d_X8_isSixteenths_4 (c_X8_within) rfl ?_
  exact V_zret d_X8_isSixteenths_7 rfl (bI_nar _) (by first | rfl | simp_all) rfl
theorem c_X8_isWorth {G : Gm} {S : AS} {v : Int32} : Rm G M_X8_isWorth [.int v] S (some (.int (bI (inR v (nI 0) (nI 99))))) S := by
  refine Rn_of hp_X8_isWorth [some (.int v)] rfl (Nat.le_of_ble_eq_true rfl) (Nat.le_of_ble_eq_true rfl) ?_
  refine V_il0 d_X8_isWorth_0 ?_
  refine V_ki d_X8_isWorth_1 ?_
  refine V_ki d_X8_isWorth_2 ?_
  refine U_cs3 d_X8_isWorth_4 (c_X8_within) rfl ?_
  exact V_zret d_X8_isWorth_7 rfl (bI_nar _) (by first | rfl | simp_all) rfl
theorem c_X8_isSheet {G : Gm} {S : AS} {v : Int32} : Rm G M_X8_isSheet [.int v] S (some (.int (bI (inR v (nI 0) (nI 3))))) S := by
  refine Rn_of hp_X8_isSheet [some (.int v)] rfl (Nat.le_of_ble_eq_true rfl) (Nat.le_of_ble_eq_true rfl) ?_
  refine V_il0 d_X8_isSheet_0 ?_
  refine V_ki d_X8_isSheet_1 ?_
  refine V_ki d_X8_isSheet_2 ?_
  refine U_cs3 d_X8_isSheet_3 (c_X8_within) rfl ?_
  exact V_zret d_X8_isSheet_6 rfl (bI_nar _) (by first | rfl | simp_all) rfl
theorem c_X8_isForm {G : Gm} {S : AS} {v : Int32} : Rm G M_X8_isForm [.int v] S (some (.int (bI (inR v (nI 0) (nI 2))))) S := by
  refine Rn_of hp_X8_isForm [some (.int v)] rfl (Nat.le_of_ble_eq_true rfl) (Nat.le_of_ble_eq_true rfl) ?_
  refine V_il0 d_X8_isForm_0 ?_
  refine V_ki d_X8_isForm_1 ?_
  refine V_ki d_X8_isForm_2 ?_
  refine U_cs3 d_X8_isForm_3 (c_X8_within) rfl ?_
  exact V_zret d_X8_isForm_6 rfl (bI_nar _) (by first | rfl | simp_all) rfl
theorem c_X8_join {G : Gm} {S : AS} {h v : Int64} : Rm G M_X8_join [.long h, .long v] S (some (.long (lN 31 * h + v))) S := by
  refine Rn_of hp_X8_join [some (.long h), none, some (.long v), none] rfl (Nat.le_of_ble_eq_true rfl) (Nat.le_of_ble_eq_true rfl) ?_
  refine V_ldc2 d_X8_join_0 ?_
  refine V_ll0 d_X8_join_3 ?_
  first | with_reducible refine V_lmulN d_X8_join_4 ?_ | refine V_lmul d_X8_join_4 ?_
  refine V_ll2 d_X8_join_5 ?_
  first | with_reducible refine V_laddN d_X8_join_6 ?_ | refine V_ladd d_X8_join_6 ?_
  exact V_lret d_X8_join_7 rfl (by first | rfl | simp_all) rfl
theorem c_X8_refusal {G : Gm} {S : AS} {v : Int32} : Rm G M_X8_refusal [.int v] S (some (.long ((-9223372036854775808 : Int64) - v.toInt64))) S := by
  refine Rn_of hp_X8_refusal [some (.int v)] rfl (Nat.le_of_ble_eq_true rfl) (Nat.le_of_ble_eq_true rfl) ?_
  refine V_ldc2 d_X8_refusal_0 ?_
  refine V_il0 d_X8_refusal_3 ?_
  refine V_i2l d_X8_refusal_4 rfl ?_
  refine V_lsub d_X8_refusal_5 ?_
  exact V_lret d_X8_refusal_6 rfl (by first | rfl | simp_all) rfl
theorem c_X8_item {G : Gm} {S : AS} {k len j : Nat} {i : Int32} (hk : okd k = .inr (false, len)) (hn : k < 35) (hi : i = nI j) (hj : j < len) : Rm G M_X8_item [.ref (gB G + k), .int i] S (some (.int (S.1 k j))) S := by
  subst hi
  have hl := okd_len hk
  refine Rn_of hp_X8_item [some (.ref (gB G + k)), some (.int (nI j))] rfl (Nat.le_of_ble_eq_true rfl) (Nat.le_of_ble_eq_true rfl) ?_
  refine V_il1 d_X8_item_0 ?_
  refine U_if_ltN d_X8_item_1 (by omega) (fun q => absurd q (by omega)) (fun h1 => ?_)
  refine V_il1 d_X8_item_4 ?_
  refine V_al0 d_X8_item_5 ?_
  refine V_alen d_X8_item_6 hk hn ?_
  refine U_ic_geN d_X8_item_7 (by omega) (by omega) (fun q => absurd q (by omega)) (fun h7 => ?_)
  refine V_al0 d_X8_item_10 ?_
  refine V_il1 d_X8_item_11 ?_
  refine V_ialdN d_X8_item_12 hk hn hj ?_
  refine V_goto d_X8_item_13 ?_
  exact V_iret d_X8_item_17 rfl rfl rfl
theorem c_X8_keep {G : Gm} {S : AS} {k len j : Nat} {i v : Int32} (hk : okd k = .inr (false, len)) (hn : k < 35) (hi : i = nI j) (hj : j < len) : Rm G M_X8_keep [.ref (gB G + k), .int i, .int v] S none (sI S k j v) := by
  subst hi
  have hl := okd_len hk
  refine Rn_of hp_X8_keep [some (.ref (gB G + k)), some (.int (nI j)), some (.int v)] rfl (Nat.le_of_ble_eq_true rfl) (Nat.le_of_ble_eq_true rfl) ?_
  refine V_il1 d_X8_keep_0 ?_
  refine U_if_ltN d_X8_keep_1 (by omega) (fun q => absurd q (by omega)) (fun h1 => ?_)
  refine V_il1 d_X8_keep_4 ?_
  refine V_al0 d_X8_keep_5 ?_
  refine V_alen d_X8_keep_6 hk hn ?_
  refine U_ic_geN d_X8_keep_7 (by omega) (by omega) (fun q => absurd q (by omega)) (fun h7 => ?_)
  refine V_al0 d_X8_keep_10 ?_
  refine V_il1 d_X8_keep_11 ?_
  refine V_il2 d_X8_keep_12 ?_
  refine V_iast d_X8_keep_13 hk hn rfl hj ?_
  exact V_vret d_X8_keep_14 rfl rfl rfl
theorem c_X8_fill {G : Gm} {S : AS} {k len : Nat} {v : Int32} (hk : okd k = .inr (false, len)) (hn : k < 35) : Rm G M_X8_fill [.ref (gB G + k), .int v] S none (fillS S k len v) := by
  have hl := okd_len hk
  have loop : ∀ d i, i + d = len → U G M_X8_fill (Ze G none (fillS S k len v)) 2 [some (.ref (gB G + k)), some (.int v), some (.int (nI i))] [] (fillS S k i v) := by
    intro d
    induction d with
    | zero =>
      intro i hi
      rw [Nat.add_zero] at hi
      subst hi
      refine V_il2 d_X8_fill_2 ?_
      refine V_al0 d_X8_fill_3 ?_
      refine V_alen d_X8_fill_4 hk hn ?_
      refine U_ic_geN d_X8_fill_5 (by omega) (by omega) (fun h5 => ?_) (fun q => absurd q (by omega))
      exact V_vret d_X8_fill_18 rfl rfl rfl
    | succ d ih =>
      intro i hi
      refine V_il2 d_X8_fill_2 ?_
      refine V_al0 d_X8_fill_3 ?_
      refine V_alen d_X8_fill_4 hk hn ?_
      refine U_ic_geN d_X8_fill_5 (by omega) (by omega) (fun q => absurd q (by omega)) (fun h5 => ?_)
      refine V_al0 d_X8_fill_8 ?_
      refine V_il2 d_X8_fill_9 ?_
      refine V_il1 d_X8_fill_10 ?_
      refine V_iast d_X8_fill_11 hk hn rfl (by omega) ?_
      refine V_icN2 d_X8_fill_12 rfl ?_
      refine V_goto d_X8_fill_15 ?_
      rw [fillS_s]
      exact ih (i + 1) (by omega)
  refine Rn_of hp_X8_fill [some (.ref (gB G + k)), some (.int v), none] rfl (Nat.le_of_ble_eq_true rfl) (Nat.le_of_ble_eq_true rfl) ?_
  refine V_ki d_X8_fill_0 ?_
  refine V_is2 d_X8_fill_1 rfl ?_
  have h := loop len 0 (by omega)
  rw [fillS_0] at h
  exact h
