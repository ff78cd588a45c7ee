/-! sheets -/
def nrI (f : Nat) (v : Int32) : Int32 := if f = 0 then v.toInt8.toInt32 else if f = 1 then v.toInt16.toInt32 else v
theorem nrI_0 (f : Nat) : nrI f (nI 0) = nI 0 := by
  unfold nrI
  split
  · decide
  · split
    · decide
    · rfl
theorem nrI_nr (f : Nat) (v : Int32) : nrI f (nrI f v) = nrI f v := by
  unfold nrI
  by_cases h : f = 0
  · simp [h]
  · by_cases h1 : f = 1
    · simp [h1]
    · simp [h, h1]
set_option maxRecDepth 100000 in
theorem c_X5_found {G : Gm} {S : AS} {v : Int32} : Rm G M_X5_found [.ref (gB G + 17), .int v] S (some (.int ((-10 : Int32) - v))) (sI S 17 4 v) := by
  refine Rn_of hp_X5_found [some (.ref (gB G + 17)), some (.int v)] rfl (Nat.le_of_ble_eq_true rfl) (Nat.le_of_ble_eq_true rfl) ?_
  refine V_al0 d_X5_found_0 ?_
  refine V_il1 d_X5_found_1 ?_
  refine V_putI d_X5_found_2 rfl rfl (by decide) rfl ?_
  refine V_ki d_X5_found_5 ?_
  refine V_il1 d_X5_found_7 ?_
  refine V_isub d_X5_found_8 ?_
  exact V_iret d_X5_found_9 rfl (by first | rfl | simp_all) rfl
theorem c_X5_formOf {G : Gm} {S : AS} {s : Nat} (hs : s < 4) : Rm G M_X5_formOf [.ref (gB G + 17), .int (nI s)] S (some (.int (S.1 18 s))) S := by
  refine Rn_of hp_X5_formOf [some (.ref (gB G + 17)), some (.int (nI s))] rfl (Nat.le_of_ble_eq_true rfl) (Nat.le_of_ble_eq_true rfl) ?_
  refine V_al0 d_X5_formOf_0 ?_
  refine V_getR d_X5_formOf_1 rfl rfl (by decide) rfl ?_
  refine V_il1 d_X5_formOf_4 ?_
  refine U_cs2 d_X5_formOf_5 (c_X8_item (j := s) rfl (by decide) rfl hs) rfl ?_
  exact V_iret d_X5_formOf_8 rfl (by first | rfl | simp_all) rfl
theorem c_X5_sizeOf {G : Gm} {S : AS} {s : Nat} (hs : s < 4) : Rm G M_X5_sizeOf [.ref (gB G + 17), .int (nI s)] S (some (.int (S.1 19 s))) S := by
  refine Rn_of hp_X5_sizeOf [some (.ref (gB G + 17)), some (.int (nI s))] rfl (Nat.le_of_ble_eq_true rfl) (Nat.le_of_ble_eq_true rfl) ?_
  refine V_al0 d_X5_sizeOf_0 ?_
  refine V_getR d_X5_sizeOf_1 rfl rfl (by decide) rfl ?_
  refine V_il1 d_X5_sizeOf_4 ?_
  refine U_cs2 d_X5_sizeOf_5 (c_X8_item (j := s) rfl (by decide) rfl hs) rfl ?_
  exact V_iret d_X5_sizeOf_8 rfl (by first | rfl | simp_all) rfl
theorem c_X5_itemOf {G : Gm} {S : AS} {s i : Nat} (hs : s < 4) (hi : i < 48) : Rm G M_X5_itemOf [.ref (gB G + 17), .int (nI s), .int (nI i)] S (some (.int (S.1 20 (s * 48 + i)))) S := by
  refine Rn_of hp_X5_itemOf [some (.ref (gB G + 17)), some (.int (nI s)), some (.int (nI i))] rfl (Nat.le_of_ble_eq_true rfl) (Nat.le_of_ble_eq_true rfl) ?_
  refine V_al0 d_X5_itemOf_0 ?_
  refine V_getR d_X5_itemOf_1 rfl rfl (by decide) rfl ?_
  refine V_il1 d_X5_itemOf_4 ?_
  refine V_ki d_X5_itemOf_5 ?_
  first | with_reducible refine V_imulN d_X5_itemOf_7 ?_ | refine V_imul d_X5_itemOf_7 ?_
  refine V_il2 d_X5_itemOf_8 ?_
  first | with_reducible refine V_iaddN d_X5_itemOf_9 ?_ | refine V_iadd d_X5_itemOf_9 ?_
  refine U_cs2 d_X5_itemOf_10 (c_X8_item (j := s * 48 + i) rfl (by decide) rfl (by omega)) rfl ?_
  exact V_iret d_X5_itemOf_13 rfl (by first | rfl | simp_all) rfl
set_option maxRecDepth 100000 in
theorem c_X5_isLost {G : Gm} {S : AS} {s : Nat} (hs : s < 4) : Rm G M_X5_isLost [.ref (gB G + 17), .int (nI s)] S (some (.int (bI (decide (S.1 18 s = -1))))) S := by
  refine Rn_of hp_X5_isLost [some (.ref (gB G + 17)), some (.int (nI s))] rfl (Nat.le_of_ble_eq_true rfl) (Nat.le_of_ble_eq_true rfl) ?_
  refine V_al0 d_X5_isLost_0 ?_
  refine V_il1 d_X5_isLost_1 ?_
  refine U_cv1 d_X5_isLost_2 (c_X5_formOf hs) rfl rfl rfl ?_
  refine V_ki d_X5_isLost_5 ?_
  refine V_ic_ne d_X5_isLost_6 (fun h6 => ?_) (fun h6 => ?_)
  · refine V_ki d_X5_isLost_13 ?_
    exact V_zret d_X5_isLost_14 rfl rfl (by first | rw [bI_t (decide_eq_true h6)] | rw [bI_f (decide_eq_false h6)]) rfl
  · refine V_ki d_X5_isLost_9 ?_
    refine V_goto d_X5_isLost_10 ?_
    exact V_zret d_X5_isLost_14 rfl rfl (by first | rw [bI_t (decide_eq_true h6)] | rw [bI_f (decide_eq_false h6)]) rfl
set_option maxRecDepth 100000 in
theorem c_X5_narrow {G : Gm} {S : AS} {f : Nat} {v : Int32} (hf : f ≤ 2) : Rm G M_X5_narrow [.int (nI f), .int v] S (some (.int (nrI f v))) S := by
  refine Rn_of hp_X5_narrow [some (.int (nI f)), some (.int v)] rfl (Nat.le_of_ble_eq_true rfl) (Nat.le_of_ble_eq_true rfl) ?_
  refine V_il0 d_X5_narrow_0 ?_
  refine U_if_neN d_X5_narrow_1 (by omega) (fun h1 => ?_) (fun h1 => ?_)
  · refine V_il0 d_X5_narrow_9 ?_
    refine V_ki d_X5_narrow_10 ?_
    refine U_ic_neN d_X5_narrow_11 (by omega) (by omega) (fun h11 => ?_) (fun h11 => ?_)
    · refine V_il1 d_X5_narrow_19 ?_
      exact V_iret d_X5_narrow_20 rfl (by simp [nrI, *]) rfl
    · refine V_il1 d_X5_narrow_14 ?_
      refine V_i2s d_X5_narrow_15 ?_
      refine V_goto d_X5_narrow_16 ?_
      exact V_iret d_X5_narrow_20 rfl (by simp [nrI, *]) rfl
  · refine V_il1 d_X5_narrow_4 ?_
    refine V_i2b d_X5_narrow_5 ?_
    refine V_goto d_X5_narrow_6 ?_
    exact V_iret d_X5_narrow_20 rfl (by simp [nrI, *]) rfl
set_option maxRecDepth 100000 in
theorem c_X5_change {G : Gm} {S : AS} {s i f : Nat} {v : Int32} (hs : s < 4) (hi : i < 48) (hf : f ≤ 2) (hF : S.1 18 s = nI f) : Rm G M_X5_change [.ref (gB G + 17), .int (nI s), .int (nI i), .int v] S none (sI S 20 (s * 48 + i) (nrI f v)) := by
  refine Rn_of hp_X5_change [some (.ref (gB G + 17)), some (.int (nI s)), some (.int (nI i)), some (.int v)] rfl (Nat.le_of_ble_eq_true rfl) (Nat.le_of_ble_eq_true rfl) ?_
  refine V_al0 d_X5_change_0 ?_
  refine V_getR d_X5_change_1 rfl rfl (by decide) rfl ?_
  refine V_il1 d_X5_change_4 ?_
  refine V_ki d_X5_change_5 ?_
  first | with_reducible refine V_imulN d_X5_change_7 ?_ | refine V_imul d_X5_change_7 ?_
  refine V_il2 d_X5_change_8 ?_
  first | with_reducible refine V_iaddN d_X5_change_9 ?_ | refine V_iadd d_X5_change_9 ?_
  refine V_al0 d_X5_change_10 ?_
  refine V_il1 d_X5_change_11 ?_
  refine U_cv1 d_X5_change_12 (c_X5_formOf hs) rfl rfl rfl ?_
  refine V_topi hF ?_
  refine V_il3 d_X5_change_15 ?_
  refine U_cs2 d_X5_change_16 (c_X5_narrow hf) rfl ?_
  refine U_cs3v d_X5_change_19 (c_X8_keep (j := s * 48 + i) rfl (by decide) rfl (by omega)) rfl ?_
  exact V_vret d_X5_change_22 rfl rfl rfl
set_option maxRecDepth 100000 in
theorem c_X5_drop {G : Gm} {S : AS} {s : Nat} (hs : s < 4) : Rm G M_X5_drop [.ref (gB G + 17), .int (nI s)] S (some (.int (S.1 19 s))) (sI S 18 s (-1)) := by
  refine Rn_of hp_X5_drop [some (.ref (gB G + 17)), some (.int (nI s))] rfl (Nat.le_of_ble_eq_true rfl) (Nat.le_of_ble_eq_true rfl) ?_
  refine V_al0 d_X5_drop_0 ?_
  refine V_getR d_X5_drop_1 rfl rfl (by decide) rfl ?_
  refine V_il1 d_X5_drop_4 ?_
  refine V_ki d_X5_drop_5 ?_
  refine U_cs3v d_X5_drop_6 (c_X8_keep (j := s) rfl (by decide) rfl hs) rfl ?_
  refine V_al0 d_X5_drop_9 ?_
  refine V_il1 d_X5_drop_10 ?_
  refine U_cv1 d_X5_drop_11 (c_X5_sizeOf hs) rfl rfl rfl ?_
  exact V_iret d_X5_drop_14 rfl (by first | rfl | simp_all) rfl
def zrS (S : AS) (s n : Nat) : AS := (fun a b => if a = 20 ∧ s * 48 ≤ b ∧ b < s * 48 + n then nI 0 else S.1 a b, S.2)
theorem zrS_0 (S : AS) (s : Nat) : zrS S s 0 = S := by
  unfold zrS
  refine Prod.ext (funext fun a => funext fun b => ?_) rfl
  show (if a = 20 ∧ s * 48 ≤ b ∧ b < s * 48 + 0 then nI 0 else S.1 a b) = _
  rw [if_neg (by omega)]
theorem zrS_s (S : AS) (s n : Nat) : sI (zrS S s n) 20 (s * 48 + n) (nI 0) = zrS S s (n + 1) := by
  unfold zrS sI
  refine Prod.ext (funext fun a => funext fun b => ?_) rfl
  show (if a = 20 ∧ b = s * 48 + n then nI 0 else if a = 20 ∧ s * 48 ≤ b ∧ b < s * 48 + n then nI 0 else S.1 a b) = if a = 20 ∧ s * 48 ≤ b ∧ b < s * 48 + (n + 1) then nI 0 else S.1 a b
  by_cases h : a = 20 ∧ b = s * 48 + n
  · rw [if_pos h, if_pos (by omega)]
  · rw [if_neg h]
    by_cases h2 : a = 20 ∧ s * 48 ≤ b ∧ b < s * 48 + n
    · rw [if_pos h2, if_pos (by omega)]
    · rw [if_neg h2, if_neg (by omega)]
set_option maxRecDepth 100000 in
theorem c_X5_make {G : Gm} {S : AS} {s f n : Nat} (hs : s < 4) (hf : f ≤ 2) (hn : n ≤ 48) : Rm G M_X5_make [.ref (gB G + 17), .int (nI s), .int (nI f), .int (nI n)] S none (zrS (sI (sI S 18 s (nI f)) 19 s (nI n)) s n) := by
  have hF : ∀ i, (zrS (sI (sI S 18 s (nI f)) 19 s (nI n)) s i).1 18 s = nI f := by
    intro i
    show (if 18 = 20 ∧ s * 48 ≤ s ∧ s < s * 48 + i then nI 0 else if 18 = 19 ∧ s = s then nI n else if 18 = 18 ∧ s = s then nI f else S.1 18 s) = nI f
    rw [if_neg (by omega), if_neg (by omega), if_pos ⟨rfl, rfl⟩]
  have loop : ∀ d i, i + d = n → U G M_X5_make (Ze G none (zrS (sI (sI S 18 s (nI f)) 19 s (nI n)) s n)) 21 [some (.ref (gB G + 17)), some (.int (nI s)), some (.int (nI f)), some (.int (nI n)), some (.int (nI i))] [] (zrS (sI (sI S 18 s (nI f)) 19 s (nI n)) s i) := by
    intro d
    induction d with
    | zero =>
      intro i hi
      rw [Nat.add_zero] at hi
      subst hi
      refine V_il4 d_X5_make_21 ?_
      refine V_il3 d_X5_make_23 ?_
      refine U_ic_geN d_X5_make_24 (by omega) (by omega) (fun h24 => ?_) (fun q => absurd q (by omega))
      exact V_vret d_X5_make_48 rfl rfl rfl
    | succ d ih =>
      intro i hi
      have hc := c_X5_change (G := G) (i := i) (v := nI 0) hs (by omega) hf (hF i)
      rw [nrI_0, zrS_s] at hc
      refine V_il4 d_X5_make_21 ?_
      refine V_il3 d_X5_make_23 ?_
      refine U_ic_geN d_X5_make_24 (by omega) (by omega) (fun q => absurd q (by omega)) (fun h24 => ?_)
      refine V_il4 d_X5_make_27 ?_
      refine V_ki d_X5_make_29 ?_
      refine U_ic_geN d_X5_make_31 (by omega) (by omega) (fun q => absurd q (by omega)) (fun h31 => ?_)
      refine V_al0 d_X5_make_34 ?_
      refine V_il1 d_X5_make_35 ?_
      refine V_il4 d_X5_make_36 ?_
      refine V_ki d_X5_make_38 ?_
      refine U_cv3v d_X5_make_39 (hc) rfl rfl rfl ?_
      refine V_icN4 d_X5_make_42 rfl ?_
      refine V_goto d_X5_make_45 ?_
      exact ih (i + 1) (by omega)
  have l0 := loop n 0 (Nat.zero_add _)
  rw [zrS_0] at l0
  refine Rn_of hp_X5_make [some (.ref (gB G + 17)), some (.int (nI s)), some (.int (nI f)), some (.int (nI n)), none] rfl (Nat.le_of_ble_eq_true rfl) (Nat.le_of_ble_eq_true rfl) ?_
  refine V_al0 d_X5_make_0 ?_
  refine V_getR d_X5_make_1 rfl rfl (by decide) rfl ?_
  refine V_il1 d_X5_make_4 ?_
  refine V_il2 d_X5_make_5 ?_
  refine U_cs3v d_X5_make_6 (c_X8_keep (j := s) rfl (by decide) rfl hs) rfl ?_
  refine V_al0 d_X5_make_9 ?_
  refine V_getR d_X5_make_10 rfl rfl (by decide) rfl ?_
  refine V_il1 d_X5_make_13 ?_
  refine V_il3 d_X5_make_14 ?_
  refine U_cs3v d_X5_make_15 (c_X8_keep (j := s) rfl (by decide) rfl hs) rfl ?_
  refine V_ki d_X5_make_18 ?_
  refine V_is4 d_X5_make_19 rfl ?_
  exact l0
/-- what keeps an item from being used -/
def hiI (f z g : Nat) (i : Int32) : Nat := if f ≠ g then 3 else if inR i (nI 0) (nI z - nI 1) = true then 0 else 2
set_option maxRecDepth 100000 in
theorem c_X5_hindrance_lost {G : Gm} {S : AS} {s : Nat} {g i : Int32} (hs : s < 4) (hF : S.1 18 s = -1) : Rm G M_X5_hindrance [.ref (gB G + 17), .int (nI s), .int g, .int i] S (some (.int (nI 1))) S := by
  have hL := c_X5_isLost (G := G) (S := S) hs
  rw [decide_eq_true hF] at hL
  refine Rn_of hp_X5_hindrance [some (.ref (gB G + 17)), some (.int (nI s)), some (.int g), some (.int i)] rfl (Nat.le_of_ble_eq_true rfl) (Nat.le_of_ble_eq_true rfl) ?_
  refine V_al0 d_X5_hindrance_0 ?_
  refine V_il1 d_X5_hindrance_1 ?_
  refine U_cv1 d_X5_hindrance_2 (hL) rfl rfl rfl ?_
  refine V_eqB d_X5_hindrance_5 (fun q => (bTF rfl q).elim) (fun h5 => ?_)
  refine V_ki d_X5_hindrance_8 ?_
  exact V_iret d_X5_hindrance_9 rfl (by first | rfl | simp_all) rfl
set_option maxRecDepth 100000 in
theorem c_X5_hindrance {G : Gm} {S : AS} {s f z g : Nat} {i : Int32} (hs : s < 4) (hf : f ≤ 2) (hz : z ≤ 48) (hg : g ≤ 2) (hF : S.1 18 s = nI f) (hZ : S.1 19 s = nI z) : Rm G M_X5_hindrance [.ref (gB G + 17), .int (nI s), .int (nI g), .int i] S (some (.int (nI (hiI f z g i)))) S := by
  have hL := c_X5_isLost (G := G) (S := S) hs
  rw [decide_eq_false (by rw [hF]; exact nI_m1 (by omega))] at hL
  refine Rn_of hp_X5_hindrance [some (.ref (gB G + 17)), some (.int (nI s)), some (.int (nI g)), some (.int i)] rfl (Nat.le_of_ble_eq_true rfl) (Nat.le_of_ble_eq_true rfl) ?_
  refine V_al0 d_X5_hindrance_0 ?_
  refine V_il1 d_X5_hindrance_1 ?_
  refine U_cv1 d_X5_hindrance_2 (hL) rfl rfl rfl ?_
  refine V_eqB d_X5_hindrance_5 (fun h5 => ?_) (fun q => (bTF q rfl).elim)
  refine V_al0 d_X5_hindrance_10 ?_
  refine V_il1 d_X5_hindrance_11 ?_
  refine U_cv1 d_X5_hindrance_12 (c_X5_formOf hs) rfl rfl rfl ?_
  refine V_topi hF ?_
  refine V_il2 d_X5_hindrance_15 ?_
  refine U_ic_eqN d_X5_hindrance_16 (by omega) (by omega) (fun h16 => ?_) (fun h16 => ?_)
  · refine V_il3 d_X5_hindrance_21 ?_
    refine V_ki d_X5_hindrance_22 ?_
    refine V_al0 d_X5_hindrance_23 ?_
    refine V_il1 d_X5_hindrance_24 ?_
    refine U_cv1 d_X5_hindrance_25 (c_X5_sizeOf hs) rfl rfl rfl ?_
    refine V_topi hZ ?_
    refine V_ki d_X5_hindrance_28 ?_
    refine V_isub d_X5_hindrance_29 ?_
    refine U_cs3 d_X5_hindrance_30 (c_X8_within) rfl ?_
    refine V_eqB d_X5_hindrance_33 (fun h33 => ?_) (fun h33 => ?_)
    · refine V_ki d_X5_hindrance_40 ?_
      exact V_iret d_X5_hindrance_41 rfl (by rw [hiI, if_neg (fun q => q h16)]; first | rw [if_pos h33] | rw [if_neg (by rw [h33]; decide)]) rfl
    · refine V_ki d_X5_hindrance_36 ?_
      refine V_goto d_X5_hindrance_37 ?_
      exact V_iret d_X5_hindrance_41 rfl (by rw [hiI, if_neg (fun q => q h16)]; first | rw [if_pos h33] | rw [if_neg (by rw [h33]; decide)]) rfl
  · refine V_ki d_X5_hindrance_19 ?_
    exact V_iret d_X5_hindrance_20 rfl (by rw [hiI, if_pos h16]) rfl
theorem sub_m (z n : Nat) (hz : z ≤ 48) (hn : n ≤ z) : nI z - nI n = nI (z - n) := pk_sub hn
set_option maxRecDepth 100000 in
theorem c_X5_hasItems {G : Gm} {S : AS} {s z : Nat} {i n : Int32} (hs : s < 4) (hz : z ≤ 48) (hZ : S.1 19 s = nI z) : ∃ b : Bool, Rm G M_X5_hasItems [.ref (gB G + 17), .int (nI s), .int i, .int n] S (some (.int (bI b))) S ∧ (b = true ↔ ∃ i' n' : Nat, i = nI i' ∧ n = nI n' ∧ i' + n' ≤ z) := by
  by_cases h : ∃ i' n' : Nat, i = nI i' ∧ n = nI n' ∧ i' + n' ≤ z
  · refine ⟨true, ?_, ⟨fun _ => h, fun _ => rfl⟩⟩
    obtain ⟨i', n', rfl, rfl, h3⟩ := h
    refine Rn_of hp_X5_hasItems [some (.ref (gB G + 17)), some (.int (nI s)), some (.int (nI i')), some (.int (nI n'))] rfl (Nat.le_of_ble_eq_true rfl) (Nat.le_of_ble_eq_true rfl) ?_
    refine V_il2 d_X5_hasItems_0 ?_
    refine U_if_ltN d_X5_hasItems_1 (by omega) (fun q => absurd q (by omega)) (fun h1 => ?_)
    refine V_il3 d_X5_hasItems_4 ?_
    refine U_if_ltN d_X5_hasItems_5 (by omega) (fun q => absurd q (by omega)) (fun h5 => ?_)
    refine V_il3 d_X5_hasItems_8 ?_
    refine V_al0 d_X5_hasItems_9 ?_
    refine V_il1 d_X5_hasItems_10 ?_
    refine U_cv1 d_X5_hasItems_11 (c_X5_sizeOf hs) rfl rfl rfl ?_
    refine V_topi hZ ?_
    refine U_ic_gtN d_X5_hasItems_14 (by omega) (by omega) (fun q => absurd q (by omega)) (fun h14 => ?_)
    refine V_il2 d_X5_hasItems_17 ?_
    refine V_al0 d_X5_hasItems_18 ?_
    refine V_il1 d_X5_hasItems_19 ?_
    refine U_cv1 d_X5_hasItems_20 (c_X5_sizeOf hs) rfl rfl rfl ?_
    refine V_topi hZ ?_
    refine V_il3 d_X5_hasItems_23 ?_
    refine V_isubN d_X5_hasItems_24 (by omega) ?_
    refine U_ic_gtN d_X5_hasItems_25 (by omega) (by omega) (fun q => absurd q (by omega)) (fun h25 => ?_)
    refine V_ki d_X5_hasItems_28 ?_
    refine V_goto d_X5_hasItems_29 ?_
    exact V_zret d_X5_hasItems_33 rfl rfl (by first | rfl | simp_all) rfl
  · refine ⟨false, ?_, ⟨fun q => (Bool.false_ne_true q).elim, fun q => absurd q h⟩⟩
    have key : ∀ i' n' : Nat, i' < 2 ^ 31 → n' < 2 ^ 31 → i = nI i' → n = nI n' → ¬ nI z < n → ¬ nI z - n < i → False := by
      intro i' n' hi hn e1 e2 q1 q2
      subst e1; subst e2
      rw [nI_ltI (by omega) hn] at q1
      rw [pk_sub (by omega), nI_ltI (by omega) hi] at q2
      exact h ⟨i', n', rfl, rfl, by omega⟩
    have bad : ¬ i < 0 → ¬ n < 0 → ¬ nI z < n → ¬ nI z - n < i → False := by
      intro q1 q2 q3 q4
      obtain ⟨i', hi, e1⟩ := nI_of q1
      obtain ⟨n', hn, e2⟩ := nI_of q2
      exact key i' n' hi hn e1 e2 q3 q4
    refine Rn_of hp_X5_hasItems [some (.ref (gB G + 17)), some (.int (nI s)), some (.int i), some (.int n)] rfl (Nat.le_of_ble_eq_true rfl) (Nat.le_of_ble_eq_true rfl) ?_
    refine V_il2 d_X5_hasItems_0 ?_
    refine V_if_lt d_X5_hasItems_1 (fun h1 => ?_) (fun h1 => ?_)
    · refine V_ki d_X5_hasItems_32 ?_
      exact V_zret d_X5_hasItems_33 rfl rfl (by first | rfl | simp_all) rfl
    · refine V_il3 d_X5_hasItems_4 ?_
      refine V_if_lt d_X5_hasItems_5 (fun h5 => ?_) (fun h5 => ?_)
      · refine V_ki d_X5_hasItems_32 ?_
        exact V_zret d_X5_hasItems_33 rfl rfl (by first | rfl | simp_all) rfl
      · refine V_il3 d_X5_hasItems_8 ?_
        refine V_al0 d_X5_hasItems_9 ?_
        refine V_il1 d_X5_hasItems_10 ?_
        refine U_cv1 d_X5_hasItems_11 (c_X5_sizeOf hs) rfl rfl rfl ?_
        refine V_topi hZ ?_
        refine V_ic_gt d_X5_hasItems_14 (fun h14 => ?_) (fun h14 => ?_)
        · refine V_ki d_X5_hasItems_32 ?_
          exact V_zret d_X5_hasItems_33 rfl rfl (by first | rfl | simp_all) rfl
        · refine V_il2 d_X5_hasItems_17 ?_
          refine V_al0 d_X5_hasItems_18 ?_
          refine V_il1 d_X5_hasItems_19 ?_
          refine U_cv1 d_X5_hasItems_20 (c_X5_sizeOf hs) rfl rfl rfl ?_
          refine V_topi hZ ?_
          refine V_il3 d_X5_hasItems_23 ?_
          refine V_isub d_X5_hasItems_24 ?_
          refine V_ic_gt d_X5_hasItems_25 (fun h25 => ?_) (fun h25 => ?_)
          · refine V_ki d_X5_hasItems_32 ?_
            exact V_zret d_X5_hasItems_33 rfl rfl (by first | rfl | simp_all) rfl
          · exact (bad h1 h5 h14 h25).elim
abbrev P20 : Nat → Nat → Bool := fun a _ => a == 20 || a == 21
set_option maxRecDepth 100000 in
theorem c_X5_move {G : Gm} {S : AS} {s i t j n f : Nat} (hs : s < 4) (ht : t < 4) (hi : i + n ≤ 48) (hj : j + n ≤ 48) (hf : f ≤ 2) (hF : S.1 18 t = nI f) : ∃ SE, Rm G M_X5_move [.ref (gB G + 17), .int (nI s), .int (nI i), .int (nI t), .int (nI j), .int (nI n)] S none SE ∧ (∀ b, SE.1 20 b = if t * 48 + j ≤ b ∧ b < t * 48 + j + n then nrI f (S.1 20 (s * 48 + i + (b - (t * 48 + j)))) else S.1 20 b) ∧ Ag P20 S SE := by
  have second : ∀ (d k : Nat) (S1 : AS), k + d = n → Ag P20 S S1 → (∀ k, k < n → S1.1 21 k = S.1 20 (s * 48 + i + k)) → (∀ b, S1.1 20 b = if t * 48 + j ≤ b ∧ b < t * 48 + j + k then nrI f (S.1 20 (s * 48 + i + (b - (t * 48 + j)))) else S.1 20 b) →
      ∃ SE, U G M_X5_move (Ze G none SE) 44 [some (.ref (gB G + 17)), some (.int (nI s)), some (.int (nI i)), some (.int (nI t)), some (.int (nI j)), some (.int (nI n)), some (.int (nI k))] [] S1 ∧ (∀ b, SE.1 20 b = if t * 48 + j ≤ b ∧ b < t * 48 + j + n then nrI f (S.1 20 (s * 48 + i + (b - (t * 48 + j)))) else S.1 20 b) ∧ Ag P20 S SE := by
    intro d
    induction d with
    | zero =>
      intro k S1 hk hA hm hI
      rw [Nat.add_zero] at hk
      subst hk
      refine ⟨S1, ?_, hI, hA⟩
      refine V_il6 d_X5_move_44 ?_
      refine V_il5 d_X5_move_46 ?_
      refine U_ic_geN d_X5_move_48 (by omega) (by omega) (fun h48 => ?_) (fun q => absurd q (by omega))
      exact V_vret d_X5_move_83 rfl rfl rfl
    | succ d ih =>
      intro k S1 hk hA hm hI
      have hF1 : S1.1 18 t = nI f := (hA.2 18 t rfl).trans hF
      have hit := c_X8_item (G := G) (S := S1) (k := 21) (len := 48) (j := k) rfl (by decide) rfl (by omega)
      rw [hm k (by omega)] at hit
      have hc := c_X5_change (G := G) (i := j + k) (v := S.1 20 (s * 48 + i + k)) ht (by omega) hf hF1
      obtain ⟨SE, r1, r2, r3⟩ := ih (k + 1) (sI S1 20 (t * 48 + (j + k)) (nrI f (S.1 20 (s * 48 + i + k)))) (by omega) (hA.sI rfl) (fun k' hk' => hm k' hk') (fun b => by
        show (if 20 = 20 ∧ b = t * 48 + (j + k) then nrI f (S.1 20 (s * 48 + i + k)) else S1.1 20 b) = _
        by_cases e : b = t * 48 + (j + k)
        · rw [if_pos ⟨rfl, e⟩, if_pos (by omega), show b - (t * 48 + j) = k by omega]
        · rw [if_neg (fun z => e z.2), hI b]
          by_cases e2 : t * 48 + j ≤ b ∧ b < t * 48 + j + k
          · rw [if_pos e2, if_pos (by omega)]
          · rw [if_neg e2, if_neg (by omega)])
      refine ⟨SE, ?_, r2, r3⟩
      refine V_il6 d_X5_move_44 ?_
      refine V_il5 d_X5_move_46 ?_
      refine U_ic_geN d_X5_move_48 (by omega) (by omega) (fun q => absurd q (by omega)) (fun h48 => ?_)
      refine V_il6 d_X5_move_51 ?_
      refine V_ki d_X5_move_53 ?_
      refine U_ic_geN d_X5_move_55 (by omega) (by omega) (fun q => absurd q (by omega)) (fun h55 => ?_)
      refine V_al0 d_X5_move_58 ?_
      refine V_il3 d_X5_move_59 ?_
      refine V_il4 d_X5_move_60 ?_
      refine V_il6 d_X5_move_62 ?_
      first | with_reducible refine V_iaddN d_X5_move_64 ?_ | refine V_iadd d_X5_move_64 ?_
      refine V_al0 d_X5_move_65 ?_
      refine V_getR d_X5_move_66 rfl rfl (by decide) rfl ?_
      refine V_il6 d_X5_move_69 ?_
      refine U_cs2 d_X5_move_71 (hit) rfl ?_
      refine U_cv3v d_X5_move_74 (hc) rfl rfl rfl ?_
      refine V_icN6 d_X5_move_77 rfl ?_
      refine V_goto d_X5_move_80 ?_
      exact r1
  have first : ∀ (d k : Nat) (S1 : AS), k + d = n → Ag P20 S S1 → (∀ k', k' < k → S1.1 21 k' = S.1 20 (s * 48 + i + k')) → (∀ b, S1.1 20 b = S.1 20 b) →
      ∃ SE, U G M_X5_move (Ze G none SE) 3 [some (.ref (gB G + 17)), some (.int (nI s)), some (.int (nI i)), some (.int (nI t)), some (.int (nI j)), some (.int (nI n)), some (.int (nI k))] [] S1 ∧ (∀ b, SE.1 20 b = if t * 48 + j ≤ b ∧ b < t * 48 + j + n then nrI f (S.1 20 (s * 48 + i + (b - (t * 48 + j)))) else S.1 20 b) ∧ Ag P20 S SE := by
    intro d
    induction d with
    | zero =>
      intro k S1 hk hA hm hI
      rw [Nat.add_zero] at hk
      subst hk
      obtain ⟨SE, r1, r2, r3⟩ := second k 0 S1 (Nat.zero_add _) hA hm (fun b => by rw [if_neg (by omega)]; exact hI b)
      refine ⟨SE, ?_, r2, r3⟩
      refine V_il6 d_X5_move_3 ?_
      refine V_il5 d_X5_move_5 ?_
      refine U_ic_geN d_X5_move_7 (by omega) (by omega) (fun h7 => ?_) (fun q => absurd q (by omega))
      refine V_ki d_X5_move_41 ?_
      refine V_is6 d_X5_move_42 rfl ?_
      exact r1
    | succ d ih =>
      intro k S1 hk hA hm hI
      have hit := c_X5_itemOf (G := G) (S := S1) (i := i + k) hs (by omega)
      rw [hI, ← Nat.add_assoc] at hit
      obtain ⟨SE, r1, r2, r3⟩ := ih (k + 1) (sI S1 21 k (S.1 20 (s * 48 + i + k))) (by omega) (hA.sI rfl) (fun k' hk' => by
        rw [sI_1]
        by_cases e : k' = k
        · rw [if_pos ⟨rfl, e⟩, e]
        · rw [if_neg (fun z => e z.2)]
          exact hm k' (by omega)) (fun b => hI b)
      refine ⟨SE, ?_, r2, r3⟩
      refine V_il6 d_X5_move_3 ?_
      refine V_il5 d_X5_move_5 ?_
      refine U_ic_geN d_X5_move_7 (by omega) (by omega) (fun q => absurd q (by omega)) (fun h7 => ?_)
      refine V_il6 d_X5_move_10 ?_
      refine V_ki d_X5_move_12 ?_
      refine U_ic_geN d_X5_move_14 (by omega) (by omega) (fun q => absurd q (by omega)) (fun h14 => ?_)
      refine V_al0 d_X5_move_17 ?_
      refine V_getR d_X5_move_18 rfl rfl (by decide) rfl ?_
      refine V_il6 d_X5_move_21 ?_
      refine V_al0 d_X5_move_23 ?_
      refine V_il1 d_X5_move_24 ?_
      refine V_il2 d_X5_move_25 ?_
      refine V_il6 d_X5_move_26 ?_
      first | with_reducible refine V_iaddN d_X5_move_28 ?_ | refine V_iadd d_X5_move_28 ?_
      refine U_cv2 d_X5_move_29 (hit) rfl rfl rfl ?_
      refine U_cs3v d_X5_move_32 (c_X8_keep (j := k) rfl (by decide) rfl (by omega)) rfl ?_
      refine V_icN6 d_X5_move_35 rfl ?_
      refine V_goto d_X5_move_38 ?_
      exact r1
  obtain ⟨SE, r1, r2, r3⟩ := first n 0 S (Nat.zero_add _) Ag.rf (fun k' hk' => absurd hk' (Nat.not_lt_zero _)) (fun _ => rfl)
  refine ⟨SE, ?_, r2, r3⟩
  refine Rn_of hp_X5_move [some (.ref (gB G + 17)), some (.int (nI s)), some (.int (nI i)), some (.int (nI t)), some (.int (nI j)), some (.int (nI n)), none] rfl (Nat.le_of_ble_eq_true rfl) (Nat.le_of_ble_eq_true rfl) ?_
  refine V_ki d_X5_move_0 ?_
  refine V_is6 d_X5_move_1 rfl ?_
  exact r1
