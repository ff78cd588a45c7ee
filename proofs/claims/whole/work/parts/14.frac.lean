/-! fractions -/
theorem lN_inj {a b : Nat} (ha : a < 2 ^ 63) (hb : b < 2 ^ 63) (h : lN a = lN b) : a = b := (pk_lEQ ha hb).mp h
theorem lN_ne0 {a : Nat} (ha : a < 2 ^ 63) (h0 : 0 < a) : ¬ lN a = 0 := by
  intro h
  have := lN_inj (b := 0) ha (by decide) h
  omega
def fr (a b j : Nat) : Nat := if j = 0 then a / Nat.gcd a b else b / Nat.gcd a b
def frS (S : AS) (k a b : Nat) : AS := sL (sL S k 0 (lN (fr a b 0))) k 1 (lN (fr a b 1))
set_option maxRecDepth 100000 in
theorem c_X2_commonDivisor {G : Gm} {S : AS} {a b : Nat} (ha : a < 2 ^ 62) (hb : b < 2 ^ 62) : Rm G M_X2_commonDivisor [.long (lN a), .long (lN b)] S (some (.long (lN (Nat.gcd a b)))) S := by
  have fin : ∀ (x t : Nat) (r : Option Value), x < 2 ^ 62 → U G M_X2_commonDivisor (Ze G (some (.long (lN x))) S) 9 [some (.long (lN a)), none, some (.long (lN b)), none, some (.long (lN x)), none, some (.long (lN 0)), none, some (.int (nI t)), r, none] [] S := by
    intro x t r hx
    refine V_il8 d_X2_commonDivisor_9 ?_
    refine V_ki d_X2_commonDivisor_11 ?_
    refine V_ic_ge d_X2_commonDivisor_14 (fun h14 => ?_) (fun h14 => ?_)
    · refine V_ll4 d_X2_commonDivisor_45 ?_
      exact V_lret d_X2_commonDivisor_47 rfl (by first | rfl | simp_all) rfl
    · refine V_ll6 d_X2_commonDivisor_17 ?_
      refine V_lconst (v := lN 0) d_X2_commonDivisor_19 rfl ?_
      refine V_lcmp d_X2_commonDivisor_20 ?_
      refine V_if_eq d_X2_commonDivisor_21 (fun h21 => ?_) (fun q => absurd ((lg_cmp_eq _ _).mpr rfl) q)
      refine V_ll4 d_X2_commonDivisor_45 ?_
      exact V_lret d_X2_commonDivisor_47 rfl (by first | rfl | simp_all) rfl
  have stp : ∀ (x y t g : Nat) (r : Option Value), x < 2 ^ 62 → y < 2 ^ 62 → 0 < y → t < 200 → (∀ r : Option Value, U G M_X2_commonDivisor (Ze G (some (.long (lN g))) S) 9 [some (.long (lN a)), none, some (.long (lN b)), none, some (.long (lN y)), none, some (.long (lN (x % y))), none, some (.int (nI (t + 1))), r, none] [] S) → U G M_X2_commonDivisor (Ze G (some (.long (lN g))) S) 9 [some (.long (lN a)), none, some (.long (lN b)), none, some (.long (lN x)), none, some (.long (lN y)), none, some (.int (nI t)), r, none] [] S := by
    intro x y t g r hx hy hy0 ht k
    have hne : ¬ lN y = 0 := lN_ne0 (by omega) hy0
    refine V_il8 d_X2_commonDivisor_9 ?_
    refine V_ki d_X2_commonDivisor_11 ?_
    refine U_ic_geN d_X2_commonDivisor_14 (by omega) (by omega) (fun q => absurd q (by omega)) (fun h14 => ?_)
    refine V_ll6 d_X2_commonDivisor_17 ?_
    refine V_lconst (v := lN 0) d_X2_commonDivisor_19 rfl ?_
    refine V_lcmp d_X2_commonDivisor_20 ?_
    refine V_if_eq d_X2_commonDivisor_21 (fun q => absurd ((lg_cmp_eq _ _).mp q) hne) (fun h21 => ?_)
    refine V_ll4 d_X2_commonDivisor_24 ?_
    refine V_ll6 d_X2_commonDivisor_26 ?_
    refine V_lrem d_X2_commonDivisor_28 (hne) ?_
    refine V_topl (pk_lRem (by omega) hy0 (by omega)) ?_
    refine V_ls9 d_X2_commonDivisor_29 rfl ?_
    refine V_ll6 d_X2_commonDivisor_31 ?_
    refine V_ls4 d_X2_commonDivisor_33 rfl ?_
    refine V_ll9 d_X2_commonDivisor_35 ?_
    refine V_ls6 d_X2_commonDivisor_37 rfl ?_
    refine V_icN8 d_X2_commonDivisor_39 rfl ?_
    refine V_goto d_X2_commonDivisor_42 ?_
    exact k _
  have loop : ∀ (k x y t : Nat) (r : Option Value), x < 2 ^ 62 → y < 2 ^ 62 → y < 2 ^ k → t + 2 * k ≤ 200 → U G M_X2_commonDivisor (Ze G (some (.long (lN (Nat.gcd x y)))) S) 9 [some (.long (lN a)), none, some (.long (lN b)), none, some (.long (lN x)), none, some (.long (lN y)), none, some (.int (nI t)), r, none] [] S := by
    intro k
    induction k with
    | zero =>
      intro x y t r hx hy hk ht
      have h0 : y = 0 := by omega
      subst h0
      rw [Nat.gcd_zero_right]
      exact fin x t r hx
    | succ k ih =>
      intro x y t r hx hy hk ht
      rcases Nat.eq_zero_or_pos y with h0 | h0
      · subst h0
        rw [Nat.gcd_zero_right]
        exact fin x t r hx
      · have e1 : Nat.gcd x y = Nat.gcd y (x % y) := by rw [Nat.gcd_comm x y, Nat.gcd_rec y x, Nat.gcd_comm]
        have h1 := Nat.mod_lt x h0
        refine stp x y t _ r hx hy h0 (by omega) (fun r => ?_)
        rw [e1]
        rcases Nat.eq_zero_or_pos (x % y) with g0 | g0
        · rw [g0, Nat.gcd_zero_right]
          exact fin y (t + 1) r hy
        · have e2 : Nat.gcd y (x % y) = Nat.gcd (x % y) (y % (x % y)) := by rw [Nat.gcd_comm y, Nat.gcd_rec (x % y) y, Nat.gcd_comm]
          have h2 := Nat.mod_lt y g0
          have h3 : x % y + y % (x % y) ≤ y := by
            have := Nat.div_add_mod y (x % y)
            have h4 : 1 ≤ y / (x % y) := Nat.div_pos (by omega) g0
            have h5 : x % y * 1 ≤ x % y * (y / (x % y)) := Nat.mul_le_mul_left _ h4
            omega
          refine stp y (x % y) (t + 1) _ r hy (by omega) g0 (by omega) (fun r => ?_)
          rw [e2]
          refine ih (x % y) (y % (x % y)) (t + 1 + 1) r (by omega) (by omega) ?_ (by omega)
          rw [Nat.pow_succ] at hk
          omega
  refine Rn_of hp_X2_commonDivisor [some (.long (lN a)), none, some (.long (lN b)), none, none, none, none, none, none, none, none] rfl (Nat.le_of_ble_eq_true rfl) (Nat.le_of_ble_eq_true rfl) ?_
  refine V_ll0 d_X2_commonDivisor_0 ?_
  refine V_ls4 d_X2_commonDivisor_1 rfl ?_
  refine V_ll2 d_X2_commonDivisor_3 ?_
  refine V_ls6 d_X2_commonDivisor_4 rfl ?_
  refine V_ki d_X2_commonDivisor_6 ?_
  refine V_is8 d_X2_commonDivisor_7 rfl ?_
  exact loop 62 a b 0 none ha hb (by omega) (by omega)
theorem V_ldivN {G : Gm} {M : MT} {n0 nE : Nat} {Z : ZT} {n : Nat} {ρ : Rho} {pc pc' : Nat} {L : List (Option Value)} {st : List Value} {S : AS} {x y : Nat} (h : Dc M pc (.ldiv) 1 pc') (hx : x < 2 ^ 63) (h0 : 0 < y) (hy : y < 2 ^ 63) (k : V G M n0 nE Z n ρ pc' L (.long (lN (x / y)) :: st) S) : V G M n0 nE Z n ρ pc L (.long (lN y) :: .long (lN x) :: st) S :=
  V_ldiv h (lN_ne0 hy h0) (by rw [pk_lDiv hx h0 hy]; exact k)
set_option maxRecDepth 100000 in
theorem c_X2_become {G : Gm} {S : AS} {k a b : Nat} (hk : okd k = .inl 2) (hn : k < 35) (ha : a < 2 ^ 62) (hb : b < 2 ^ 62) (hb0 : 0 < b) : Rm G M_X2_become [.ref (gB G + k), .long (lN a), .long (lN b)] S (some (.ref (gB G + k))) (frS S k a b) := by
  have hg : 0 < Nat.gcd a b := Nat.gcd_pos_of_pos_right a hb0
  have hgl : Nat.gcd a b ≤ b := Nat.gcd_le_right a hb0
  have hc : ¬ lg_cmp (lN (Nat.gcd a b)) (lN 0) ≤ 0 := by
    rw [lg_cmp_le, pk_lLE (by omega) (by omega)]
    omega
  refine Rn_of hp_X2_become [some (.ref (gB G + k)), some (.long (lN a)), none, some (.long (lN b)), none, none, none] rfl (Nat.le_of_ble_eq_true rfl) (Nat.le_of_ble_eq_true rfl) ?_
  refine V_ll1 d_X2_become_0 ?_
  refine V_ll3 d_X2_become_1 ?_
  refine U_cs2 d_X2_become_2 (c_X2_commonDivisor ha hb) rfl ?_
  refine V_ls5 d_X2_become_5 rfl ?_
  refine V_al0 d_X2_become_7 ?_
  refine V_ll5 d_X2_become_8 ?_
  refine V_lconst (v := lN 0) d_X2_become_10 rfl ?_
  refine V_lcmp d_X2_become_11 ?_
  refine V_if_le d_X2_become_12 (fun q => absurd q hc) (fun h12 => ?_)
  refine V_ll1 d_X2_become_15 ?_
  refine V_ll5 d_X2_become_16 ?_
  refine V_ldivN d_X2_become_18 (by omega) (hg) (by omega) ?_
  refine V_goto d_X2_become_19 ?_
  refine V_putL d_X2_become_23 hk rfl hn rfl ?_
  refine V_al0 d_X2_become_26 ?_
  refine V_ll5 d_X2_become_27 ?_
  refine V_lconst (v := lN 0) d_X2_become_29 rfl ?_
  refine V_lcmp d_X2_become_30 ?_
  refine V_if_le d_X2_become_31 (fun q => absurd q hc) (fun h31 => ?_)
  refine V_ll3 d_X2_become_34 ?_
  refine V_ll5 d_X2_become_35 ?_
  refine V_ldivN d_X2_become_37 (by omega) (hg) (by omega) ?_
  refine V_goto d_X2_become_38 ?_
  refine V_putL d_X2_become_42 hk rfl hn rfl ?_
  refine V_al0 d_X2_become_45 ?_
  exact V_aret d_X2_become_46 rfl (by first | rfl | simp_all) rfl
set_option maxRecDepth 100000 in
theorem c_X2_multiply {G : Gm} {S : AS} {k u v a b : Nat} (hk : okd k = .inl 2) (hn : Nat.ble (k + 1) 35 = true) (hu : S.2 k 0 = lN u) (hv : S.2 k 1 = lN v) (ha : u * a < 2 ^ 62) (hb : v * b < 2 ^ 62) (hb0 : 0 < v * b) : Rm G M_X2_multiply [.ref (gB G + k), .long (lN a), .long (lN b)] S none (frS S k (u * a) (v * b)) := by
  have hn' : k < 35 := Nat.le_of_ble_eq_true hn
  have h := c_X2_become (G := G) (S := S) hk hn' ha hb hb0
  refine Rn_of hp_X2_multiply [some (.ref (gB G + k)), some (.long (lN a)), none, some (.long (lN b)), none] rfl (Nat.le_of_ble_eq_true rfl) (Nat.le_of_ble_eq_true rfl) ?_
  refine V_al0 d_X2_multiply_0 ?_
  refine V_al0 d_X2_multiply_1 ?_
  refine V_getL d_X2_multiply_2 hk rfl hn' ?_
  refine V_topl (hu) ?_
  refine V_ll1 d_X2_multiply_5 ?_
  first | with_reducible refine V_lmulN d_X2_multiply_6 ?_ | refine V_lmul d_X2_multiply_6 ?_
  refine V_al0 d_X2_multiply_7 ?_
  refine V_getL d_X2_multiply_8 hk rfl hn' ?_
  refine V_topl (hv) ?_
  refine V_ll3 d_X2_multiply_11 ?_
  first | with_reducible refine V_lmulN d_X2_multiply_12 ?_ | refine V_lmul d_X2_multiply_12 ?_
  refine U_cv2 d_X2_multiply_13 h hk hn rfl ?_
  refine V_pop d_X2_multiply_16 rfl ?_
  exact V_vret d_X2_multiply_17 rfl rfl rfl
set_option maxRecDepth 100000 in
theorem c_X2_part {G : Gm} {S : AS} {k j : Nat} (hk : okd k = .inl 2) (hn : k < 35) (hj : j < 2 ^ 31) : Rm G M_X2_part [.ref (gB G + k), .int (nI j)] S (some (.long (S.2 k (if j = 0 then 0 else 1)))) S := by
  refine Rn_of hp_X2_part [some (.ref (gB G + k)), some (.int (nI j))] rfl (Nat.le_of_ble_eq_true rfl) (Nat.le_of_ble_eq_true rfl) ?_
  refine V_il1 d_X2_part_0 ?_
  refine U_if_neN d_X2_part_1 (by omega) (fun h1 => ?_) (fun h1 => ?_)
  · refine V_al0 d_X2_part_11 ?_
    refine V_getL d_X2_part_12 hk rfl hn ?_
    exact V_lret d_X2_part_15 rfl (by first | rw [if_pos h1] | rw [if_neg h1]) rfl
  · refine V_al0 d_X2_part_4 ?_
    refine V_getL d_X2_part_5 hk rfl hn ?_
    refine V_goto d_X2_part_8 ?_
    exact V_lret d_X2_part_15 rfl (by first | rw [if_pos h1] | rw [if_neg h1]) rfl
set_option maxRecDepth 100000 in
theorem c_X9_lowest {G : Gm} {S : AS} {a b j : Nat} (ha : a < 2 ^ 62) (hb : b < 2 ^ 62) (hb0 : 0 < b) (hj : j < 2 ^ 31) : Rm G M_X9_lowest [.long (lN a), .long (lN b), .int (nI j)] S (some (.long (lN (fr a b j)))) S := by
  have hg : 0 < Nat.gcd a b := Nat.gcd_pos_of_pos_right a hb0
  have hgl : Nat.gcd a b ≤ b := Nat.gcd_le_right a hb0
  have loop : ∀ (m x y : Nat) (r : Option Value), y ≤ m → x < 2 ^ 62 → y < 2 ^ 62 → Nat.gcd x y = Nat.gcd a b → U G M_X9_lowest (Ze G (some (.long (lN (fr a b j)))) S) 6 [some (.long (lN a)), none, some (.long (lN b)), none, some (.int (nI j)), some (.long (lN x)), none, some (.long (lN y)), none, r, none] [] S := by
    intro m
    induction m with
    | zero =>
      intro x y r hm hx hy he
      have h0 : y = 0 := by omega
      subst h0
      rw [Nat.gcd_zero_right] at he
      subst he
      refine V_ll7 d_X9_lowest_6 ?_
      refine V_lconst (v := lN 0) d_X9_lowest_8 rfl ?_
      refine V_lcmp d_X9_lowest_9 ?_
      refine V_if_eq d_X9_lowest_10 (fun h10 => ?_) (fun q => absurd ((lg_cmp_eq _ _).mpr rfl) q)
      refine V_il4 d_X9_lowest_31 ?_
      refine U_if_neN d_X9_lowest_33 (by omega) (fun h33 => ?_) (fun h33 => ?_)
      · refine V_ll2 d_X9_lowest_43 ?_
        refine V_ll5 d_X9_lowest_44 ?_
        refine V_ldivN d_X9_lowest_46 (by omega) (hg) (by omega) ?_
        exact V_lret d_X9_lowest_47 rfl (by simp [fr, h33]) rfl
      · refine V_ll0 d_X9_lowest_36 ?_
        refine V_ll5 d_X9_lowest_37 ?_
        refine V_ldivN d_X9_lowest_39 (by omega) (hg) (by omega) ?_
        refine V_goto d_X9_lowest_40 ?_
        exact V_lret d_X9_lowest_47 rfl (by simp [fr, h33]) rfl
    | succ m ih =>
      intro x y r hm hx hy he
      rcases Nat.eq_zero_or_pos y with h0 | h0
      · subst h0
        rw [Nat.gcd_zero_right] at he
        subst he
        refine V_ll7 d_X9_lowest_6 ?_
        refine V_lconst (v := lN 0) d_X9_lowest_8 rfl ?_
        refine V_lcmp d_X9_lowest_9 ?_
        refine V_if_eq d_X9_lowest_10 (fun h10 => ?_) (fun q => absurd ((lg_cmp_eq _ _).mpr rfl) q)
        refine V_il4 d_X9_lowest_31 ?_
        refine U_if_neN d_X9_lowest_33 (by omega) (fun h33 => ?_) (fun h33 => ?_)
        · refine V_ll2 d_X9_lowest_43 ?_
          refine V_ll5 d_X9_lowest_44 ?_
          refine V_ldivN d_X9_lowest_46 (by omega) (hg) (by omega) ?_
          exact V_lret d_X9_lowest_47 rfl (by simp [fr, h33]) rfl
        · refine V_ll0 d_X9_lowest_36 ?_
          refine V_ll5 d_X9_lowest_37 ?_
          refine V_ldivN d_X9_lowest_39 (by omega) (hg) (by omega) ?_
          refine V_goto d_X9_lowest_40 ?_
          exact V_lret d_X9_lowest_47 rfl (by simp [fr, h33]) rfl
      · have hne : ¬ lN y = 0 := lN_ne0 (by omega) h0
        have h1 := Nat.mod_lt x h0
        refine V_ll7 d_X9_lowest_6 ?_
        refine V_lconst (v := lN 0) d_X9_lowest_8 rfl ?_
        refine V_lcmp d_X9_lowest_9 ?_
        refine V_if_eq d_X9_lowest_10 (fun q => absurd ((lg_cmp_eq _ _).mp q) hne) (fun h10 => ?_)
        refine V_ll5 d_X9_lowest_13 ?_
        refine V_ll7 d_X9_lowest_15 ?_
        refine V_lrem d_X9_lowest_17 (hne) ?_
        refine V_topl (pk_lRem (by omega) h0 (by omega)) ?_
        refine V_ls9 d_X9_lowest_18 rfl ?_
        refine V_ll7 d_X9_lowest_20 ?_
        refine V_ls5 d_X9_lowest_22 rfl ?_
        refine V_ll9 d_X9_lowest_24 ?_
        refine V_ls7 d_X9_lowest_26 rfl ?_
        refine V_goto d_X9_lowest_28 ?_
        exact ih y (x % y) _ (by omega) hy (by omega) (by rw [← he, Nat.gcd_comm x y, Nat.gcd_rec y x, Nat.gcd_comm])
  refine Rn_of hp_X9_lowest [some (.long (lN a)), none, some (.long (lN b)), none, some (.int (nI j)), none, none, none, none, none, none] rfl (Nat.le_of_ble_eq_true rfl) (Nat.le_of_ble_eq_true rfl) ?_
  refine V_ll0 d_X9_lowest_0 ?_
  refine V_ls5 d_X9_lowest_1 rfl ?_
  refine V_ll2 d_X9_lowest_3 ?_
  refine V_ls7 d_X9_lowest_4 rfl ?_
  exact loop b a b none (Nat.le_refl _) ha hb rfl
