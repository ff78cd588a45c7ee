/-! dice -/
def alN (N : List (List Nat)) (n k : Nat) : Nat := sumN (fun k => if ni N n = ni N k then 1 else 0) k
theorem alN_le (N : List (List Nat)) (n : Nat) : ∀ k, alN N n k ≤ k
  | 0 => Nat.le_refl _
  | k + 1 => by
    have h := alN_le N n k
    show alN N n k + (if ni N n = ni N k then 1 else 0) ≤ k + 1
    split <;> omega
set_option maxRecDepth 100000 in
theorem c_X1_alike {G : Gm} {S : AS} {ft : Int32} {N : List (List Nat)} {n : Nat} (hv : CNv S ft N) (hN : WFN N) (hn : n < N.length) : Rm G M_X1_alike [.ref (gB G + 15), .int (nI n)] S (some (.int (nI (alN N n N.length)))) S := by
  have h8 := hN.1
  have loop : ∀ d k, k + d = N.length → U G M_X1_alike (Ze G (some (.int (nI (alN N n N.length)))) S) 4 [some (.ref (gB G + 15)), some (.int (nI n)), some (.int (nI (alN N n k))), some (.int (nI k))] [] S := by
    intro d
    induction d with
    | zero =>
      intro k hk
      rw [Nat.add_zero] at hk
      subst hk
      refine V_il3 d_X1_alike_4 ?_
      refine V_al0 d_X1_alike_5 ?_
      refine V_getR d_X1_alike_6 rfl rfl (by decide) rfl ?_
      refine V_getIe d_X1_alike_9 rfl rfl (by decide) (hv.2.1) ?_
      refine U_ic_geN d_X1_alike_12 (by omega) (by omega) (fun h12 => ?_) (fun q => absurd q (by omega))
      refine V_il2 d_X1_alike_41 ?_
      exact V_iret d_X1_alike_42 rfl (by first | rfl | simp_all) rfl
    | succ d ih =>
      intro k hk
      have e9 : alN N n (k + 1) = alN N n k + (if ni N n = ni N k then 1 else 0) := rfl
      have ih' := ih (k + 1) (by omega)
      rw [e9] at ih'
      refine V_il3 d_X1_alike_4 ?_
      refine V_al0 d_X1_alike_5 ?_
      refine V_getR d_X1_alike_6 rfl rfl (by decide) rfl ?_
      refine V_getIe d_X1_alike_9 rfl rfl (by decide) (hv.2.1) ?_
      refine U_ic_geN d_X1_alike_12 (by omega) (by omega) (fun q => absurd q (by omega)) (fun h12 => ?_)
      refine V_il2 d_X1_alike_15 ?_
      refine V_al0 d_X1_alike_16 ?_
      refine V_getR d_X1_alike_17 rfl rfl (by decide) rfl ?_
      refine V_il1 d_X1_alike_20 ?_
      refine V_il3 d_X1_alike_21 ?_
      refine U_cv2 d_X1_alike_22 (c_X4_same hv hN hn (by omega)) rfl rfl rfl ?_
      refine V_eqB d_X1_alike_25 (fun h25 => ?_) (fun h25 => ?_)
      · rw [if_neg (of_decide_eq_false h25)] at ih'
        refine V_ki d_X1_alike_32 ?_
        first | with_reducible refine V_iaddN d_X1_alike_33 ?_ | refine V_iadd d_X1_alike_33 ?_
        refine V_is2 d_X1_alike_34 rfl ?_
        refine V_icN3 d_X1_alike_35 rfl ?_
        refine V_goto d_X1_alike_38 ?_
        exact ih'
      · rw [if_pos (of_decide_eq_true h25)] at ih'
        refine V_ki d_X1_alike_28 ?_
        refine V_goto d_X1_alike_29 ?_
        first | with_reducible refine V_iaddN d_X1_alike_33 ?_ | refine V_iadd d_X1_alike_33 ?_
        refine V_is2 d_X1_alike_34 rfl ?_
        refine V_icN3 d_X1_alike_35 rfl ?_
        refine V_goto d_X1_alike_38 ?_
        exact ih'
  refine Rn_of hp_X1_alike [some (.ref (gB G + 15)), some (.int (nI n)), none, none] rfl (Nat.le_of_ble_eq_true rfl) (Nat.le_of_ble_eq_true rfl) ?_
  refine V_ki d_X1_alike_0 ?_
  refine V_is2 d_X1_alike_1 rfl ?_
  refine V_ki d_X1_alike_2 ?_
  refine V_is3 d_X1_alike_3 rfl ?_
  exact loop N.length 0 (Nat.zero_add _)
def mlP (q : Nat × Nat) (a b : Nat) : Nat × Nat := (fr (q.1 * a) (q.2 * b) 0, fr (q.1 * a) (q.2 * b) 1)
def chA (p so ot : Nat) : Nat × Nat := lp (fun i q => mlP q (p * (ot + i)) (16 * i)) so 1 (1, 1)
def chF (p so ot : Nat) : Nat × Nat := lp (fun _ q => mlP q (16 - p) 16) ot 0 (chA p so ot)
def Q128 (k : Nat) (q : Nat × Nat) : Prop := q.1 ≤ 128 ^ k ∧ q.2 ≤ 128 ^ k ∧ 0 < q.2
theorem Q128_step {k a b : Nat} {q : Nat × Nat} (h : Q128 k q) (ha : a ≤ 128) (hb : b ≤ 128) (hb0 : 0 < b) : Q128 (k + 1) (mlP q a b) ∧ q.1 * a ≤ 128 ^ (k + 1) ∧ q.2 * b ≤ 128 ^ (k + 1) ∧ 0 < q.2 * b := by
  obtain ⟨h1, h2, h3⟩ := h
  have m1 : q.1 * a ≤ 128 ^ (k + 1) := by rw [Nat.pow_succ]; exact Nat.mul_le_mul h1 ha
  have m2 : q.2 * b ≤ 128 ^ (k + 1) := by rw [Nat.pow_succ]; exact Nat.mul_le_mul h2 hb
  have m3 : 0 < q.2 * b := Nat.mul_pos h3 hb0
  exact ⟨⟨Nat.le_trans (fr_le0 _ _) m1, Nat.le_trans (fr_le1 _ _) m2, fr_pos1 m3⟩, m1, m2, m3⟩
theorem Q128_lt {k x : Nat} (hk : k ≤ 8) (h : x ≤ 128 ^ k) : x < 2 ^ 62 := by
  have h1 : (128 : Nat) ^ k ≤ 128 ^ 8 := Nat.pow_le_pow_right (by decide) hk
  have h2 : (128 : Nat) ^ 8 < 2 ^ 62 := by decide
  omega
set_option maxRecDepth 100000 in
theorem c_X1_chance {G : Gm} {S : AS} {ft : Int32} {N : List (List Nat)} {n p : Nat} (hv : CNv S ft N) (hN : WFN N) (hn : n < N.length) (hp : p ≤ 16) : ∃ SE, Rm G M_X1_chance [.ref (gB G + 15), .int (nI n), .int (nI p)] S (some (.ref (gB G + 16))) SE ∧ SE.2 16 0 = lN (chF p (alN N n N.length) (N.length - alN N n N.length)).1 ∧ SE.2 16 1 = lN (chF p (alN N n N.length) (N.length - alN N n N.length)).2 ∧ SE.1 = S.1 := by
  have h8 := hN.1
  have hal := alN_le N n N.length
  have hA := c_X1_alike (G := G) hv hN hn
  generalize alN N n N.length = so at hal hA ⊢
  have second : ∀ (d i : Nat) (q : Nat × Nat) (S1 : AS), i + d = N.length - so → Q128 (so + i) q → S1.2 16 0 = lN q.1 → S1.2 16 1 = lN q.2 → S1.1 = S.1 →
      ∃ SE, U G M_X1_chance (Ze G (some (.ref (gB G + 16))) SE) 68 [some (.ref (gB G + 15)), some (.int (nI n)), some (.int (nI p)), some (.int (nI so)), some (.int (nI (N.length - so))), some (.int (nI i))] [] S1 ∧ SE.2 16 0 = lN (lp (fun _ q => mlP q (16 - p) 16) d i q).1 ∧ SE.2 16 1 = lN (lp (fun _ q => mlP q (16 - p) 16) d i q).2 ∧ SE.1 = S.1 := by
    intro d
    induction d with
    | zero =>
      intro i q S1 hi hq g0 g1 gS
      rw [Nat.add_zero] at hi
      refine ⟨S1, ?_, g0, g1, gS⟩
      refine V_il5 d_X1_chance_68 ?_
      refine V_il4 d_X1_chance_70 ?_
      refine U_ic_geN d_X1_chance_72 (by omega) (by omega) (fun h72 => ?_) (fun q => absurd q (by omega))
      refine V_al0 d_X1_chance_96 ?_
      refine V_getR d_X1_chance_97 rfl rfl (by decide) rfl ?_
      exact V_aret d_X1_chance_100 rfl (by first | rfl | simp_all) rfl
    | succ d ih =>
      intro i q S1 hi hq g0 g1 gS
      obtain ⟨q1, q2, q3, q4⟩ := Q128_step (a := 16 - p) (b := 16) hq (by omega) (by omega) (by omega)
      have hmul := c_X2_multiply (G := G) (S := S1) (k := 16) rfl rfl g0 g1 (Q128_lt (by omega) q2) (Q128_lt (by omega) q3) q4
      obtain ⟨SE, r1, r2, r3, r4⟩ := ih (i + 1) _ (frS S1 16 (q.1 * (16 - p)) (q.2 * 16)) (by omega) q1 rfl rfl gS
      refine ⟨SE, ?_, r2, r3, r4⟩
      refine V_il5 d_X1_chance_68 ?_
      refine V_il4 d_X1_chance_70 ?_
      refine U_ic_geN d_X1_chance_72 (by omega) (by omega) (fun q => absurd q (by omega)) (fun h72 => ?_)
      refine V_al0 d_X1_chance_75 ?_
      refine V_getR d_X1_chance_76 rfl rfl (by decide) rfl ?_
      refine V_ki d_X1_chance_79 ?_
      refine V_il2 d_X1_chance_81 ?_
      refine V_isubN d_X1_chance_82 (hp) ?_
      refine V_i2lN d_X1_chance_83 (by omega) ?_
      refine V_ldc2 d_X1_chance_84 ?_
      refine U_cv2v d_X1_chance_87 (hmul) rfl rfl rfl ?_
      refine V_icN5 d_X1_chance_90 rfl ?_
      refine V_goto d_X1_chance_93 ?_
      exact r1
  have first : ∀ (d i : Nat) (q : Nat × Nat) (S1 : AS), i + d = so + 1 → 1 ≤ i → Q128 (i - 1) q → S1.2 16 0 = lN q.1 → S1.2 16 1 = lN q.2 → S1.1 = S.1 →
      ∃ SE, U G M_X1_chance (Ze G (some (.ref (gB G + 16))) SE) 30 [some (.ref (gB G + 15)), some (.int (nI n)), some (.int (nI p)), some (.int (nI so)), some (.int (nI (N.length - so))), some (.int (nI i))] [] S1 ∧ SE.2 16 0 = lN (lp (fun _ q => mlP q (16 - p) 16) (N.length - so) 0 (lp (fun i q => mlP q (p * (N.length - so + i)) (16 * i)) d i q)).1 ∧ SE.2 16 1 = lN (lp (fun _ q => mlP q (16 - p) 16) (N.length - so) 0 (lp (fun i q => mlP q (p * (N.length - so + i)) (16 * i)) d i q)).2 ∧ SE.1 = S.1 := by
    intro d
    induction d with
    | zero =>
      intro i q S1 hi hi1 hq g0 g1 gS
      rw [Nat.add_zero] at hi
      rw [show i - 1 = so + 0 by omega] at hq
      obtain ⟨SE, r1, r2, r3, r4⟩ := second (N.length - so) 0 q S1 (Nat.zero_add _) hq g0 g1 gS
      refine ⟨SE, ?_, r2, r3, r4⟩
      refine V_il5 d_X1_chance_30 ?_
      refine V_il3 d_X1_chance_32 ?_
      refine U_ic_gtN d_X1_chance_33 (by omega) (by omega) (fun h33 => ?_) (fun q => absurd q (by omega))
      refine V_ki d_X1_chance_65 ?_
      refine V_is5 d_X1_chance_66 rfl ?_
      exact r1
    | succ d ih =>
      intro i q S1 hi hi1 hq g0 g1 gS
      have ba : p * (N.length - so + i) ≤ 16 * 8 := Nat.mul_le_mul hp (by omega)
      have bb : 16 * i ≤ 128 := by omega
      obtain ⟨q1, q2, q3, q4⟩ := Q128_step (a := p * (N.length - so + i)) (b := 16 * i) hq ba bb (by omega)
      have hmul := c_X2_multiply (G := G) (S := S1) (k := 16) rfl rfl g0 g1 (Q128_lt (by omega) q2) (Q128_lt (by omega) q3) q4
      rw [show i - 1 + 1 = i + 1 - 1 by omega] at q1
      obtain ⟨SE, r1, r2, r3, r4⟩ := ih (i + 1) _ (frS S1 16 (q.1 * (p * (N.length - so + i))) (q.2 * (16 * i))) (by omega) (by omega) q1 rfl rfl gS
      refine ⟨SE, ?_, r2, r3, r4⟩
      refine V_il5 d_X1_chance_30 ?_
      refine V_il3 d_X1_chance_32 ?_
      refine U_ic_gtN d_X1_chance_33 (by omega) (by omega) (fun q => absurd q (by omega)) (fun h33 => ?_)
      refine V_al0 d_X1_chance_36 ?_
      refine V_getR d_X1_chance_37 rfl rfl (by decide) rfl ?_
      refine V_il2 d_X1_chance_40 ?_
      refine V_i2lN d_X1_chance_41 (by omega) ?_
      refine V_il4 d_X1_chance_42 ?_
      refine V_il5 d_X1_chance_44 ?_
      first | with_reducible refine V_iaddN d_X1_chance_46 ?_ | refine V_iadd d_X1_chance_46 ?_
      refine V_i2lN d_X1_chance_47 (by omega) ?_
      first | with_reducible refine V_lmulN d_X1_chance_48 ?_ | refine V_lmul d_X1_chance_48 ?_
      refine V_ldc2 d_X1_chance_49 ?_
      refine V_il5 d_X1_chance_52 ?_
      refine V_i2lN d_X1_chance_54 (by omega) ?_
      first | with_reducible refine V_lmulN d_X1_chance_55 ?_ | refine V_lmul d_X1_chance_55 ?_
      refine U_cv2v d_X1_chance_56 (hmul) rfl rfl rfl ?_
      refine V_icN5 d_X1_chance_59 rfl ?_
      refine V_goto d_X1_chance_62 ?_
      exact r1
  obtain ⟨SE, r1, r2, r3, r4⟩ := first so 1 (1, 1) (frS S 16 1 1) (by omega) (Nat.le_refl _) ⟨Nat.le_refl _, Nat.le_refl _, by decide⟩ rfl rfl rfl
  refine ⟨SE, ?_, r2, r3, r4⟩
  refine Rn_of hp_X1_chance [some (.ref (gB G + 15)), some (.int (nI n)), some (.int (nI p)), none, none, none] rfl (Nat.le_of_ble_eq_true rfl) (Nat.le_of_ble_eq_true rfl) ?_
  refine V_al0 d_X1_chance_0 ?_
  refine V_il1 d_X1_chance_1 ?_
  refine U_cv1 d_X1_chance_2 (hA) rfl rfl rfl ?_
  refine V_is3 d_X1_chance_5 rfl ?_
  refine V_al0 d_X1_chance_6 ?_
  refine V_getR d_X1_chance_7 rfl rfl (by decide) rfl ?_
  refine V_getIe d_X1_chance_10 rfl rfl (by decide) (hv.2.1) ?_
  refine V_il3 d_X1_chance_13 ?_
  refine V_isubN d_X1_chance_14 (hal) ?_
  refine V_is4 d_X1_chance_15 rfl ?_
  refine V_al0 d_X1_chance_17 ?_
  refine V_getR d_X1_chance_18 rfl rfl (by decide) rfl ?_
  refine V_lconst (v := lN 1) d_X1_chance_21 rfl ?_
  refine V_lconst (v := lN 1) d_X1_chance_22 rfl ?_
  refine U_cv2 d_X1_chance_23 (c_X2_become (a := 1) (b := 1) rfl (by decide) (by omega) (by omega) (by omega)) rfl rfl rfl ?_
  refine V_pop d_X1_chance_26 rfl ?_
  refine V_ki d_X1_chance_27 ?_
  refine V_is5 d_X1_chance_28 rfl ?_
  exact r1
def nxS (s : Int32) : Int32 := nI 1103515245 * s + nI 12345
def upS (s : Int32) : Int32 := (s.toUInt32 >>> ((nI 16).toUInt32 &&& Int32.toUInt32 31)).toInt32
def lotX (s : Int32) : Int32 := upS s - upS s / nI 2 * nI 2
theorem lotX_or (s : Int32) : lotX s = nI 0 ∨ lotX s = nI 1 := by
  have h1 : upS s = nI (s.toBitVec.toNat / 2 ^ 16) := by
    have h := pk_ushr s (nI 16) 16 (by decide)
    have h2 : (upS s).toBitVec.toNat = s.toBitVec.toNat / 2 ^ 16 := h
    apply Int32.toBitVec_inj.mp
    apply BitVec.eq_of_toNat_eq
    have hlt : s.toBitVec.toNat < 2 ^ 32 := s.toBitVec.isLt
    rw [h2, pk_tn (by omega)]
  have hlt : s.toBitVec.toNat < 2 ^ 32 := s.toBitVec.isLt
  unfold lotX
  rw [h1, pk_rem (by omega) (by decide) (by decide)]
  rcases Nat.mod_two_eq_zero_or_one (s.toBitVec.toNat / 2 ^ 16) with g | g
  · left; rw [g]
  · right; rw [g]
def ftL (N : List (List Nat)) : Nat → Nat → Int32 → Bool
  | 0, _, _ => true
  | k + 1, n, s => decide (lotX (nxS s) = (if ni N 0 = ni N n then nI 0 else nI 1)) && ftL N k (n + 1) (nxS s)
set_option maxRecDepth 100000 in
theorem c_X1_fits {G : Gm} {S : AS} {ft : Int32} {N : List (List Nat)} {s : Int32} (hv : CNv S ft N) (hN : WFN N) : Rm G M_X1_fits [.ref (gB G + 15), .int s] S (some (.int (bI (ftL N N.length 0 s)))) S := by
  have h8 := hN.1
  have loop : ∀ (d n : Nat) (s1 : Int32) (y : Option Value), n + d = N.length → U G M_X1_fits (Ze G (some (.int (bI (ftL N d n s1)))) S) 4 [some (.ref (gB G + 15)), some (.int s), some (.int s1), some (.int (nI n)), y] [] S := by
    intro d
    induction d with
    | zero =>
      intro n s1 y hn
      rw [Nat.add_zero] at hn
      subst hn
      refine V_il3 d_X1_fits_4 ?_
      refine V_al0 d_X1_fits_5 ?_
      refine V_getR d_X1_fits_6 rfl rfl (by decide) rfl ?_
      refine V_getIe d_X1_fits_9 rfl rfl (by decide) (hv.2.1) ?_
      refine U_ic_geN d_X1_fits_12 (by omega) (by omega) (fun h12 => ?_) (fun q => absurd q (by omega))
      refine V_ki d_X1_fits_62 ?_
      exact V_zret d_X1_fits_63 rfl rfl (by first | rfl | simp_all) rfl
    | succ d ih =>
      intro n s1 y hn
      have hsame := c_X4_same (G := G) (a := 0) (b := n) hv hN (by omega) (by omega)
      rw [ftL]
      by_cases c1 : ni N 0 = ni N n
      · rw [decide_eq_true c1] at hsame
        rw [if_pos c1]
        by_cases c2 : lotX (nxS s1) = nI 0
        · rw [decide_eq_true c2, Bool.true_and]
          refine V_il3 d_X1_fits_4 ?_
          refine V_al0 d_X1_fits_5 ?_
          refine V_getR d_X1_fits_6 rfl rfl (by decide) rfl ?_
          refine V_getIe d_X1_fits_9 rfl rfl (by decide) (hv.2.1) ?_
          refine U_ic_geN d_X1_fits_12 (by omega) (by omega) (fun q => absurd q (by omega)) (fun h12 => ?_)
          refine V_ldc d_X1_fits_15 ?_
          refine V_il2 d_X1_fits_17 ?_
          first | with_reducible refine V_imulN d_X1_fits_18 ?_ | refine V_imul d_X1_fits_18 ?_
          refine V_ki d_X1_fits_19 ?_
          first | with_reducible refine V_iaddN d_X1_fits_22 ?_ | refine V_iadd d_X1_fits_22 ?_
          refine V_is2 d_X1_fits_23 rfl ?_
          refine V_il2 d_X1_fits_24 ?_
          refine V_ki d_X1_fits_25 ?_
          refine V_iushr d_X1_fits_27 rfl ?_
          refine V_ki d_X1_fits_28 ?_
          refine V_irem d_X1_fits_29 (by decide) ?_
          refine V_is4 d_X1_fits_30 rfl ?_
          refine V_il4 d_X1_fits_32 ?_
          refine V_al0 d_X1_fits_34 ?_
          refine V_getR d_X1_fits_35 rfl rfl (by decide) rfl ?_
          refine V_ki d_X1_fits_38 ?_
          refine V_il3 d_X1_fits_39 ?_
          refine U_cv2 d_X1_fits_40 (hsame) rfl rfl rfl ?_
          refine V_eqB d_X1_fits_43 (fun q => (bTF rfl q).elim) (fun h43 => ?_)
          refine V_ki d_X1_fits_46 ?_
          refine V_goto d_X1_fits_47 ?_
          refine V_ic_eq d_X1_fits_51 (fun h51 => ?_) (fun q => absurd c2 q)
          refine V_icN3 d_X1_fits_56 rfl ?_
          refine V_goto d_X1_fits_59 ?_
          exact ih (n + 1) _ _ (by omega)
        · rw [decide_eq_false c2, Bool.false_and]
          refine V_il3 d_X1_fits_4 ?_
          refine V_al0 d_X1_fits_5 ?_
          refine V_getR d_X1_fits_6 rfl rfl (by decide) rfl ?_
          refine V_getIe d_X1_fits_9 rfl rfl (by decide) (hv.2.1) ?_
          refine U_ic_geN d_X1_fits_12 (by omega) (by omega) (fun q => absurd q (by omega)) (fun h12 => ?_)
          refine V_ldc d_X1_fits_15 ?_
          refine V_il2 d_X1_fits_17 ?_
          first | with_reducible refine V_imulN d_X1_fits_18 ?_ | refine V_imul d_X1_fits_18 ?_
          refine V_ki d_X1_fits_19 ?_
          first | with_reducible refine V_iaddN d_X1_fits_22 ?_ | refine V_iadd d_X1_fits_22 ?_
          refine V_is2 d_X1_fits_23 rfl ?_
          refine V_il2 d_X1_fits_24 ?_
          refine V_ki d_X1_fits_25 ?_
          refine V_iushr d_X1_fits_27 rfl ?_
          refine V_ki d_X1_fits_28 ?_
          refine V_irem d_X1_fits_29 (by decide) ?_
          refine V_is4 d_X1_fits_30 rfl ?_
          refine V_il4 d_X1_fits_32 ?_
          refine V_al0 d_X1_fits_34 ?_
          refine V_getR d_X1_fits_35 rfl rfl (by decide) rfl ?_
          refine V_ki d_X1_fits_38 ?_
          refine V_il3 d_X1_fits_39 ?_
          refine U_cv2 d_X1_fits_40 (hsame) rfl rfl rfl ?_
          refine V_eqB d_X1_fits_43 (fun q => (bTF rfl q).elim) (fun h43 => ?_)
          refine V_ki d_X1_fits_46 ?_
          refine V_goto d_X1_fits_47 ?_
          refine V_ic_eq d_X1_fits_51 (fun q => absurd q c2) (fun h51 => ?_)
          refine V_ki d_X1_fits_54 ?_
          exact V_zret d_X1_fits_55 rfl rfl (by first | rfl | simp_all) rfl
      · rw [decide_eq_false c1] at hsame
        rw [if_neg c1]
        by_cases c2 : lotX (nxS s1) = nI 1
        · rw [decide_eq_true c2, Bool.true_and]
          refine V_il3 d_X1_fits_4 ?_
          refine V_al0 d_X1_fits_5 ?_
          refine V_getR d_X1_fits_6 rfl rfl (by decide) rfl ?_
          refine V_getIe d_X1_fits_9 rfl rfl (by decide) (hv.2.1) ?_
          refine U_ic_geN d_X1_fits_12 (by omega) (by omega) (fun q => absurd q (by omega)) (fun h12 => ?_)
          refine V_ldc d_X1_fits_15 ?_
          refine V_il2 d_X1_fits_17 ?_
          first | with_reducible refine V_imulN d_X1_fits_18 ?_ | refine V_imul d_X1_fits_18 ?_
          refine V_ki d_X1_fits_19 ?_
          first | with_reducible refine V_iaddN d_X1_fits_22 ?_ | refine V_iadd d_X1_fits_22 ?_
          refine V_is2 d_X1_fits_23 rfl ?_
          refine V_il2 d_X1_fits_24 ?_
          refine V_ki d_X1_fits_25 ?_
          refine V_iushr d_X1_fits_27 rfl ?_
          refine V_ki d_X1_fits_28 ?_
          refine V_irem d_X1_fits_29 (by decide) ?_
          refine V_is4 d_X1_fits_30 rfl ?_
          refine V_il4 d_X1_fits_32 ?_
          refine V_al0 d_X1_fits_34 ?_
          refine V_getR d_X1_fits_35 rfl rfl (by decide) rfl ?_
          refine V_ki d_X1_fits_38 ?_
          refine V_il3 d_X1_fits_39 ?_
          refine U_cv2 d_X1_fits_40 (hsame) rfl rfl rfl ?_
          refine V_eqB d_X1_fits_43 (fun h43 => ?_) (fun q => (bTF q rfl).elim)
          refine V_ki d_X1_fits_50 ?_
          refine V_ic_eq d_X1_fits_51 (fun h51 => ?_) (fun q => absurd c2 q)
          refine V_icN3 d_X1_fits_56 rfl ?_
          refine V_goto d_X1_fits_59 ?_
          exact ih (n + 1) _ _ (by omega)
        · rw [decide_eq_false c2, Bool.false_and]
          refine V_il3 d_X1_fits_4 ?_
          refine V_al0 d_X1_fits_5 ?_
          refine V_getR d_X1_fits_6 rfl rfl (by decide) rfl ?_
          refine V_getIe d_X1_fits_9 rfl rfl (by decide) (hv.2.1) ?_
          refine U_ic_geN d_X1_fits_12 (by omega) (by omega) (fun q => absurd q (by omega)) (fun h12 => ?_)
          refine V_ldc d_X1_fits_15 ?_
          refine V_il2 d_X1_fits_17 ?_
          first | with_reducible refine V_imulN d_X1_fits_18 ?_ | refine V_imul d_X1_fits_18 ?_
          refine V_ki d_X1_fits_19 ?_
          first | with_reducible refine V_iaddN d_X1_fits_22 ?_ | refine V_iadd d_X1_fits_22 ?_
          refine V_is2 d_X1_fits_23 rfl ?_
          refine V_il2 d_X1_fits_24 ?_
          refine V_ki d_X1_fits_25 ?_
          refine V_iushr d_X1_fits_27 rfl ?_
          refine V_ki d_X1_fits_28 ?_
          refine V_irem d_X1_fits_29 (by decide) ?_
          refine V_is4 d_X1_fits_30 rfl ?_
          refine V_il4 d_X1_fits_32 ?_
          refine V_al0 d_X1_fits_34 ?_
          refine V_getR d_X1_fits_35 rfl rfl (by decide) rfl ?_
          refine V_ki d_X1_fits_38 ?_
          refine V_il3 d_X1_fits_39 ?_
          refine U_cv2 d_X1_fits_40 (hsame) rfl rfl rfl ?_
          refine V_eqB d_X1_fits_43 (fun h43 => ?_) (fun q => (bTF q rfl).elim)
          refine V_ki d_X1_fits_50 ?_
          refine V_ic_eq d_X1_fits_51 (fun q => absurd q c2) (fun h51 => ?_)
          refine V_ki d_X1_fits_54 ?_
          exact V_zret d_X1_fits_55 rfl rfl (by first | rfl | simp_all) rfl
  refine Rn_of hp_X1_fits [some (.ref (gB G + 15)), some (.int s), none, none, none] rfl (Nat.le_of_ble_eq_true rfl) (Nat.le_of_ble_eq_true rfl) ?_
  refine V_il1 d_X1_fits_0 ?_
  refine V_is2 d_X1_fits_1 rfl ?_
  refine V_ki d_X1_fits_2 ?_
  refine V_is3 d_X1_fits_3 rfl ?_
  exact loop N.length 0 s none (Nat.zero_add _)
set_option maxRecDepth 100000 in
theorem c_X1_fittingSeeds {G : Gm} {S : AS} {ft : Int32} {N : List (List Nat)} (hv : CNv S ft N) (hN : WFN N) : Rm G M_X1_fittingSeeds [.ref (gB G + 15)] S (some (.int (nI (sumN (fun s => if ftL N N.length 0 (nI s) = true then 1 else 0) 100)))) S := by
  have loop : ∀ d k, k + d = 100 → U G M_X1_fittingSeeds (Ze G (some (.int (nI (sumN (fun s => if ftL N N.length 0 (nI s) = true then 1 else 0) 100)))) S) 4 [some (.ref (gB G + 15)), some (.int (nI (sumN (fun s => if ftL N N.length 0 (nI s) = true then 1 else 0) k))), some (.int (nI k))] [] S := by
    intro d
    induction d with
    | zero =>
      intro k hk
      rw [Nat.add_zero] at hk
      subst hk
      refine V_il2 d_X1_fittingSeeds_4 ?_
      refine V_ki d_X1_fittingSeeds_5 ?_
      refine U_ic_geN d_X1_fittingSeeds_7 (by omega) (by omega) (fun h7 => ?_) (fun q => absurd q (by omega))
      refine V_il1 d_X1_fittingSeeds_32 ?_
      exact V_iret d_X1_fittingSeeds_33 rfl (by first | rfl | simp_all) rfl
    | succ d ih =>
      intro k hk
      have e9 : sumN (fun s => if ftL N N.length 0 (nI s) = true then 1 else 0) (k + 1) = sumN (fun s => if ftL N N.length 0 (nI s) = true then 1 else 0) k + (if ftL N N.length 0 (nI k) = true then 1 else 0) := rfl
      have ih' := ih (k + 1) (by omega)
      rw [e9] at ih'
      refine V_il2 d_X1_fittingSeeds_4 ?_
      refine V_ki d_X1_fittingSeeds_5 ?_
      refine U_ic_geN d_X1_fittingSeeds_7 (by omega) (by omega) (fun q => absurd q (by omega)) (fun h7 => ?_)
      refine V_il1 d_X1_fittingSeeds_10 ?_
      refine V_al0 d_X1_fittingSeeds_11 ?_
      refine V_il2 d_X1_fittingSeeds_12 ?_
      refine U_cv1 d_X1_fittingSeeds_13 (c_X1_fits hv hN) rfl rfl rfl ?_
      refine V_eqB d_X1_fittingSeeds_16 (fun h16 => ?_) (fun h16 => ?_)
      · rw [if_neg (by rw [h16]; decide)] at ih'
        refine V_ki d_X1_fittingSeeds_23 ?_
        first | with_reducible refine V_iaddN d_X1_fittingSeeds_24 ?_ | refine V_iadd d_X1_fittingSeeds_24 ?_
        refine V_is1 d_X1_fittingSeeds_25 rfl ?_
        refine V_icN2 d_X1_fittingSeeds_26 rfl ?_
        refine V_goto d_X1_fittingSeeds_29 ?_
        exact ih'
      · rw [if_pos h16] at ih'
        refine V_ki d_X1_fittingSeeds_19 ?_
        refine V_goto d_X1_fittingSeeds_20 ?_
        first | with_reducible refine V_iaddN d_X1_fittingSeeds_24 ?_ | refine V_iadd d_X1_fittingSeeds_24 ?_
        refine V_is1 d_X1_fittingSeeds_25 rfl ?_
        refine V_icN2 d_X1_fittingSeeds_26 rfl ?_
        refine V_goto d_X1_fittingSeeds_29 ?_
        exact ih'
  refine Rn_of hp_X1_fittingSeeds [some (.ref (gB G + 15)), none, none] rfl (Nat.le_of_ble_eq_true rfl) (Nat.le_of_ble_eq_true rfl) ?_
  refine V_ki d_X1_fittingSeeds_0 ?_
  refine V_is1 d_X1_fittingSeeds_1 rfl ?_
  refine V_ki d_X1_fittingSeeds_2 ?_
  refine V_is2 d_X1_fittingSeeds_3 rfl ?_
  exact loop 100 0 rfl
set_option maxRecDepth 100000 in
theorem c_X1_leastSeed {G : Gm} {S : AS} {ft : Int32} {N : List (List Nat)} (hv : CNv S ft N) (hN : WFN N) : Rm G M_X1_leastSeed [.ref (gB G + 15)] S (some (.int (oI (fstN (fun s => ftL N N.length 0 (nI s)) 100 0)))) S := by
  have loop : ∀ d k, k + d = 100 → U G M_X1_leastSeed (Ze G (some (.int (oI (fstN (fun s => ftL N N.length 0 (nI s)) d k)))) S) 2 [some (.ref (gB G + 15)), some (.int (nI k))] [] S := by
    intro d
    induction d with
    | zero =>
      intro k hk
      refine V_il1 d_X1_leastSeed_2 ?_
      refine V_ki d_X1_leastSeed_3 ?_
      refine U_ic_geN d_X1_leastSeed_5 (by omega) (by omega) (fun h5 => ?_) (fun q => absurd q (by omega))
      refine V_ki d_X1_leastSeed_24 ?_
      exact V_iret d_X1_leastSeed_25 rfl (by first | rfl | simp_all) rfl
    | succ d ih =>
      intro k hk
      refine V_il1 d_X1_leastSeed_2 ?_
      refine V_ki d_X1_leastSeed_3 ?_
      refine U_ic_geN d_X1_leastSeed_5 (by omega) (by omega) (fun q => absurd q (by omega)) (fun h5 => ?_)
      refine V_al0 d_X1_leastSeed_8 ?_
      refine V_il1 d_X1_leastSeed_9 ?_
      refine U_cv1 d_X1_leastSeed_10 (c_X1_fits hv hN) rfl rfl rfl ?_
      refine V_eqB d_X1_leastSeed_13 (fun h13 => ?_) (fun h13 => ?_)
      · rw [fstN, if_neg (by rw [h13]; decide)]
        refine V_icN1 d_X1_leastSeed_18 rfl ?_
        refine V_goto d_X1_leastSeed_21 ?_
        exact ih (k + 1) (by omega)
      · refine V_il1 d_X1_leastSeed_16 ?_
        exact V_iret d_X1_leastSeed_17 rfl (by rw [fstN, if_pos h13]; rfl) rfl
  refine Rn_of hp_X1_leastSeed [some (.ref (gB G + 15)), none] rfl (Nat.le_of_ble_eq_true rfl) (Nat.le_of_ble_eq_true rfl) ?_
  refine V_ki d_X1_leastSeed_0 ?_
  refine V_is1 d_X1_leastSeed_1 rfl ?_
  exact loop 100 0 rfl
