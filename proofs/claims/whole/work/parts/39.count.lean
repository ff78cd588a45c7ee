/-! counts -/
def wyS (wy : Nat → Nat) (a : Nat) (k : Nat) : Nat := sumN (fun b => if a < b then wy (a * 6 + b) else 0) k
theorem sumN_zero {g : Nat → Nat} : ∀ {k : Nat}, (∀ i, i < k → g i = 0) → sumN g k = 0
  | 0, _ => rfl
  | k + 1, h => by rw [sumN, sumN_zero (fun i hi => h i (by omega)), h k (by omega)]
set_option maxRecDepth 100000 in
theorem c_X3_allWorths {G : Gm} {S : AS} {w wy : Nat → Nat} {lk nd : Nat} (hH : HVc S w wy lk nd) : Rm G M_X3_allWorths [.ref (gB G + 1)] S (some (.int (nI (sumN w 6)))) S := by
  have loop : ∀ d i, i + d = 6 → U G M_X3_allWorths (Ze G (some (.int (nI (sumN w 6)))) S) 4 [some (.ref (gB G + 1)), some (.int (nI (sumN w i))), some (.int (nI i))] [] S := by
    intro d
    induction d with
    | zero =>
      intro i hi
      rw [Nat.add_zero] at hi
      subst hi
      refine V_il2 d_X3_allWorths_4 ?_
      refine V_ki d_X3_allWorths_5 ?_
      refine U_ic_geN d_X3_allWorths_7 (by omega) (by omega) (fun h7 => ?_) (fun q => absurd q (by omega))
      refine V_il1 d_X3_allWorths_24 ?_
      exact V_iret d_X3_allWorths_25 rfl (by first | rfl | simp_all) rfl
    | succ d ih =>
      intro i hi
      have hw := c_X3_worthOf (G := G) (S := S) (i := i) rfl (by omega)
      rw [hH.1 i (by omega)] at hw
      refine V_il2 d_X3_allWorths_4 ?_
      refine V_ki d_X3_allWorths_5 ?_
      refine U_ic_geN d_X3_allWorths_7 (by omega) (by omega) (fun q => absurd q (by omega)) (fun h7 => ?_)
      refine V_il1 d_X3_allWorths_10 ?_
      refine V_al0 d_X3_allWorths_11 ?_
      refine V_il2 d_X3_allWorths_12 ?_
      refine U_cv1 d_X3_allWorths_13 (hw) rfl rfl rfl ?_
      first | with_reducible refine V_iaddN d_X3_allWorths_16 ?_ | refine V_iadd d_X3_allWorths_16 ?_
      refine V_is1 d_X3_allWorths_17 rfl ?_
      refine V_icN2 d_X3_allWorths_18 rfl ?_
      refine V_goto d_X3_allWorths_21 ?_
      exact ih (i + 1) (by omega)
  refine Rn_of hp_X3_allWorths [some (.ref (gB G + 1)), none, none] rfl (Nat.le_of_ble_eq_true rfl) (Nat.le_of_ble_eq_true rfl) ?_
  refine V_ki d_X3_allWorths_0 ?_
  refine V_is1 d_X3_allWorths_1 rfl ?_
  refine V_ki d_X3_allWorths_2 ?_
  refine V_is2 d_X3_allWorths_3 rfl ?_
  exact loop 6 0 rfl
set_option maxRecDepth 100000 in
theorem c_X3_allWays {G : Gm} {S : AS} {w wy : Nat → Nat} {lk nd : Nat} (hH : HVc S w wy lk nd) : Rm G M_X3_allWays [.ref (gB G + 1)] S (some (.int (nI (sumN (fun a => wyS wy a 6) 6)))) S := by
  have inner : ∀ a, a < 6 → ∀ Z acc, ∀ d b, b + d = 6 → a < b → U G M_X3_allWays Z 35 [some (.ref (gB G + 1)), some (.int (nI (acc + wyS wy a 6))), some (.int (nI a)), some (.int (nI 6))] [] S → U G M_X3_allWays Z 14 [some (.ref (gB G + 1)), some (.int (nI (acc + wyS wy a b))), some (.int (nI a)), some (.int (nI b))] [] S := by
    intro a ha Z acc d
    induction d with
    | zero =>
      intro b hb hab kz
      rw [Nat.add_zero] at hb
      subst hb
      refine V_il3 d_X3_allWays_14 ?_
      refine V_ki d_X3_allWays_15 ?_
      refine U_ic_geN d_X3_allWays_17 (by omega) (by omega) (fun h17 => ?_) (fun q => absurd q (by omega))
      exact kz
    | succ d ih =>
      intro b hb hab kz
      have hw := c_X3_wayOf (G := G) (S := S) (a := a) (b := b) ha (by omega)
      rw [hH.2.1 _ (by omega)] at hw
      have e : wyS wy a (b + 1) = wyS wy a b + wy (a * 6 + b) := by
        show wyS wy a b + (if a < b then wy (a * 6 + b) else 0) = _
        rw [if_pos hab]
      have r1 := ih (b + 1) (by omega) (by omega) kz
      rw [e, ← Nat.add_assoc] at r1
      refine V_il3 d_X3_allWays_14 ?_
      refine V_ki d_X3_allWays_15 ?_
      refine U_ic_geN d_X3_allWays_17 (by omega) (by omega) (fun q => absurd q (by omega)) (fun h17 => ?_)
      refine V_il1 d_X3_allWays_20 ?_
      refine V_al0 d_X3_allWays_21 ?_
      refine V_il2 d_X3_allWays_22 ?_
      refine V_il3 d_X3_allWays_23 ?_
      refine U_cv2 d_X3_allWays_24 (hw) rfl rfl rfl ?_
      first | with_reducible refine V_iaddN d_X3_allWays_27 ?_ | refine V_iadd d_X3_allWays_27 ?_
      refine V_is1 d_X3_allWays_28 rfl ?_
      refine V_icN3 d_X3_allWays_29 rfl ?_
      refine V_goto d_X3_allWays_32 ?_
      exact r1
  have outer : ∀ (d a : Nat) (y : Option Value), a + d = 6 → U G M_X3_allWays (Ze G (some (.int (nI (sumN (fun a => wyS wy a 6) 6)))) S) 4 [some (.ref (gB G + 1)), some (.int (nI (sumN (fun a => wyS wy a 6) a))), some (.int (nI a)), y] [] S := by
    intro d
    induction d with
    | zero =>
      intro a y ha
      rw [Nat.add_zero] at ha
      subst ha
      refine V_il2 d_X3_allWays_4 ?_
      refine V_ki d_X3_allWays_5 ?_
      refine U_ic_geN d_X3_allWays_7 (by omega) (by omega) (fun h7 => ?_) (fun q => absurd q (by omega))
      refine V_il1 d_X3_allWays_41 ?_
      exact V_iret d_X3_allWays_42 rfl (by first | rfl | simp_all) rfl
    | succ d ih =>
      intro a y ha
      have z : wyS wy a (a + 1) = 0 := sumN_zero (fun i hi => if_neg (by omega))
      have r1 := inner a (by omega) (Ze G (some (.int (nI (sumN (fun a => wyS wy a 6) 6)))) S) (sumN (fun a => wyS wy a 6) a) (6 - (a + 1)) (a + 1) (by omega) (by omega)
      rw [z, Nat.add_zero] at r1
      refine V_il2 d_X3_allWays_4 ?_
      refine V_ki d_X3_allWays_5 ?_
      refine U_ic_geN d_X3_allWays_7 (by omega) (by omega) (fun q => absurd q (by omega)) (fun h7 => ?_)
      refine V_il2 d_X3_allWays_10 ?_
      refine V_ki d_X3_allWays_11 ?_
      first | with_reducible refine V_iaddN d_X3_allWays_12 ?_ | refine V_iadd d_X3_allWays_12 ?_
      refine V_is3 d_X3_allWays_13 rfl ?_
      refine r1 ?_
      refine V_icN2 d_X3_allWays_35 rfl ?_
      refine V_goto d_X3_allWays_38 ?_
      exact ih (a + 1) _ (by omega)
  refine Rn_of hp_X3_allWays [some (.ref (gB G + 1)), none, none, none] rfl (Nat.le_of_ble_eq_true rfl) (Nat.le_of_ble_eq_true rfl) ?_
  refine V_ki d_X3_allWays_0 ?_
  refine V_is1 d_X3_allWays_1 rfl ?_
  refine V_ki d_X3_allWays_2 ?_
  refine V_is2 d_X3_allWays_3 rfl ?_
  exact outer 6 0 none rfl
def smA (w : Nat → Nat) (f : Nat → Nat → Nat) (j a : Nat) : Nat := if j = 4 ∧ a < 6 then w a else if j = 7 then sumN (f a) 6 else 0
def smB (wy : Nat → Nat) (f : Nat → Nat → Nat) (j a b : Nat) : Nat := if j = 5 ∧ a < b then wy (6 * a + b) else if j = 6 then (if 0 < f a b then 1 else 0) else 0
def smF (w wy : Nat → Nat) (f : Nat → Nat → Nat) (j k : Nat) : Nat := sumN (fun a => smA w f j a + sumN (smB wy f j a) 6) k
set_option maxRecDepth 100000 in
theorem c_X9_sumOf {G : Gm} {S : AS} {b : Nat → Nat} {sz : Nat} {ft : Int32} {N : List (List Nat)} {w wy : Nat → Nat} {lk nd : Nat} {j : Nat} (hmt : MTv S b sz) (hhm : HVm S w wy lk nd) (hx : TXT b sz ft N) (hj : j < 8) : ∃ SE, Rm G M_X9_sumOf [.ref (gB G + 22), .int (nI j)] S (some (.int (nI (if j = 0 then N.length else smF w wy (stN N N.length) j 7)))) SE ∧ MNv SE N ∧ Ag PM S SE := by
  obtain ⟨S1, m1, m2, m3⟩ := c_X9_faultNow (G := G) hmt hx
  have hhm1 := hhm.ag m3 (fun _ => rfl) (fun _ => rfl) rfl rfl
  have hN := PR_wf hx.2.2
  have hN8 := hN.1
  have hf : ∀ a b, stN N N.length a b ≤ 48 := fun a b => stN_48 hN a b _ (Nat.le_refl _)
  have hgo := fun a b (ha : a < 7) (hb : b < 6) => c_X9_goneIn (G := G) (k := N.length) (a := a) (b := b) m2 hN (Nat.le_refl _) ha hb
  have hga := fun a (ha : a < 7) => c_X9_goneIn_all (G := G) (k := N.length) (a := a) m2 hN (Nat.le_refl _) ha
  generalize stN N N.length = f at hf hgo hga ⊢
  refine ⟨S1, ?_, m2, m3⟩
  have inner : ∀ (a : Nat), a < 7 → ∀ (Z : ZT) (acc d b : Nat), b + d = 6 → U G M_X9_sumOf Z 136 [some (.ref (gB G + 22)), some (.int (nI j)), some (.int ft), some (.int (nI (acc + sumN (smB wy f j a) 6))), some (.int (nI a)), some (.int (nI 6))] [] S1 → U G M_X9_sumOf Z 66 [some (.ref (gB G + 22)), some (.int (nI j)), some (.int ft), some (.int (nI (acc + sumN (smB wy f j a) b))), some (.int (nI a)), some (.int (nI b))] [] S1 := by
    intro a ha Z acc d
    induction d with
    | zero =>
      intro b hb kz
      rw [Nat.add_zero] at hb
      subst hb
      refine V_il5 d_X9_sumOf_66 ?_
      refine V_ki d_X9_sumOf_68 ?_
      refine U_ic_geN d_X9_sumOf_70 (by omega) (by omega) (fun h70 => ?_) (fun q => absurd q (by omega))
      exact kz
    | succ d ih =>
      intro b hb kz
      have r1 := ih (b + 1) (by omega) kz
      rw [sumN, ← Nat.add_assoc] at r1
      have hfb := hf a b
      by_cases k5 : j = 5 ∧ a < b
      · rw [show smB wy f j a b = wy (6 * a + b) by rw [smB, if_pos k5]] at r1
        obtain ⟨k5a, k5b⟩ := k5
        have hw := hhm1.2.1 (6 * a + b) (by omega)
        refine V_il5 d_X9_sumOf_66 ?_
        refine V_ki d_X9_sumOf_68 ?_
        refine U_ic_geN d_X9_sumOf_70 (by omega) (by omega) (fun q => absurd q (by omega)) (fun h70 => ?_)
        refine V_il3 d_X9_sumOf_73 ?_
        refine V_il1 d_X9_sumOf_74 ?_
        refine V_ki d_X9_sumOf_75 ?_
        refine U_ic_neN d_X9_sumOf_76 (by omega) (by omega) (fun q => absurd k5a q) (fun h76 => ?_)
        refine V_il4 d_X9_sumOf_79 ?_
        refine V_il5 d_X9_sumOf_81 ?_
        refine U_ic_geN d_X9_sumOf_83 (by omega) (by omega) (fun q => absurd q (by omega)) (fun h83 => ?_)
        refine V_al0 d_X9_sumOf_86 ?_
        refine V_getR d_X9_sumOf_87 rfl rfl (by decide) rfl ?_
        refine V_ki d_X9_sumOf_90 ?_
        refine V_il4 d_X9_sumOf_92 ?_
        first | with_reducible refine V_imulN d_X9_sumOf_94 ?_ | refine V_imul d_X9_sumOf_94 ?_
        refine V_il5 d_X9_sumOf_95 ?_
        first | with_reducible refine V_iaddN d_X9_sumOf_97 ?_ | refine V_iadd d_X9_sumOf_97 ?_
        refine V_ialdE d_X9_sumOf_98 rfl (by decide) rfl (show 6 * a + b < 36 by omega) hw ?_
        refine V_goto d_X9_sumOf_99 ?_
        first | with_reducible refine V_iaddN d_X9_sumOf_128 ?_ | refine V_iadd d_X9_sumOf_128 ?_
        refine V_is3 d_X9_sumOf_129 rfl ?_
        refine V_icN5 d_X9_sumOf_130 rfl ?_
        refine V_goto d_X9_sumOf_133 ?_
        exact r1
      · by_cases k6 : j = 6
        · rw [show smB wy f j a b = (if 0 < f a b then 1 else 0) by rw [smB, if_neg k5, if_pos k6]] at r1
          refine V_il5 d_X9_sumOf_66 ?_
          refine V_ki d_X9_sumOf_68 ?_
          refine U_ic_geN d_X9_sumOf_70 (by omega) (by omega) (fun q => absurd q (by omega)) (fun h70 => ?_)
          refine V_il3 d_X9_sumOf_73 ?_
          refine V_il1 d_X9_sumOf_74 ?_
          refine V_ki d_X9_sumOf_75 ?_
          refine U_ic_neN d_X9_sumOf_76 (by omega) (by omega) (fun h76 => ?_) (fun q => absurd q (by omega))
          refine V_il1 d_X9_sumOf_102 ?_
          refine V_ki d_X9_sumOf_103 ?_
          refine U_ic_neN d_X9_sumOf_105 (by omega) (by omega) (fun q => absurd k6 q) (fun h105 => ?_)
          refine V_al0 d_X9_sumOf_108 ?_
          refine V_al0 d_X9_sumOf_109 ?_
          refine V_getIe d_X9_sumOf_110 rfl rfl (by decide) (m2.1) ?_
          refine V_il4 d_X9_sumOf_113 ?_
          refine V_il5 d_X9_sumOf_115 ?_
          refine U_cv3 d_X9_sumOf_117 (hgo a b ha (by omega)) rfl rfl rfl ?_
          refine U_if_leN d_X9_sumOf_120 (by omega) (fun h120 => ?_) (fun h120 => ?_)
          · rw [if_neg (by omega)] at r1
            refine V_ki d_X9_sumOf_127 ?_
            first | with_reducible refine V_iaddN d_X9_sumOf_128 ?_ | refine V_iadd d_X9_sumOf_128 ?_
            refine V_is3 d_X9_sumOf_129 rfl ?_
            refine V_icN5 d_X9_sumOf_130 rfl ?_
            refine V_goto d_X9_sumOf_133 ?_
            exact r1
          · rw [if_pos (by omega)] at r1
            refine V_ki d_X9_sumOf_123 ?_
            refine V_goto d_X9_sumOf_124 ?_
            first | with_reducible refine V_iaddN d_X9_sumOf_128 ?_ | refine V_iadd d_X9_sumOf_128 ?_
            refine V_is3 d_X9_sumOf_129 rfl ?_
            refine V_icN5 d_X9_sumOf_130 rfl ?_
            refine V_goto d_X9_sumOf_133 ?_
            exact r1
        · rw [show smB wy f j a b = 0 by rw [smB, if_neg k5, if_neg k6]] at r1
          by_cases k7 : j = 5
          · refine V_il5 d_X9_sumOf_66 ?_
            refine V_ki d_X9_sumOf_68 ?_
            refine U_ic_geN d_X9_sumOf_70 (by omega) (by omega) (fun q => absurd q (by omega)) (fun h70 => ?_)
            refine V_il3 d_X9_sumOf_73 ?_
            refine V_il1 d_X9_sumOf_74 ?_
            refine V_ki d_X9_sumOf_75 ?_
            refine U_ic_neN d_X9_sumOf_76 (by omega) (by omega) (fun q => absurd k7 q) (fun h76 => ?_)
            refine V_il4 d_X9_sumOf_79 ?_
            refine V_il5 d_X9_sumOf_81 ?_
            refine U_ic_geN d_X9_sumOf_83 (by omega) (by omega) (fun h83 => ?_) (fun q => absurd q (by omega))
            refine V_il1 d_X9_sumOf_102 ?_
            refine V_ki d_X9_sumOf_103 ?_
            refine U_ic_neN d_X9_sumOf_105 (by omega) (by omega) (fun h105 => ?_) (fun q => absurd q k6)
            refine V_ki d_X9_sumOf_127 ?_
            first | with_reducible refine V_iaddN d_X9_sumOf_128 ?_ | refine V_iadd d_X9_sumOf_128 ?_
            refine V_is3 d_X9_sumOf_129 rfl ?_
            refine V_icN5 d_X9_sumOf_130 rfl ?_
            refine V_goto d_X9_sumOf_133 ?_
            exact r1
          · refine V_il5 d_X9_sumOf_66 ?_
            refine V_ki d_X9_sumOf_68 ?_
            refine U_ic_geN d_X9_sumOf_70 (by omega) (by omega) (fun q => absurd q (by omega)) (fun h70 => ?_)
            refine V_il3 d_X9_sumOf_73 ?_
            refine V_il1 d_X9_sumOf_74 ?_
            refine V_ki d_X9_sumOf_75 ?_
            refine U_ic_neN d_X9_sumOf_76 (by omega) (by omega) (fun h76 => ?_) (fun q => absurd q k7)
            refine V_il1 d_X9_sumOf_102 ?_
            refine V_ki d_X9_sumOf_103 ?_
            refine U_ic_neN d_X9_sumOf_105 (by omega) (by omega) (fun h105 => ?_) (fun q => absurd q k6)
            refine V_ki d_X9_sumOf_127 ?_
            first | with_reducible refine V_iaddN d_X9_sumOf_128 ?_ | refine V_iadd d_X9_sumOf_128 ?_
            refine V_is3 d_X9_sumOf_129 rfl ?_
            refine V_icN5 d_X9_sumOf_130 rfl ?_
            refine V_goto d_X9_sumOf_133 ?_
            exact r1
  have outer : ∀ (d a : Nat) (y5 : Option Value), a + d = 7 → U G M_X9_sumOf (Ze G (some (.int (nI (if j = 0 then N.length else smF w wy f j 7)))) S1) 10 [some (.ref (gB G + 22)), some (.int (nI j)), some (.int ft), some (.int (nI (smF w wy f j a))), some (.int (nI a)), y5] [] S1 := by
    intro d
    induction d with
    | zero =>
      intro a y5 ha
      rw [Nat.add_zero] at ha
      subst ha
      refine V_il4 d_X9_sumOf_10 ?_
      refine V_ki d_X9_sumOf_12 ?_
      refine U_ic_geN d_X9_sumOf_14 (by omega) (by omega) (fun h14 => ?_) (fun q => absurd q (by omega))
      refine V_il1 d_X9_sumOf_142 ?_
      refine U_if_neN d_X9_sumOf_143 (by omega) (fun h143 => ?_) (fun h143 => ?_)
      · refine V_il3 d_X9_sumOf_153 ?_
        exact V_iret d_X9_sumOf_154 rfl (by first | rw [if_pos h143] | rw [if_neg h143]) rfl
      · refine V_al0 d_X9_sumOf_146 ?_
        refine V_getIe d_X9_sumOf_147 rfl rfl (by decide) (m2.1) ?_
        refine V_goto d_X9_sumOf_150 ?_
        exact V_iret d_X9_sumOf_154 rfl (by first | rw [if_pos h143] | rw [if_neg h143]) rfl
    | succ d ih =>
      intro a y5 ha
      have es : smF w wy f j (a + 1) = smF w wy f j a + (smA w f j a + sumN (smB wy f j a) 6) := rfl
      have r0 := ih (a + 1) (some (.int (nI 6))) (by omega)
      rw [es, ← Nat.add_assoc] at r0
      have r1 := inner a (by omega) (Ze G (some (.int (nI (if j = 0 then N.length else smF w wy f j 7)))) S1) (smF w wy f j a + smA w f j a) 6 0 rfl
      rw [show sumN (smB wy f j a) 0 = 0 by rfl, Nat.add_zero] at r1
      have fin : U G M_X9_sumOf (Ze G (some (.int (nI (if j = 0 then N.length else smF w wy f j 7)))) S1) 66 [some (.ref (gB G + 22)), some (.int (nI j)), some (.int ft), some (.int (nI (smF w wy f j a + smA w f j a))), some (.int (nI a)), some (.int (nI 0))] [] S1 := by
        refine r1 ?_
        refine V_icN4 d_X9_sumOf_136 rfl ?_
        refine V_goto d_X9_sumOf_139 ?_
        exact r0
      by_cases k4 : j = 4 ∧ a < 6
      · rw [show smA w f j a = w a by rw [smA, if_pos k4]] at fin
        obtain ⟨k4a, k4b⟩ := k4
        have hw := hhm1.1 a k4b
        refine V_il4 d_X9_sumOf_10 ?_
        refine V_ki d_X9_sumOf_12 ?_
        refine U_ic_geN d_X9_sumOf_14 (by omega) (by omega) (fun q => absurd q (by omega)) (fun h14 => ?_)
        refine V_il3 d_X9_sumOf_17 ?_
        refine V_il1 d_X9_sumOf_18 ?_
        refine V_ki d_X9_sumOf_19 ?_
        refine U_ic_neN d_X9_sumOf_20 (by omega) (by omega) (fun q => absurd k4a q) (fun h20 => ?_)
        refine V_il4 d_X9_sumOf_23 ?_
        refine V_ki d_X9_sumOf_25 ?_
        refine U_ic_geN d_X9_sumOf_27 (by omega) (by omega) (fun q => absurd q (by omega)) (fun h27 => ?_)
        refine V_al0 d_X9_sumOf_30 ?_
        refine V_getR d_X9_sumOf_31 rfl rfl (by decide) rfl ?_
        refine V_il4 d_X9_sumOf_34 ?_
        refine V_ialdE d_X9_sumOf_36 rfl (by decide) rfl (show a < 6 by omega) hw ?_
        refine V_goto d_X9_sumOf_37 ?_
        first | with_reducible refine V_iaddN d_X9_sumOf_61 ?_ | refine V_iadd d_X9_sumOf_61 ?_
        refine V_is3 d_X9_sumOf_62 rfl ?_
        refine V_ki d_X9_sumOf_63 ?_
        refine V_is5 d_X9_sumOf_64 rfl ?_
        exact fin
      · by_cases k7 : j = 7
        · rw [show smA w f j a = sumN (f a) 6 by rw [smA, if_neg k4, if_pos k7]] at fin
          refine V_il4 d_X9_sumOf_10 ?_
          refine V_ki d_X9_sumOf_12 ?_
          refine U_ic_geN d_X9_sumOf_14 (by omega) (by omega) (fun q => absurd q (by omega)) (fun h14 => ?_)
          refine V_il3 d_X9_sumOf_17 ?_
          refine V_il1 d_X9_sumOf_18 ?_
          refine V_ki d_X9_sumOf_19 ?_
          refine U_ic_neN d_X9_sumOf_20 (by omega) (by omega) (fun h20 => ?_) (fun q => absurd q (by omega))
          refine V_il1 d_X9_sumOf_40 ?_
          refine V_ki d_X9_sumOf_41 ?_
          refine U_ic_neN d_X9_sumOf_43 (by omega) (by omega) (fun q => absurd k7 q) (fun h43 => ?_)
          refine V_al0 d_X9_sumOf_46 ?_
          refine V_al0 d_X9_sumOf_47 ?_
          refine V_getIe d_X9_sumOf_48 rfl rfl (by decide) (m2.1) ?_
          refine V_il4 d_X9_sumOf_51 ?_
          refine V_ki d_X9_sumOf_53 ?_
          refine U_cv3 d_X9_sumOf_54 (hga a (by omega)) rfl rfl rfl ?_
          refine V_goto d_X9_sumOf_57 ?_
          first | with_reducible refine V_iaddN d_X9_sumOf_61 ?_ | refine V_iadd d_X9_sumOf_61 ?_
          refine V_is3 d_X9_sumOf_62 rfl ?_
          refine V_ki d_X9_sumOf_63 ?_
          refine V_is5 d_X9_sumOf_64 rfl ?_
          exact fin
        · rw [show smA w f j a = 0 by rw [smA, if_neg k4, if_neg k7]] at fin
          by_cases k8 : j = 4
          · refine V_il4 d_X9_sumOf_10 ?_
            refine V_ki d_X9_sumOf_12 ?_
            refine U_ic_geN d_X9_sumOf_14 (by omega) (by omega) (fun q => absurd q (by omega)) (fun h14 => ?_)
            refine V_il3 d_X9_sumOf_17 ?_
            refine V_il1 d_X9_sumOf_18 ?_
            refine V_ki d_X9_sumOf_19 ?_
            refine U_ic_neN d_X9_sumOf_20 (by omega) (by omega) (fun q => absurd k8 q) (fun h20 => ?_)
            refine V_il4 d_X9_sumOf_23 ?_
            refine V_ki d_X9_sumOf_25 ?_
            refine U_ic_geN d_X9_sumOf_27 (by omega) (by omega) (fun h27 => ?_) (fun q => absurd q (by omega))
            refine V_il1 d_X9_sumOf_40 ?_
            refine V_ki d_X9_sumOf_41 ?_
            refine U_ic_neN d_X9_sumOf_43 (by omega) (by omega) (fun h43 => ?_) (fun q => absurd q k7)
            refine V_ki d_X9_sumOf_60 ?_
            first | with_reducible refine V_iaddN d_X9_sumOf_61 ?_ | refine V_iadd d_X9_sumOf_61 ?_
            refine V_is3 d_X9_sumOf_62 rfl ?_
            refine V_ki d_X9_sumOf_63 ?_
            refine V_is5 d_X9_sumOf_64 rfl ?_
            exact fin
          · refine V_il4 d_X9_sumOf_10 ?_
            refine V_ki d_X9_sumOf_12 ?_
            refine U_ic_geN d_X9_sumOf_14 (by omega) (by omega) (fun q => absurd q (by omega)) (fun h14 => ?_)
            refine V_il3 d_X9_sumOf_17 ?_
            refine V_il1 d_X9_sumOf_18 ?_
            refine V_ki d_X9_sumOf_19 ?_
            refine U_ic_neN d_X9_sumOf_20 (by omega) (by omega) (fun h20 => ?_) (fun q => absurd q k8)
            refine V_il1 d_X9_sumOf_40 ?_
            refine V_ki d_X9_sumOf_41 ?_
            refine U_ic_neN d_X9_sumOf_43 (by omega) (by omega) (fun h43 => ?_) (fun q => absurd q k7)
            refine V_ki d_X9_sumOf_60 ?_
            first | with_reducible refine V_iaddN d_X9_sumOf_61 ?_ | refine V_iadd d_X9_sumOf_61 ?_
            refine V_is3 d_X9_sumOf_62 rfl ?_
            refine V_ki d_X9_sumOf_63 ?_
            refine V_is5 d_X9_sumOf_64 rfl ?_
            exact fin
  refine Rn_of hp_X9_sumOf [some (.ref (gB G + 22)), some (.int (nI j)), none, none, none, none] rfl (Nat.le_of_ble_eq_true rfl) (Nat.le_of_ble_eq_true rfl) ?_
  refine V_al0 d_X9_sumOf_0 ?_
  refine U_cv0 d_X9_sumOf_1 (m1) rfl rfl rfl ?_
  refine V_is2 d_X9_sumOf_4 rfl ?_
  refine V_ki d_X9_sumOf_5 ?_
  refine V_is3 d_X9_sumOf_6 rfl ?_
  refine V_ki d_X9_sumOf_7 ?_
  refine V_is4 d_X9_sumOf_8 rfl ?_
  exact outer 7 0 none rfl
theorem sm_4 (w wy : Nat → Nat) (f : Nat → Nat → Nat) : smF w wy f 4 7 = sumN w 6 := by
  have e : ∀ a, sumN (smB wy f 4 a) 6 = 0 := fun a => sumN_zero (fun i _ => by simp [smB])
  unfold smF
  simp only [e]
  simp [sumN, smA]
theorem sm_5 (w wy : Nat → Nat) (f : Nat → Nat → Nat) : smF w wy f 5 7 = sumN (fun a => wyS wy a 6) 6 := by
  have e : ∀ a, smA w f 5 a = 0 := fun a => by simp [smA]
  have e2 : ∀ a, sumN (smB wy f 5 a) 6 = wyS wy a 6 := fun a => sumN_congr (fun i _ => by simp [smB, Nat.mul_comm])
  have e3 : wyS wy 6 6 = 0 := sumN_zero (fun i hi => if_neg (by omega))
  unfold smF
  simp only [e, e2, Nat.zero_add]
  rw [sumN, e3, Nat.add_zero]
theorem sm_6 (w wy : Nat → Nat) (f : Nat → Nat → Nat) : smF w wy f 6 7 = sumN (fun x => if 0 < f (x / 6) (x % 6) then 1 else 0) 42 := by
  have e : ∀ a, smA w f 6 a = 0 := fun a => by simp [smA]
  unfold smF
  simp only [e, Nat.zero_add]
  rw [show (42 : Nat) = 7 * 6 by rfl, sumN_mul]
  refine sumN_congr (fun s _ => sumN_congr (fun r hr => ?_))
  rw [show (s * 6 + r) / 6 = s by omega, show (s * 6 + r) % 6 = r by omega]
  simp [smB]
theorem sm_7 (w wy : Nat → Nat) (f : Nat → Nat → Nat) : smF w wy f 7 7 = sumN (fun x => f (x / 6) (x % 6)) 42 := by
  have e : ∀ a, sumN (smB wy f 7 a) 6 = 0 := fun a => sumN_zero (fun i _ => by simp [smB])
  unfold smF
  simp only [e, Nat.add_zero]
  rw [show (42 : Nat) = 7 * 6 by rfl, sumN_mul]
  refine sumN_congr (fun s _ => ?_)
  rw [show smA w f 7 s = sumN (f s) 6 by simp [smA]]
  refine sumN_congr (fun r hr => ?_)
  rw [show (s * 6 + r) / 6 = s by omega, show (s * 6 + r) % 6 = r by omega]
def cvF (N : List (List Nat)) (w wy : Nat → Nat) (sz lk nd j : Nat) : Nat := if j = 0 then N.length else if j = 1 then sz else if j = 2 then lk else if j = 3 then nd else if j = 4 then sumN w 6 else if j = 5 then sumN (fun a => wyS wy a 6) 6 else if j = 6 then sumN (fun x => if 0 < stN N N.length (x / 6) (x % 6) then 1 else 0) 42 else sumN (fun x => stN N N.length (x / 6) (x % 6)) 42
set_option maxRecDepth 100000 in
theorem g8_count {G : Gm} {b : Nat → Nat} {sz : Nat} {ft : Int32} {N : List (List Nat)} {w wy : Nat → Nat} {lk nd : Nat} {j : Nat} (hx : TXT b sz ft N) (hB : HB w wy lk nd) (hj : j < 8) : EX G M_X8_count [.ref (gB G + 0), .int (nI j)] (some (.int (nI (cvF N w wy sz lk nd j)))) b sz ft N w wy lk nd := by
  intro S h
  obtain ⟨⟨hsz, hbs⟩, hcn, hmt, hhc, hhm, hsh, hfd⟩ := h
  have hN := PR_wf hx.2.2
  have hN8 := hN.1
  obtain ⟨l1, l2⟩ := hB.2.2.1
  obtain ⟨n1, n2⟩ := hB.2.2.2
  rcases (show j = 0 ∨ j = 1 ∨ j = 2 ∨ j = 3 ∨ j = 4 ∨ j = 5 ∨ j = 6 ∨ j = 7 by omega) with rfl | rfl | rfl | rfl | rfl | rfl | rfl | rfl
  · skip
    refine ⟨S, ?_, Ag.rf⟩
    refine Rn_of hp_X8_count [some (.ref (gB G + 0)), some (.int (nI 0))] rfl (Nat.le_of_ble_eq_true rfl) (Nat.le_of_ble_eq_true rfl) ?_
    refine V_il1 d_X8_count_0 ?_
    refine V_tabI (off := 51) (tgt := 52) d_X8_count_1 (by decide) (by decide) (by decide) (by decide) ?_
    refine V_al0 d_X8_count_52 ?_
    refine V_getR d_X8_count_53 rfl rfl (by decide) rfl ?_
    refine V_getIe d_X8_count_56 rfl rfl (by decide) (hcn.2.1) ?_
    exact V_iret d_X8_count_59 rfl (by first | rfl | simp_all) rfl
  · skip
    refine ⟨S, ?_, Ag.rf⟩
    refine Rn_of hp_X8_count [some (.ref (gB G + 0)), some (.int (nI 1))] rfl (Nat.le_of_ble_eq_true rfl) (Nat.le_of_ble_eq_true rfl) ?_
    refine V_il1 d_X8_count_0 ?_
    refine V_tabI (off := 59) (tgt := 60) d_X8_count_1 (by decide) (by decide) (by decide) (by decide) ?_
    refine V_al0 d_X8_count_60 ?_
    refine V_getR d_X8_count_61 rfl rfl (by decide) rfl ?_
    refine V_getIe d_X8_count_64 rfl rfl (by decide) (hsz) ?_
    exact V_iret d_X8_count_67 rfl (by first | rfl | simp_all) rfl
  · skip
    refine ⟨S, ?_, Ag.rf⟩
    refine Rn_of hp_X8_count [some (.ref (gB G + 0)), some (.int (nI 2))] rfl (Nat.le_of_ble_eq_true rfl) (Nat.le_of_ble_eq_true rfl) ?_
    refine V_il1 d_X8_count_0 ?_
    refine V_tabI (off := 67) (tgt := 68) d_X8_count_1 (by decide) (by decide) (by decide) (by decide) ?_
    refine V_al0 d_X8_count_68 ?_
    refine V_getR d_X8_count_69 rfl rfl (by decide) rfl ?_
    refine V_getIe d_X8_count_72 rfl rfl (by decide) (hhc.2.2.1) ?_
    exact V_iret d_X8_count_75 rfl (by first | rfl | simp_all) rfl
  · skip
    refine ⟨S, ?_, Ag.rf⟩
    refine Rn_of hp_X8_count [some (.ref (gB G + 0)), some (.int (nI 3))] rfl (Nat.le_of_ble_eq_true rfl) (Nat.le_of_ble_eq_true rfl) ?_
    refine V_il1 d_X8_count_0 ?_
    refine V_tabI (off := 75) (tgt := 76) d_X8_count_1 (by decide) (by decide) (by decide) (by decide) ?_
    refine V_al0 d_X8_count_76 ?_
    refine V_getR d_X8_count_77 rfl rfl (by decide) rfl ?_
    refine V_getIe d_X8_count_80 rfl rfl (by decide) (hhc.2.2.2) ?_
    exact V_iret d_X8_count_83 rfl (by first | rfl | simp_all) rfl
  · skip
    refine ⟨S, ?_, Ag.rf⟩
    refine Rn_of hp_X8_count [some (.ref (gB G + 0)), some (.int (nI 4))] rfl (Nat.le_of_ble_eq_true rfl) (Nat.le_of_ble_eq_true rfl) ?_
    refine V_il1 d_X8_count_0 ?_
    refine V_tabI (off := 83) (tgt := 84) d_X8_count_1 (by decide) (by decide) (by decide) (by decide) ?_
    refine V_al0 d_X8_count_84 ?_
    refine V_getR d_X8_count_85 rfl rfl (by decide) rfl ?_
    refine U_cv0 d_X8_count_88 (c_X3_allWorths hhc) rfl rfl rfl ?_
    exact V_iret d_X8_count_91 rfl (by first | rfl | simp_all) rfl
  · skip
    refine ⟨S, ?_, Ag.rf⟩
    refine Rn_of hp_X8_count [some (.ref (gB G + 0)), some (.int (nI 5))] rfl (Nat.le_of_ble_eq_true rfl) (Nat.le_of_ble_eq_true rfl) ?_
    refine V_il1 d_X8_count_0 ?_
    refine V_tabI (off := 91) (tgt := 92) d_X8_count_1 (by decide) (by decide) (by decide) (by decide) ?_
    refine V_al0 d_X8_count_92 ?_
    refine V_getR d_X8_count_93 rfl rfl (by decide) rfl ?_
    refine U_cv0 d_X8_count_96 (c_X3_allWays hhc) rfl rfl rfl ?_
    exact V_iret d_X8_count_99 rfl (by first | rfl | simp_all) rfl
  · skip
    obtain ⟨S1, r1, r2⟩ := c_X0_unlikeSteps (G := G) hcn hN
    refine ⟨S1, ?_, PQ_10 r2⟩
    refine Rn_of hp_X8_count [some (.ref (gB G + 0)), some (.int (nI 6))] rfl (Nat.le_of_ble_eq_true rfl) (Nat.le_of_ble_eq_true rfl) ?_
    refine V_il1 d_X8_count_0 ?_
    refine V_tabI (off := 99) (tgt := 100) d_X8_count_1 (by decide) (by decide) (by decide) (by decide) ?_
    refine V_al0 d_X8_count_100 ?_
    refine V_getR d_X8_count_101 rfl rfl (by decide) rfl ?_
    refine U_cv0 d_X8_count_104 (r1) rfl rfl rfl ?_
    exact V_iret d_X8_count_107 rfl (by first | rfl | simp_all) rfl
  · skip
    obtain ⟨S1, r1, r2⟩ := c_X0_allSteps (G := G) hcn hN
    refine ⟨S1, ?_, PQ_10 r2⟩
    refine Rn_of hp_X8_count [some (.ref (gB G + 0)), some (.int (nI 7))] rfl (Nat.le_of_ble_eq_true rfl) (Nat.le_of_ble_eq_true rfl) ?_
    refine V_il1 d_X8_count_0 ?_
    refine V_tabI (off := 107) (tgt := 108) d_X8_count_1 (by decide) (by decide) (by decide) (by decide) ?_
    refine V_al0 d_X8_count_108 ?_
    refine V_getR d_X8_count_109 rfl rfl (by decide) rfl ?_
    refine U_cv0 d_X8_count_112 (r1) rfl rfl rfl ?_
    exact V_iret d_X8_count_115 rfl (by first | rfl | simp_all) rfl
set_option maxRecDepth 100000 in
theorem g9_count {G : Gm} {b : Nat → Nat} {sz : Nat} {ft : Int32} {N : List (List Nat)} {w wy : Nat → Nat} {lk nd : Nat} {j : Nat} (hx : TXT b sz ft N) (hB : HB w wy lk nd) (hj : j < 8) : EX G M_X9_count [.ref (gB G + 22), .int (nI j)] (some (.int (nI (cvF N w wy sz lk nd j)))) b sz ft N w wy lk nd := by
  intro S h
  obtain ⟨⟨hsz, hbs⟩, hcn, hmt, hhc, hhm, hsh, hfd⟩ := h
  have hN := PR_wf hx.2.2
  have hN8 := hN.1
  obtain ⟨l1, l2⟩ := hB.2.2.1
  obtain ⟨n1, n2⟩ := hB.2.2.2
  rcases (show j = 0 ∨ j = 1 ∨ j = 2 ∨ j = 3 ∨ j = 4 ∨ j = 5 ∨ j = 6 ∨ j = 7 by omega) with rfl | rfl | rfl | rfl | rfl | rfl | rfl | rfl
  · obtain ⟨S1, m1, m2, m3⟩ := c_X9_sumOf (G := G) (j := 0) hmt hhm hx (by decide)
    rw [if_pos rfl] at m1
    refine ⟨S1, ?_, PQ_M m3⟩
    refine Rn_of hp_X9_count [some (.ref (gB G + 22)), some (.int (nI 0))] rfl (Nat.le_of_ble_eq_true rfl) (Nat.le_of_ble_eq_true rfl) ?_
    refine V_il1 d_X9_count_0 ?_
    refine V_tabI (off := 51) (tgt := 52) d_X9_count_1 (by decide) (by decide) (by decide) (by decide) ?_
    refine V_al0 d_X9_count_52 ?_
    refine V_il1 d_X9_count_53 ?_
    refine U_cv1 d_X9_count_54 (m1) rfl rfl rfl ?_
    exact V_iret d_X9_count_57 rfl (by first | rfl | simp_all) rfl
  · skip
    refine ⟨S, ?_, Ag.rf⟩
    refine Rn_of hp_X9_count [some (.ref (gB G + 22)), some (.int (nI 1))] rfl (Nat.le_of_ble_eq_true rfl) (Nat.le_of_ble_eq_true rfl) ?_
    refine V_il1 d_X9_count_0 ?_
    refine V_tabI (off := 57) (tgt := 58) d_X9_count_1 (by decide) (by decide) (by decide) (by decide) ?_
    refine V_al0 d_X9_count_58 ?_
    refine V_getIe d_X9_count_59 rfl rfl (by decide) (hmt.1) ?_
    exact V_iret d_X9_count_62 rfl (by first | rfl | simp_all) rfl
  · skip
    refine ⟨S, ?_, Ag.rf⟩
    refine Rn_of hp_X9_count [some (.ref (gB G + 22)), some (.int (nI 2))] rfl (Nat.le_of_ble_eq_true rfl) (Nat.le_of_ble_eq_true rfl) ?_
    refine V_il1 d_X9_count_0 ?_
    refine V_tabI (off := 62) (tgt := 63) d_X9_count_1 (by decide) (by decide) (by decide) (by decide) ?_
    refine V_al0 d_X9_count_63 ?_
    refine V_getIe d_X9_count_64 rfl rfl (by decide) (hhm.2.2.1) ?_
    exact V_iret d_X9_count_67 rfl (by first | rfl | simp_all) rfl
  · skip
    refine ⟨S, ?_, Ag.rf⟩
    refine Rn_of hp_X9_count [some (.ref (gB G + 22)), some (.int (nI 3))] rfl (Nat.le_of_ble_eq_true rfl) (Nat.le_of_ble_eq_true rfl) ?_
    refine V_il1 d_X9_count_0 ?_
    refine V_tabI (off := 67) (tgt := 68) d_X9_count_1 (by decide) (by decide) (by decide) (by decide) ?_
    refine V_al0 d_X9_count_68 ?_
    refine V_getIe d_X9_count_69 rfl rfl (by decide) (hhm.2.2.2) ?_
    exact V_iret d_X9_count_72 rfl (by first | rfl | simp_all) rfl
  · obtain ⟨S1, m1, m2, m3⟩ := c_X9_sumOf (G := G) (j := 4) hmt hhm hx (by decide)
    rw [if_neg (by decide), sm_4] at m1
    refine ⟨S1, ?_, PQ_M m3⟩
    refine Rn_of hp_X9_count [some (.ref (gB G + 22)), some (.int (nI 4))] rfl (Nat.le_of_ble_eq_true rfl) (Nat.le_of_ble_eq_true rfl) ?_
    refine V_il1 d_X9_count_0 ?_
    refine V_tabI (off := 51) (tgt := 52) d_X9_count_1 (by decide) (by decide) (by decide) (by decide) ?_
    refine V_al0 d_X9_count_52 ?_
    refine V_il1 d_X9_count_53 ?_
    refine U_cv1 d_X9_count_54 (m1) rfl rfl rfl ?_
    exact V_iret d_X9_count_57 rfl (by first | rfl | simp_all) rfl
  · obtain ⟨S1, m1, m2, m3⟩ := c_X9_sumOf (G := G) (j := 5) hmt hhm hx (by decide)
    rw [if_neg (by decide), sm_5] at m1
    refine ⟨S1, ?_, PQ_M m3⟩
    refine Rn_of hp_X9_count [some (.ref (gB G + 22)), some (.int (nI 5))] rfl (Nat.le_of_ble_eq_true rfl) (Nat.le_of_ble_eq_true rfl) ?_
    refine V_il1 d_X9_count_0 ?_
    refine V_tabI (off := 51) (tgt := 52) d_X9_count_1 (by decide) (by decide) (by decide) (by decide) ?_
    refine V_al0 d_X9_count_52 ?_
    refine V_il1 d_X9_count_53 ?_
    refine U_cv1 d_X9_count_54 (m1) rfl rfl rfl ?_
    exact V_iret d_X9_count_57 rfl (by first | rfl | simp_all) rfl
  · obtain ⟨S1, m1, m2, m3⟩ := c_X9_sumOf (G := G) (j := 6) hmt hhm hx (by decide)
    rw [if_neg (by decide), sm_6] at m1
    refine ⟨S1, ?_, PQ_M m3⟩
    refine Rn_of hp_X9_count [some (.ref (gB G + 22)), some (.int (nI 6))] rfl (Nat.le_of_ble_eq_true rfl) (Nat.le_of_ble_eq_true rfl) ?_
    refine V_il1 d_X9_count_0 ?_
    refine V_tabI (off := 51) (tgt := 52) d_X9_count_1 (by decide) (by decide) (by decide) (by decide) ?_
    refine V_al0 d_X9_count_52 ?_
    refine V_il1 d_X9_count_53 ?_
    refine U_cv1 d_X9_count_54 (m1) rfl rfl rfl ?_
    exact V_iret d_X9_count_57 rfl (by first | rfl | simp_all) rfl
  · obtain ⟨S1, m1, m2, m3⟩ := c_X9_sumOf (G := G) (j := 7) hmt hhm hx (by decide)
    rw [if_neg (by decide), sm_7] at m1
    refine ⟨S1, ?_, PQ_M m3⟩
    refine Rn_of hp_X9_count [some (.ref (gB G + 22)), some (.int (nI 7))] rfl (Nat.le_of_ble_eq_true rfl) (Nat.le_of_ble_eq_true rfl) ?_
    refine V_il1 d_X9_count_0 ?_
    refine V_tabI (off := 51) (tgt := 52) d_X9_count_1 (by decide) (by decide) (by decide) (by decide) ?_
    refine V_al0 d_X9_count_52 ?_
    refine V_il1 d_X9_count_53 ?_
    refine U_cv1 d_X9_count_54 (m1) rfl rfl rfl ?_
    exact V_iret d_X9_count_57 rfl (by first | rfl | simp_all) rfl
