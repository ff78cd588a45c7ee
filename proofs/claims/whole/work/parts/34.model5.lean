/-! the reference: seeds -/
theorem fstN_snoc (g : Nat → Bool) : ∀ k i, fstN g (k + 1) i = (match fstN g k i with | some s => some s | none => if g (i + k) = true then some (i + k) else none)
  | 0, i => rfl
  | k + 1, i => by
    have h := fstN_snoc g k (i + 1)
    rw [fstN, h, fstN]
    by_cases c : g i = true
    · rw [if_pos c, if_pos c]
    · rw [if_neg c, if_neg c, show i + 1 + k = i + (k + 1) by omega]
theorem fst_sum (g : Nat → Bool) : ∀ k, (sumN (fun s => if g s = true then 1 else 0) k = 0 ∧ fstN g k 0 = none) ∨ (0 < sumN (fun s => if g s = true then 1 else 0) k ∧ ∃ s, fstN g k 0 = some s)
  | 0 => Or.inl ⟨rfl, rfl⟩
  | k + 1 => by
    rw [fstN_snoc, sumN, Nat.zero_add]
    rcases fst_sum g k with ⟨h1, h2⟩ | ⟨h1, s, h2⟩
    · rw [h1, h2]
      by_cases c : g k = true
      · right
        refine ⟨?_, k, ?_⟩
        · show 0 < 0 + (if g k = true then 1 else 0)
          rw [if_pos c]; decide
        · show (if g k = true then some k else none) = some k
          rw [if_pos c]
      · left
        refine ⟨?_, ?_⟩
        · show 0 + (if g k = true then 1 else 0) = 0
          rw [if_neg c]
        · show (if g k = true then some k else none) = none
          rw [if_neg c]
    · right
      rw [h2]
      exact ⟨by omega, s, rfl⟩
set_option maxRecDepth 100000 in
theorem c_X9_seedsOf {G : Gm} {S : AS} {b : Nat → Nat} {sz j : Nat} {ft : Int32} {N : List (List Nat)} (hv : MTv S b sz) (hx : TXT b sz ft N) (hj : j < 2) : ∃ SE, Rm G M_X9_seedsOf [.ref (gB G + 22), .int (nI j)] S (some (.int (if j = 0 then nI (sumN (fun s => if ftL N N.length 0 (nI s) = true then 1 else 0) 100) else oI (fstN (fun s => ftL N N.length 0 (nI s)) 100 0)))) SE ∧ MNv SE N ∧ Ag PM S SE := by
  obtain ⟨S1, f1, f2, f3⟩ := c_X9_faultNow (G := G) hv hx
  have hN := PR_wf hx.2.2
  have h8 := hN.1
  refine ⟨S1, ?_, f2, f3⟩
  have inner : ∀ (i many : Nat) (lI : Int32) (d n : Nat) (b0 : Bool) (s1 : Int32), n + d = N.length → ∃ s2 : Int32, ∀ Z, U G M_X9_seedsOf Z 93 [some (.ref (gB G + 22)), some (.int (nI j)), some (.int ft), some (.int (nI many)), some (.int lI), some (.int (nI i)), some (.int s2), some (.int (bI (b0 && ftL N d n s1))), some (.int (nI N.length))] [] S1 → U G M_X9_seedsOf Z 30 [some (.ref (gB G + 22)), some (.int (nI j)), some (.int ft), some (.int (nI many)), some (.int lI), some (.int (nI i)), some (.int s1), some (.int (bI b0)), some (.int (nI n))] [] S1 := by
    intro i many lI d
    induction d with
    | zero =>
      intro n b0 s1 hn
      rw [Nat.add_zero] at hn
      subst hn
      refine ⟨s1, fun Z kz => ?_⟩
      rw [ftL, Bool.and_true] at kz
      refine V_il8 d_X9_seedsOf_30 ?_
      refine V_al0 d_X9_seedsOf_32 ?_
      refine V_getIe d_X9_seedsOf_33 rfl rfl (by decide) (f2.1) ?_
      refine U_ic_geN d_X9_seedsOf_36 (by omega) (by omega) (fun h36 => ?_) (fun q => absurd q (by omega))
      exact kz
    | succ d ih =>
      intro n b0 s1 hn
      have hA := c_X9_areAlike (G := G) (a := n) (b := 0) f2 hN (by omega) (by omega)
      cases b0 with
      | false =>
        obtain ⟨s2, kk⟩ := ih (n + 1) false (nxS s1) (by omega)
        refine ⟨s2, fun Z kz => ?_⟩
        rw [Bool.false_and] at kz
        rw [Bool.false_and] at kk
        refine V_il8 d_X9_seedsOf_30 ?_
        refine V_al0 d_X9_seedsOf_32 ?_
        refine V_getIe d_X9_seedsOf_33 rfl rfl (by decide) (f2.1) ?_
        refine U_ic_geN d_X9_seedsOf_36 (by omega) (by omega) (fun q => absurd q (by omega)) (fun h36 => ?_)
        refine V_ldc d_X9_seedsOf_39 ?_
        refine V_il6 d_X9_seedsOf_41 ?_
        first | with_reducible refine V_imulN d_X9_seedsOf_43 ?_ | refine V_imul d_X9_seedsOf_43 ?_
        refine V_ki d_X9_seedsOf_44 ?_
        first | with_reducible refine V_iaddN d_X9_seedsOf_47 ?_ | refine V_iadd d_X9_seedsOf_47 ?_
        refine V_is6 d_X9_seedsOf_48 rfl ?_
        refine V_il7 d_X9_seedsOf_50 ?_
        refine V_if_eq d_X9_seedsOf_52 (fun h52 => ?_) (fun q => absurd rfl q)
        refine V_ki d_X9_seedsOf_84 ?_
        refine V_is7 d_X9_seedsOf_85 rfl ?_
        refine V_icN8 d_X9_seedsOf_87 rfl ?_
        refine V_goto d_X9_seedsOf_90 ?_
        exact kk Z kz
      | true =>
        obtain ⟨s2, kk⟩ := ih (n + 1) (decide (lotX (nxS s1) = (if ni N 0 = ni N n then nI 0 else nI 1))) (nxS s1) (by omega)
        refine ⟨s2, fun Z kz => ?_⟩
        rw [ftL, Bool.true_and] at kz
        by_cases c1 : ni N 0 = ni N n
        · rw [decide_eq_true c1.symm] at hA
          rw [if_pos c1] at kk kz
          by_cases c2 : lotX (nxS s1) = nI 0
          · rw [decide_eq_true c2] at kk kz
            refine V_il8 d_X9_seedsOf_30 ?_
            refine V_al0 d_X9_seedsOf_32 ?_
            refine V_getIe d_X9_seedsOf_33 rfl rfl (by decide) (f2.1) ?_
            refine U_ic_geN d_X9_seedsOf_36 (by omega) (by omega) (fun q => absurd q (by omega)) (fun h36 => ?_)
            refine V_ldc d_X9_seedsOf_39 ?_
            refine V_il6 d_X9_seedsOf_41 ?_
            first | with_reducible refine V_imulN d_X9_seedsOf_43 ?_ | refine V_imul d_X9_seedsOf_43 ?_
            refine V_ki d_X9_seedsOf_44 ?_
            first | with_reducible refine V_iaddN d_X9_seedsOf_47 ?_ | refine V_iadd d_X9_seedsOf_47 ?_
            refine V_is6 d_X9_seedsOf_48 rfl ?_
            refine V_il7 d_X9_seedsOf_50 ?_
            refine V_if_eq d_X9_seedsOf_52 (fun q => absurd q (by decide)) (fun h52 => ?_)
            refine V_il6 d_X9_seedsOf_55 ?_
            refine V_ki d_X9_seedsOf_57 ?_
            refine V_iushr d_X9_seedsOf_59 rfl ?_
            refine V_ki d_X9_seedsOf_60 ?_
            refine V_irem d_X9_seedsOf_61 (by decide) ?_
            refine V_if_ne d_X9_seedsOf_62 (fun q => absurd c2 q) (fun h62 => ?_)
            refine V_ki d_X9_seedsOf_65 ?_
            refine V_goto d_X9_seedsOf_66 ?_
            refine V_al0 d_X9_seedsOf_70 ?_
            refine V_il8 d_X9_seedsOf_71 ?_
            refine V_ki d_X9_seedsOf_73 ?_
            refine U_cv2 d_X9_seedsOf_74 (hA) rfl rfl rfl ?_
            refine V_ic_ne d_X9_seedsOf_77 (fun q => absurd rfl q) (fun h77 => ?_)
            refine V_ki d_X9_seedsOf_80 ?_
            refine V_goto d_X9_seedsOf_81 ?_
            refine V_is7 d_X9_seedsOf_85 rfl ?_
            refine V_icN8 d_X9_seedsOf_87 rfl ?_
            refine V_goto d_X9_seedsOf_90 ?_
            exact kk Z kz
          · rw [decide_eq_false c2] at kk kz
            refine V_il8 d_X9_seedsOf_30 ?_
            refine V_al0 d_X9_seedsOf_32 ?_
            refine V_getIe d_X9_seedsOf_33 rfl rfl (by decide) (f2.1) ?_
            refine U_ic_geN d_X9_seedsOf_36 (by omega) (by omega) (fun q => absurd q (by omega)) (fun h36 => ?_)
            refine V_ldc d_X9_seedsOf_39 ?_
            refine V_il6 d_X9_seedsOf_41 ?_
            first | with_reducible refine V_imulN d_X9_seedsOf_43 ?_ | refine V_imul d_X9_seedsOf_43 ?_
            refine V_ki d_X9_seedsOf_44 ?_
            first | with_reducible refine V_iaddN d_X9_seedsOf_47 ?_ | refine V_iadd d_X9_seedsOf_47 ?_
            refine V_is6 d_X9_seedsOf_48 rfl ?_
            refine V_il7 d_X9_seedsOf_50 ?_
            refine V_if_eq d_X9_seedsOf_52 (fun q => absurd q (by decide)) (fun h52 => ?_)
            refine V_il6 d_X9_seedsOf_55 ?_
            refine V_ki d_X9_seedsOf_57 ?_
            refine V_iushr d_X9_seedsOf_59 rfl ?_
            refine V_ki d_X9_seedsOf_60 ?_
            refine V_irem d_X9_seedsOf_61 (by decide) ?_
            refine V_if_ne d_X9_seedsOf_62 (fun h62 => ?_) (fun q => absurd q c2)
            refine V_ki d_X9_seedsOf_69 ?_
            refine V_al0 d_X9_seedsOf_70 ?_
            refine V_il8 d_X9_seedsOf_71 ?_
            refine V_ki d_X9_seedsOf_73 ?_
            refine U_cv2 d_X9_seedsOf_74 (hA) rfl rfl rfl ?_
            refine V_ic_ne d_X9_seedsOf_77 (fun h77 => ?_) (fun q => absurd q (by decide))
            refine V_ki d_X9_seedsOf_84 ?_
            refine V_is7 d_X9_seedsOf_85 rfl ?_
            refine V_icN8 d_X9_seedsOf_87 rfl ?_
            refine V_goto d_X9_seedsOf_90 ?_
            exact kk Z kz
        · have c1' : ¬ ni N n = ni N 0 := fun e => c1 e.symm
          rw [decide_eq_false c1'] at hA
          rw [if_neg c1] at kk kz
          rcases lotX_or (nxS s1) with c2 | c2
          · have c3 : ¬ lotX (nxS s1) = nI 1 := by rw [c2]; decide
            rw [decide_eq_false c3] at kk kz
            refine V_il8 d_X9_seedsOf_30 ?_
            refine V_al0 d_X9_seedsOf_32 ?_
            refine V_getIe d_X9_seedsOf_33 rfl rfl (by decide) (f2.1) ?_
            refine U_ic_geN d_X9_seedsOf_36 (by omega) (by omega) (fun q => absurd q (by omega)) (fun h36 => ?_)
            refine V_ldc d_X9_seedsOf_39 ?_
            refine V_il6 d_X9_seedsOf_41 ?_
            first | with_reducible refine V_imulN d_X9_seedsOf_43 ?_ | refine V_imul d_X9_seedsOf_43 ?_
            refine V_ki d_X9_seedsOf_44 ?_
            first | with_reducible refine V_iaddN d_X9_seedsOf_47 ?_ | refine V_iadd d_X9_seedsOf_47 ?_
            refine V_is6 d_X9_seedsOf_48 rfl ?_
            refine V_il7 d_X9_seedsOf_50 ?_
            refine V_if_eq d_X9_seedsOf_52 (fun q => absurd q (by decide)) (fun h52 => ?_)
            refine V_il6 d_X9_seedsOf_55 ?_
            refine V_ki d_X9_seedsOf_57 ?_
            refine V_iushr d_X9_seedsOf_59 rfl ?_
            refine V_ki d_X9_seedsOf_60 ?_
            refine V_irem d_X9_seedsOf_61 (by decide) ?_
            refine V_if_ne d_X9_seedsOf_62 (fun q => absurd c2 q) (fun h62 => ?_)
            refine V_ki d_X9_seedsOf_65 ?_
            refine V_goto d_X9_seedsOf_66 ?_
            refine V_al0 d_X9_seedsOf_70 ?_
            refine V_il8 d_X9_seedsOf_71 ?_
            refine V_ki d_X9_seedsOf_73 ?_
            refine U_cv2 d_X9_seedsOf_74 (hA) rfl rfl rfl ?_
            refine V_ic_ne d_X9_seedsOf_77 (fun h77 => ?_) (fun q => absurd q (by decide))
            refine V_ki d_X9_seedsOf_84 ?_
            refine V_is7 d_X9_seedsOf_85 rfl ?_
            refine V_icN8 d_X9_seedsOf_87 rfl ?_
            refine V_goto d_X9_seedsOf_90 ?_
            exact kk Z kz
          · rw [decide_eq_true c2] at kk kz
            refine V_il8 d_X9_seedsOf_30 ?_
            refine V_al0 d_X9_seedsOf_32 ?_
            refine V_getIe d_X9_seedsOf_33 rfl rfl (by decide) (f2.1) ?_
            refine U_ic_geN d_X9_seedsOf_36 (by omega) (by omega) (fun q => absurd q (by omega)) (fun h36 => ?_)
            refine V_ldc d_X9_seedsOf_39 ?_
            refine V_il6 d_X9_seedsOf_41 ?_
            first | with_reducible refine V_imulN d_X9_seedsOf_43 ?_ | refine V_imul d_X9_seedsOf_43 ?_
            refine V_ki d_X9_seedsOf_44 ?_
            first | with_reducible refine V_iaddN d_X9_seedsOf_47 ?_ | refine V_iadd d_X9_seedsOf_47 ?_
            refine V_is6 d_X9_seedsOf_48 rfl ?_
            refine V_il7 d_X9_seedsOf_50 ?_
            refine V_if_eq d_X9_seedsOf_52 (fun q => absurd q (by decide)) (fun h52 => ?_)
            refine V_il6 d_X9_seedsOf_55 ?_
            refine V_ki d_X9_seedsOf_57 ?_
            refine V_iushr d_X9_seedsOf_59 rfl ?_
            refine V_ki d_X9_seedsOf_60 ?_
            refine V_irem d_X9_seedsOf_61 (by decide) ?_
            refine V_if_ne d_X9_seedsOf_62 (fun h62 => ?_) (fun q => absurd (c2.symm.trans q) (by decide))
            refine V_ki d_X9_seedsOf_69 ?_
            refine V_al0 d_X9_seedsOf_70 ?_
            refine V_il8 d_X9_seedsOf_71 ?_
            refine V_ki d_X9_seedsOf_73 ?_
            refine U_cv2 d_X9_seedsOf_74 (hA) rfl rfl rfl ?_
            refine V_ic_ne d_X9_seedsOf_77 (fun q => absurd rfl q) (fun h77 => ?_)
            refine V_ki d_X9_seedsOf_80 ?_
            refine V_goto d_X9_seedsOf_81 ?_
            refine V_is7 d_X9_seedsOf_85 rfl ?_
            refine V_icN8 d_X9_seedsOf_87 rfl ?_
            refine V_goto d_X9_seedsOf_90 ?_
            exact kk Z kz
  have outer : ∀ (d k : Nat) (y6 y7 y8 : Option Value), k + d = 100 → U G M_X9_seedsOf (Ze G (some (.int (if j = 0 then nI (sumN (fun s => if ftL N N.length 0 (nI s) = true then 1 else 0) 100) else oI (fstN (fun s => ftL N N.length 0 (nI s)) 100 0)))) S1) 13 [some (.ref (gB G + 22)), some (.int (nI j)), some (.int ft), some (.int (nI (sumN (fun s => if ftL N N.length 0 (nI s) = true then 1 else 0) k))), some (.int (oI (fstN (fun s => ftL N N.length 0 (nI s)) k 0))), some (.int (nI k)), y6, y7, y8] [] S1 := by
    intro d
    induction d with
    | zero =>
      intro k y6 y7 y8 hk
      rw [Nat.add_zero] at hk
      subst hk
      refine V_il5 d_X9_seedsOf_13 ?_
      refine V_ki d_X9_seedsOf_15 ?_
      refine U_ic_geN d_X9_seedsOf_17 (by omega) (by omega) (fun h17 => ?_) (fun q => absurd q (by omega))
      refine V_il1 d_X9_seedsOf_130 ?_
      refine U_if_neN d_X9_seedsOf_131 (by omega) (fun h131 => ?_) (fun h131 => ?_)
      · refine V_il4 d_X9_seedsOf_138 ?_
        exact V_iret d_X9_seedsOf_140 rfl (by first | rw [if_pos h131] | rw [if_neg h131]) rfl
      · refine V_il3 d_X9_seedsOf_134 ?_
        refine V_goto d_X9_seedsOf_135 ?_
        exact V_iret d_X9_seedsOf_140 rfl (by first | rw [if_pos h131] | rw [if_neg h131]) rfl
    | succ d ih =>
      intro k y6 y7 y8 hk
      have fs := fst_sum (fun s => ftL N N.length 0 (nI s)) k
      have hs := sumN_le (g := fun s => if ftL N N.length 0 (nI s) = true then 1 else 0) (B := 1) (fun i => by show (if ftL N N.length 0 (nI i) = true then 1 else 0) ≤ 1; split <;> decide) k
      have r1 := fun y6 y7 y8 => ih (k + 1) y6 y7 y8 (by omega)
      have es : sumN (fun s => if ftL N N.length 0 (nI s) = true then 1 else 0) (k + 1) = sumN (fun s => if ftL N N.length 0 (nI s) = true then 1 else 0) k + (if ftL N N.length 0 (nI k) = true then 1 else 0) := rfl
      have ef := fstN_snoc (fun s => ftL N N.length 0 (nI s)) k 0
      rw [Nat.zero_add] at ef
      obtain ⟨s2, kk⟩ := inner k (sumN (fun s => if ftL N N.length 0 (nI s) = true then 1 else 0) k) (oI (fstN (fun s => ftL N N.length 0 (nI s)) k 0)) N.length 0 true (nI k) (Nat.zero_add _)
      rw [Bool.true_and] at kk
      cases c : ftL N N.length 0 (nI k) with
      | false =>
        rw [c] at kk
        have r2 := r1 (some (.int s2)) (some (.int (bI false))) (some (.int (nI N.length)))
        rw [es, if_neg (show ¬ ftL N N.length 0 (nI k) = true by rw [c]; decide)] at r2
        have e : (match fstN (fun s => ftL N N.length 0 (nI s)) k 0 with | some s => some s | none => if ftL N N.length 0 (nI k) = true then some k else none) = fstN (fun s => ftL N N.length 0 (nI s)) k 0 := by
          rw [c]
          cases fstN (fun s => ftL N N.length 0 (nI s)) k 0 <;> rfl
        rw [ef.trans e] at r2
        refine V_il5 d_X9_seedsOf_13 ?_
        refine V_ki d_X9_seedsOf_15 ?_
        refine U_ic_geN d_X9_seedsOf_17 (by omega) (by omega) (fun q => absurd q (by omega)) (fun h17 => ?_)
        refine V_il5 d_X9_seedsOf_20 ?_
        refine V_is6 d_X9_seedsOf_22 rfl ?_
        refine V_ki d_X9_seedsOf_24 ?_
        refine V_is7 d_X9_seedsOf_25 rfl ?_
        refine V_ki d_X9_seedsOf_27 ?_
        refine V_is8 d_X9_seedsOf_28 rfl ?_
        refine kk _ ?_
        refine V_il7 d_X9_seedsOf_93 ?_
        refine V_if_eq d_X9_seedsOf_95 (fun h95 => ?_) (fun q => absurd rfl q)
        refine V_il4 d_X9_seedsOf_107 ?_
        refine V_is4 d_X9_seedsOf_109 rfl ?_
        refine V_il3 d_X9_seedsOf_111 ?_
        refine V_il7 d_X9_seedsOf_112 ?_
        refine V_if_eq d_X9_seedsOf_114 (fun h114 => ?_) (fun q => absurd rfl q)
        refine V_ki d_X9_seedsOf_121 ?_
        first | with_reducible refine V_iaddN d_X9_seedsOf_122 ?_ | refine V_iadd d_X9_seedsOf_122 ?_
        refine V_is3 d_X9_seedsOf_123 rfl ?_
        refine V_icN5 d_X9_seedsOf_124 rfl ?_
        refine V_goto d_X9_seedsOf_127 ?_
        exact r2
      | true =>
        rw [c] at kk
        have r2 := r1 (some (.int s2)) (some (.int (bI true))) (some (.int (nI N.length)))
        rw [es, if_pos c] at r2
        rcases fs with ⟨g1, g2⟩ | ⟨g1, s, g2⟩
        · have e : (match fstN (fun s => ftL N N.length 0 (nI s)) k 0 with | some s => some s | none => if ftL N N.length 0 (nI k) = true then some k else none) = some k := by
            rw [g2, c]; rfl
          rw [ef.trans e] at r2
          refine V_il5 d_X9_seedsOf_13 ?_
          refine V_ki d_X9_seedsOf_15 ?_
          refine U_ic_geN d_X9_seedsOf_17 (by omega) (by omega) (fun q => absurd q (by omega)) (fun h17 => ?_)
          refine V_il5 d_X9_seedsOf_20 ?_
          refine V_is6 d_X9_seedsOf_22 rfl ?_
          refine V_ki d_X9_seedsOf_24 ?_
          refine V_is7 d_X9_seedsOf_25 rfl ?_
          refine V_ki d_X9_seedsOf_27 ?_
          refine V_is8 d_X9_seedsOf_28 rfl ?_
          refine kk _ ?_
          refine V_il7 d_X9_seedsOf_93 ?_
          refine V_if_eq d_X9_seedsOf_95 (fun q => absurd q (by decide)) (fun h95 => ?_)
          refine V_il3 d_X9_seedsOf_98 ?_
          refine U_if_neN d_X9_seedsOf_99 (by omega) (fun q => absurd g1 q) (fun h99 => ?_)
          refine V_il5 d_X9_seedsOf_102 ?_
          refine V_goto d_X9_seedsOf_104 ?_
          refine V_is4 d_X9_seedsOf_109 rfl ?_
          refine V_il3 d_X9_seedsOf_111 ?_
          refine V_il7 d_X9_seedsOf_112 ?_
          refine V_if_eq d_X9_seedsOf_114 (fun q => absurd q (by decide)) (fun h114 => ?_)
          refine V_ki d_X9_seedsOf_117 ?_
          refine V_goto d_X9_seedsOf_118 ?_
          first | with_reducible refine V_iaddN d_X9_seedsOf_122 ?_ | refine V_iadd d_X9_seedsOf_122 ?_
          refine V_is3 d_X9_seedsOf_123 rfl ?_
          refine V_icN5 d_X9_seedsOf_124 rfl ?_
          refine V_goto d_X9_seedsOf_127 ?_
          exact r2
        · have e : (match fstN (fun s => ftL N N.length 0 (nI s)) k 0 with | some s => some s | none => if ftL N N.length 0 (nI k) = true then some k else none) = fstN (fun s => ftL N N.length 0 (nI s)) k 0 := by
            rw [g2]
          rw [ef.trans e] at r2
          refine V_il5 d_X9_seedsOf_13 ?_
          refine V_ki d_X9_seedsOf_15 ?_
          refine U_ic_geN d_X9_seedsOf_17 (by omega) (by omega) (fun q => absurd q (by omega)) (fun h17 => ?_)
          refine V_il5 d_X9_seedsOf_20 ?_
          refine V_is6 d_X9_seedsOf_22 rfl ?_
          refine V_ki d_X9_seedsOf_24 ?_
          refine V_is7 d_X9_seedsOf_25 rfl ?_
          refine V_ki d_X9_seedsOf_27 ?_
          refine V_is8 d_X9_seedsOf_28 rfl ?_
          refine kk _ ?_
          refine V_il7 d_X9_seedsOf_93 ?_
          refine V_if_eq d_X9_seedsOf_95 (fun q => absurd q (by decide)) (fun h95 => ?_)
          refine V_il3 d_X9_seedsOf_98 ?_
          refine U_if_neN d_X9_seedsOf_99 (by omega) (fun h99 => ?_) (fun q => absurd q (by omega))
          refine V_il4 d_X9_seedsOf_107 ?_
          refine V_is4 d_X9_seedsOf_109 rfl ?_
          refine V_il3 d_X9_seedsOf_111 ?_
          refine V_il7 d_X9_seedsOf_112 ?_
          refine V_if_eq d_X9_seedsOf_114 (fun q => absurd q (by decide)) (fun h114 => ?_)
          refine V_ki d_X9_seedsOf_117 ?_
          refine V_goto d_X9_seedsOf_118 ?_
          first | with_reducible refine V_iaddN d_X9_seedsOf_122 ?_ | refine V_iadd d_X9_seedsOf_122 ?_
          refine V_is3 d_X9_seedsOf_123 rfl ?_
          refine V_icN5 d_X9_seedsOf_124 rfl ?_
          refine V_goto d_X9_seedsOf_127 ?_
          exact r2
  refine Rn_of hp_X9_seedsOf [some (.ref (gB G + 22)), some (.int (nI j)), none, none, none, none, none, none, none] rfl (Nat.le_of_ble_eq_true rfl) (Nat.le_of_ble_eq_true rfl) ?_
  refine V_al0 d_X9_seedsOf_0 ?_
  refine U_cv0 d_X9_seedsOf_1 (f1) rfl rfl rfl ?_
  refine V_is2 d_X9_seedsOf_4 rfl ?_
  refine V_ki d_X9_seedsOf_5 ?_
  refine V_is3 d_X9_seedsOf_6 rfl ?_
  refine V_ki d_X9_seedsOf_7 ?_
  refine V_is4 d_X9_seedsOf_8 rfl ?_
  refine V_ki d_X9_seedsOf_10 ?_
  refine V_is5 d_X9_seedsOf_11 rfl ?_
  exact outer 100 0 none none none (Nat.zero_add _)
/-! the reference: what each break has -/
def LYi (S : AS) (ga gb : Nat → Nat → Nat) (K x m : Nat) : Prop := ∀ x' m', m' < K → (x' < x ∨ (x' = x ∧ m' < m)) → S.1 28 (60 * x' + m') = nI (ga x' m') ∧ S.1 29 (60 * x' + m') = nI (gb x' m')
theorem LYi_step {S : AS} {ga gb : Nat → Nat → Nat} {K x m : Nat} (hK : K ≤ 60) (h : LYi S ga gb K x m) (hm : m < K) : LYi (sI (sI S 28 (60 * x + m) (nI (ga x m))) 29 (60 * x + m) (nI (gb x m))) ga gb K x (m + 1) := by
  intro x' m' h1 h2
  simp only [sI_1]
  by_cases e : 60 * x' + m' = 60 * x + m
  · have e1 : x' = x := by omega
    have e2 : m' = m := by omega
    subst e1; subst e2
    simp
  · have hh := h x' m' h1 (by omega)
    simp only [e, and_false, if_false]
    exact hh
theorem LYi_row {S : AS} {ga gb : Nat → Nat → Nat} {K x : Nat} (h : LYi S ga gb K x K) : LYi S ga gb K (x + 1) 0 := fun x' m' h1 h2 => h x' m' h1 (by omega)
abbrev P28 : Nat → Nat → Bool := fun a _ => a == 28 || a == 29
theorem LYi.ag {P : Nat → Nat → Bool} {S S' : AS} {ga gb : Nat → Nat → Nat} {K x m : Nat} (h : Ag P S S') (hv : LYi S ga gb K x m) (h1 : ∀ i, P 28 i = false) (h2 : ∀ i, P 29 i = false) : LYi S' ga gb K x m :=
  fun x' m' a b => ⟨(h.2 28 _ (h1 _)).trans (hv x' m' a b).1, (h.2 29 _ (h2 _)).trans (hv x' m' a b).2⟩
set_option maxRecDepth 100000 in
theorem c_X9_lays {G : Gm} {S : AS} {w wy : Nat → Nat} {lk nd : Nat} {N : List (List Nat)} {a b : Nat} (hH : HVm S w wy lk nd) (hB : HB w wy lk nd) (hv : MNv S N) (hN : WFN N) (ha : a < N.length) (hb : b < N.length) :
    ∃ SE, Rm G M_X9_lays [.ref (gB G + 22), .int (nI a), .int (nI b)] S none SE ∧ LYi SE (hh w wy lk nd (ni N a)) (hh w wy lk nd (ni N b)) (61 - nd) 6 0 ∧ Ag P28 S SE := by
  obtain ⟨n1, n2⟩ := hB.2.2.2
  have h8 := hN.1
  have inner : ∀ (x : Nat), x < 6 → ∀ (d m : Nat) (S1 : AS), m + d = 61 - nd → LYi S1 (hh w wy lk nd (ni N a)) (hh w wy lk nd (ni N b)) (61 - nd) x m → Ag P28 S S1 →
      ∃ S2, LYi S2 (hh w wy lk nd (ni N a)) (hh w wy lk nd (ni N b)) (61 - nd) x (61 - nd) ∧ Ag P28 S S2 ∧ ∀ Z, U G M_X9_lays Z 69 [some (.ref (gB G + 22)), some (.int (nI a)), some (.int (nI b)), some (.int (nI x)), some (.int (nI (61 - nd)))] [] S2 → U G M_X9_lays Z 11 [some (.ref (gB G + 22)), some (.int (nI a)), some (.int (nI b)), some (.int (nI x)), some (.int (nI m))] [] S1 := by
    intro x hx d
    induction d with
    | zero =>
      intro m S1 hm hL hA
      rw [Nat.add_zero] at hm
      subst hm
      have hH1 := hH.ag hA (fun _ => rfl) (fun _ => rfl) rfl rfl
      refine ⟨S1, hL, hA, fun Z kz => ?_⟩
      refine V_il4 d_X9_lays_11 ?_
      refine V_ki d_X9_lays_13 ?_
      refine V_al0 d_X9_lays_15 ?_
      refine V_getIe d_X9_lays_16 rfl rfl (by decide) (hH1.2.2.2) ?_
      refine V_isubN d_X9_lays_19 (by omega) ?_
      refine U_ic_gtN d_X9_lays_20 (by omega) (by omega) (fun h20 => ?_) (fun q => absurd q (by omega))
      exact kz
    | succ d ih =>
      intro m S1 hm hL hA
      have hH1 := hH.ag hA (fun _ => rfl) (fun _ => rfl) rfl rfl
      have hv1 := hv.ag hA rfl (fun _ => rfl) (fun _ => rfl)
      have hA2 : Ag P28 S (sI S1 28 (60 * x + m) (nI (hh w wy lk nd (ni N a) x m))) := hA.sI rfl
      have hH2 := hH.ag hA2 (fun _ => rfl) (fun _ => rfl) rfl rfl
      have hv2 := hv.ag hA2 rfl (fun _ => rfl) (fun _ => rfl)
      have hc1 := c_X9_stealsOf (G := G) (m := m) hH1 hB hv1 hN ha hx (by omega)
      have hc2 := c_X9_stealsOf (G := G) (m := m) hH2 hB hv2 hN hb hx (by omega)
      obtain ⟨S2, r1, r2, r3⟩ := ih (m + 1) _ (by omega) (LYi_step (by omega) hL (by omega)) (hA2.sI (v := nI (hh w wy lk nd (ni N b) x m)) (k := 29) (j := 60 * x + m) rfl)
      refine ⟨S2, r1, r2, fun Z kz => ?_⟩
      refine V_il4 d_X9_lays_11 ?_
      refine V_ki d_X9_lays_13 ?_
      refine V_al0 d_X9_lays_15 ?_
      refine V_getIe d_X9_lays_16 rfl rfl (by decide) (hH1.2.2.2) ?_
      refine V_isubN d_X9_lays_19 (by omega) ?_
      refine U_ic_gtN d_X9_lays_20 (by omega) (by omega) (fun q => absurd q (by omega)) (fun h20 => ?_)
      refine V_al0 d_X9_lays_23 ?_
      refine V_getR d_X9_lays_24 rfl rfl (by decide) rfl ?_
      refine V_ki d_X9_lays_27 ?_
      refine V_il3 d_X9_lays_29 ?_
      first | with_reducible refine V_imulN d_X9_lays_30 ?_ | refine V_imul d_X9_lays_30 ?_
      refine V_il4 d_X9_lays_31 ?_
      first | with_reducible refine V_iaddN d_X9_lays_33 ?_ | refine V_iadd d_X9_lays_33 ?_
      refine V_al0 d_X9_lays_34 ?_
      refine V_il1 d_X9_lays_35 ?_
      refine V_il3 d_X9_lays_36 ?_
      refine V_il4 d_X9_lays_37 ?_
      refine U_cv3 d_X9_lays_39 (hc1) rfl rfl rfl ?_
      refine V_iast d_X9_lays_42 rfl (by decide) rfl (show 60 * x + m < 360 by omega) ?_
      refine V_al0 d_X9_lays_43 ?_
      refine V_getR d_X9_lays_44 rfl rfl (by decide) rfl ?_
      refine V_ki d_X9_lays_47 ?_
      refine V_il3 d_X9_lays_49 ?_
      first | with_reducible refine V_imulN d_X9_lays_50 ?_ | refine V_imul d_X9_lays_50 ?_
      refine V_il4 d_X9_lays_51 ?_
      first | with_reducible refine V_iaddN d_X9_lays_53 ?_ | refine V_iadd d_X9_lays_53 ?_
      refine V_al0 d_X9_lays_54 ?_
      refine V_il2 d_X9_lays_55 ?_
      refine V_il3 d_X9_lays_56 ?_
      refine V_il4 d_X9_lays_57 ?_
      refine U_cv3 d_X9_lays_59 (hc2) rfl rfl rfl ?_
      refine V_iast d_X9_lays_62 rfl (by decide) rfl (show 60 * x + m < 360 by omega) ?_
      refine V_icN4 d_X9_lays_63 rfl ?_
      refine V_goto d_X9_lays_66 ?_
      exact r3 Z kz
  have outer : ∀ (d x : Nat) (S1 : AS) (y4 : Option Value), x + d = 6 → LYi S1 (hh w wy lk nd (ni N a)) (hh w wy lk nd (ni N b)) (61 - nd) x 0 → Ag P28 S S1 →
      ∃ S2, LYi S2 (hh w wy lk nd (ni N a)) (hh w wy lk nd (ni N b)) (61 - nd) 6 0 ∧ Ag P28 S S2 ∧ U G M_X9_lays (Ze G none S2) 2 [some (.ref (gB G + 22)), some (.int (nI a)), some (.int (nI b)), some (.int (nI x)), y4] [] S1 := by
    intro d
    induction d with
    | zero =>
      intro x S1 y4 hx hL hA
      rw [Nat.add_zero] at hx
      subst hx
      refine ⟨S1, hL, hA, ?_⟩
      refine V_il3 d_X9_lays_2 ?_
      refine V_ki d_X9_lays_3 ?_
      refine U_ic_geN d_X9_lays_5 (by omega) (by omega) (fun h5 => ?_) (fun q => absurd q (by omega))
      exact V_vret d_X9_lays_75 rfl rfl rfl
    | succ d ih =>
      intro x S1 y4 hx hL hA
      obtain ⟨S2, r1, r2, r3⟩ := inner x (by omega) (61 - nd) 0 S1 (Nat.zero_add _) hL hA
      obtain ⟨S3, t1, t2, t3⟩ := ih (x + 1) S2 (some (.int (nI (61 - nd)))) (by omega) (LYi_row r1) r2
      refine ⟨S3, t1, t2, ?_⟩
      refine V_il3 d_X9_lays_2 ?_
      refine V_ki d_X9_lays_3 ?_
      refine U_ic_geN d_X9_lays_5 (by omega) (by omega) (fun q => absurd q (by omega)) (fun h5 => ?_)
      refine V_ki d_X9_lays_8 ?_
      refine V_is4 d_X9_lays_9 rfl ?_
      refine r3 _ ?_
      refine V_icN3 d_X9_lays_69 rfl ?_
      refine V_goto d_X9_lays_72 ?_
      exact t3
  obtain ⟨S2, r1, r2, r3⟩ := outer 6 0 S none rfl (fun x' m' _ q => by omega) Ag.rf
  refine ⟨S2, ?_, r1, r2⟩
  refine Rn_of hp_X9_lays [some (.ref (gB G + 22)), some (.int (nI a)), some (.int (nI b)), none, none] rfl (Nat.le_of_ble_eq_true rfl) (Nat.le_of_ble_eq_true rfl) ?_
  refine V_ki d_X9_lays_0 ?_
  refine V_is3 d_X9_lays_1 rfl ?_
  exact r3
abbrev P22b : Nat → Nat → Bool := fun a b => a == 22 && b == 11
set_option maxRecDepth 100000 in
theorem c_X9_most {G : Gm} {S : AS} {ga gb g : Nat → Nat → Nat} {nd pa pb m0 lamp : Nat} {lI : Int32} (hL : LYi S ga gb (61 - nd) 6 0) (hnd : S.1 22 8 = nI nd) (n1 : 1 ≤ nd) (n2 : nd ≤ 20) (hga : ∀ x m, ga x m ≤ 99) (hgb : ∀ x m, gb x m ≤ 99) (hge : ∀ x m, pa * ga x m + pb * gb x m = g x m) (hpa : pa ≤ 99) (hpb : pb ≤ 99) (hm0 : m0 ≤ 1) (hlI : ∀ x, x < 6 → (nI x = lI ↔ x = lamp)) :
    ∃ SE, Rm G M_X9_most [.ref (gB G + 22), .int (nI pa), .int (nI pb), .int (nI m0), .int lI] S (some (.int (mI (best g (61 - nd - m0) m0 lamp).2))) SE ∧ SE.1 22 11 = nI (best g (61 - nd - m0) m0 lamp).1 ∧ Ag P22b S SE := by
  have hgl : ∀ x m, g x m < 50000 := by
    intro x m
    have h1 := Nat.mul_le_mul hpa (hga x m)
    have h2 := Nat.mul_le_mul hpb (hgb x m)
    rw [← hge]
    omega
  have inner : ∀ (x : Nat), x < 6 → x ≠ lamp → ∀ (d m : Nat) (st : Nat × Nat) (S1 : AS) (y8 : Option Value), m + d = 61 - nd → st.2 < 100001 → S1.1 22 11 = nI st.1 → Ag P22b S S1 →
      ∃ S2, S2.1 22 11 = nI (bestI g d m x st).1 ∧ (bestI g d m x st).2 < 100001 ∧ Ag P22b S S2 ∧ ∃ y8', ∀ Z, U G M_X9_most Z 102 [some (.ref (gB G + 22)), some (.int (nI pa)), some (.int (nI pb)), some (.int (nI m0)), some (.int lI), some (.int (mI (bestI g d m x st).2)), some (.int (nI x)), some (.int (nI (61 - nd))), y8'] [] S2 → U G M_X9_most Z 21 [some (.ref (gB G + 22)), some (.int (nI pa)), some (.int (nI pb)), some (.int (nI m0)), some (.int lI), some (.int (mI st.2)), some (.int (nI x)), some (.int (nI m)), y8] [] S1 := by
    intro x hx hxl d
    induction d with
    | zero =>
      intro m st S1 y8 hm hs hb hA
      rw [Nat.add_zero] at hm
      subst hm
      refine ⟨S1, hb, hs, hA, y8, fun Z kz => ?_⟩
      have hn1 : S1.1 22 8 = nI nd := (hA.2 22 8 rfl).trans hnd
      refine V_il7 d_X9_most_21 ?_
      refine V_ki d_X9_most_23 ?_
      refine V_al0 d_X9_most_25 ?_
      refine V_getIe d_X9_most_26 rfl rfl (by decide) (hn1) ?_
      refine V_isubN d_X9_most_29 (by omega) ?_
      refine U_ic_gtN d_X9_most_30 (by omega) (by omega) (fun h30 => ?_) (fun q => absurd q (by omega))
      exact kz
    | succ d ih =>
      intro m st S1 y8 hm hs hb hA
      have hn1 : S1.1 22 8 = nI nd := (hA.2 22 8 rfl).trans hnd
      have l1 := (hA.2 28 (60 * x + m) rfl).trans (hL x m (by omega) (by omega)).1
      have l2 := (hA.2 29 (60 * x + m) rfl).trans (hL x m (by omega) (by omega)).2
      have hgx := hgl x m
      by_cases c : st.2 < g x m + 1
      · have e : tkB x m (g x m) st = (60 * x + m, g x m + 1) := by rw [tkB, if_pos c]
        obtain ⟨S3, r1, r2, r3, y8', r4⟩ := ih (m + 1) (tkB x m (g x m) st) (sI S1 22 11 (nI (60 * x + m))) (some (.int (nI (g x m)))) (by omega) (by rw [e]; show g x m + 1 < 100001; omega) (by rw [e]; rfl) (hA.sI rfl)
        refine ⟨S3, r1, r2, r3, y8', fun Z kz => ?_⟩
        have r5 := r4 Z kz
        rw [e] at r5
        refine V_il7 d_X9_most_21 ?_
        refine V_ki d_X9_most_23 ?_
        refine V_al0 d_X9_most_25 ?_
        refine V_getIe d_X9_most_26 rfl rfl (by decide) (hn1) ?_
        refine V_isubN d_X9_most_29 (by omega) ?_
        refine U_ic_gtN d_X9_most_30 (by omega) (by omega) (fun q => absurd q (by omega)) (fun h30 => ?_)
        refine V_il6 d_X9_most_33 ?_
        refine V_il4 d_X9_most_35 ?_
        refine V_ic_eq d_X9_most_37 (fun q => absurd ((hlI x hx).mp q) hxl) (fun h37 => ?_)
        refine V_il1 d_X9_most_40 ?_
        refine V_al0 d_X9_most_41 ?_
        refine V_getR d_X9_most_42 rfl rfl (by decide) rfl ?_
        refine V_ki d_X9_most_45 ?_
        refine V_il6 d_X9_most_47 ?_
        first | with_reducible refine V_imulN d_X9_most_49 ?_ | refine V_imul d_X9_most_49 ?_
        refine V_il7 d_X9_most_50 ?_
        first | with_reducible refine V_iaddN d_X9_most_52 ?_ | refine V_iadd d_X9_most_52 ?_
        refine V_ialdE d_X9_most_53 rfl (by decide) rfl (show 60 * x + m < 360 by omega) l1 ?_
        first | with_reducible refine V_imulN d_X9_most_54 ?_ | refine V_imul d_X9_most_54 ?_
        refine V_il2 d_X9_most_55 ?_
        refine V_al0 d_X9_most_56 ?_
        refine V_getR d_X9_most_57 rfl rfl (by decide) rfl ?_
        refine V_ki d_X9_most_60 ?_
        refine V_il6 d_X9_most_62 ?_
        first | with_reducible refine V_imulN d_X9_most_64 ?_ | refine V_imul d_X9_most_64 ?_
        refine V_il7 d_X9_most_65 ?_
        first | with_reducible refine V_iaddN d_X9_most_67 ?_ | refine V_iadd d_X9_most_67 ?_
        refine V_ialdE d_X9_most_68 rfl (by decide) rfl (show 60 * x + m < 360 by omega) l2 ?_
        first | with_reducible refine V_imulN d_X9_most_69 ?_ | refine V_imul d_X9_most_69 ?_
        first | with_reducible refine V_iaddN d_X9_most_70 ?_ | refine V_iadd d_X9_most_70 ?_
        rw [hge]
        refine V_is8 d_X9_most_71 rfl ?_
        refine V_il8 d_X9_most_73 ?_
        refine V_il5 d_X9_most_75 ?_
        refine V_ic_le d_X9_most_77 (fun q => absurd ((mI_le (by omega) (by omega)).mp q) (by omega)) (fun h77 => ?_)
        refine V_il8 d_X9_most_80 ?_
        refine V_is5 d_X9_most_82 rfl ?_
        refine V_al0 d_X9_most_84 ?_
        refine V_ki d_X9_most_85 ?_
        refine V_il6 d_X9_most_87 ?_
        first | with_reducible refine V_imulN d_X9_most_89 ?_ | refine V_imul d_X9_most_89 ?_
        refine V_il7 d_X9_most_90 ?_
        first | with_reducible refine V_iaddN d_X9_most_92 ?_ | refine V_iadd d_X9_most_92 ?_
        refine V_putI d_X9_most_93 rfl rfl (by decide) rfl ?_
        refine V_icN7 d_X9_most_96 rfl ?_
        refine V_goto d_X9_most_99 ?_
        exact r5
      · have e : tkB x m (g x m) st = st := by rw [tkB, if_neg c]
        obtain ⟨S3, r1, r2, r3, y8', r4⟩ := ih (m + 1) (tkB x m (g x m) st) S1 (some (.int (nI (g x m)))) (by omega) (by rw [e]; exact hs) (by rw [e]; exact hb) hA
        refine ⟨S3, r1, r2, r3, y8', fun Z kz => ?_⟩
        have r5 := r4 Z kz
        rw [e] at r5
        refine V_il7 d_X9_most_21 ?_
        refine V_ki d_X9_most_23 ?_
        refine V_al0 d_X9_most_25 ?_
        refine V_getIe d_X9_most_26 rfl rfl (by decide) (hn1) ?_
        refine V_isubN d_X9_most_29 (by omega) ?_
        refine U_ic_gtN d_X9_most_30 (by omega) (by omega) (fun q => absurd q (by omega)) (fun h30 => ?_)
        refine V_il6 d_X9_most_33 ?_
        refine V_il4 d_X9_most_35 ?_
        refine V_ic_eq d_X9_most_37 (fun q => absurd ((hlI x hx).mp q) hxl) (fun h37 => ?_)
        refine V_il1 d_X9_most_40 ?_
        refine V_al0 d_X9_most_41 ?_
        refine V_getR d_X9_most_42 rfl rfl (by decide) rfl ?_
        refine V_ki d_X9_most_45 ?_
        refine V_il6 d_X9_most_47 ?_
        first | with_reducible refine V_imulN d_X9_most_49 ?_ | refine V_imul d_X9_most_49 ?_
        refine V_il7 d_X9_most_50 ?_
        first | with_reducible refine V_iaddN d_X9_most_52 ?_ | refine V_iadd d_X9_most_52 ?_
        refine V_ialdE d_X9_most_53 rfl (by decide) rfl (show 60 * x + m < 360 by omega) l1 ?_
        first | with_reducible refine V_imulN d_X9_most_54 ?_ | refine V_imul d_X9_most_54 ?_
        refine V_il2 d_X9_most_55 ?_
        refine V_al0 d_X9_most_56 ?_
        refine V_getR d_X9_most_57 rfl rfl (by decide) rfl ?_
        refine V_ki d_X9_most_60 ?_
        refine V_il6 d_X9_most_62 ?_
        first | with_reducible refine V_imulN d_X9_most_64 ?_ | refine V_imul d_X9_most_64 ?_
        refine V_il7 d_X9_most_65 ?_
        first | with_reducible refine V_iaddN d_X9_most_67 ?_ | refine V_iadd d_X9_most_67 ?_
        refine V_ialdE d_X9_most_68 rfl (by decide) rfl (show 60 * x + m < 360 by omega) l2 ?_
        first | with_reducible refine V_imulN d_X9_most_69 ?_ | refine V_imul d_X9_most_69 ?_
        first | with_reducible refine V_iaddN d_X9_most_70 ?_ | refine V_iadd d_X9_most_70 ?_
        rw [hge]
        refine V_is8 d_X9_most_71 rfl ?_
        refine V_il8 d_X9_most_73 ?_
        refine V_il5 d_X9_most_75 ?_
        refine V_ic_le d_X9_most_77 (fun h77 => ?_) (fun q => absurd ((mI_le (by omega) (by omega)).mpr (by omega)) q)
        refine V_icN7 d_X9_most_96 rfl ?_
        refine V_goto d_X9_most_99 ?_
        exact r5
  have outer : ∀ (d x : Nat) (st : Nat × Nat) (S1 : AS) (y7 y8 : Option Value), x + d = 6 → st.2 < 100001 → S1.1 22 11 = nI st.1 → Ag P22b S S1 →
      ∃ S2, S2.1 22 11 = nI (lp (fun x st => if x = lamp then st else bestI g (61 - nd - m0) m0 x st) d x st).1 ∧ Ag P22b S S2 ∧ U G M_X9_most (Ze G (some (.int (mI (lp (fun x st => if x = lamp then st else bestI g (61 - nd - m0) m0 x st) d x st).2))) S2) 11 [some (.ref (gB G + 22)), some (.int (nI pa)), some (.int (nI pb)), some (.int (nI m0)), some (.int lI), some (.int (mI st.2)), some (.int (nI x)), y7, y8] [] S1 := by
    intro d
    induction d with
    | zero =>
      intro x st S1 y7 y8 hx hs hb hA
      rw [Nat.add_zero] at hx
      subst hx
      refine ⟨S1, hb, hA, ?_⟩
      refine V_il6 d_X9_most_11 ?_
      refine V_ki d_X9_most_13 ?_
      refine U_ic_geN d_X9_most_15 (by omega) (by omega) (fun h15 => ?_) (fun q => absurd q (by omega))
      refine V_il5 d_X9_most_108 ?_
      exact V_iret d_X9_most_110 rfl (by first | rfl | simp_all) rfl
    | succ d ih =>
      intro x st S1 y7 y8 hx hs hb hA
      have hn1 : S1.1 22 8 = nI nd := (hA.2 22 8 rfl).trans hnd
      rw [lp]
      by_cases hxl : x = lamp
      · rw [if_pos hxl]
        obtain ⟨S2, r1, r2, r3⟩ := ih (x + 1) st S1 (some (.int (nI m0))) y8 (by omega) hs hb hA
        refine ⟨S2, r1, r2, ?_⟩
        refine V_il6 d_X9_most_11 ?_
        refine V_ki d_X9_most_13 ?_
        refine U_ic_geN d_X9_most_15 (by omega) (by omega) (fun q => absurd q (by omega)) (fun h15 => ?_)
        refine V_il3 d_X9_most_18 ?_
        refine V_is7 d_X9_most_19 rfl ?_
        refine V_il7 d_X9_most_21 ?_
        refine V_ki d_X9_most_23 ?_
        refine V_al0 d_X9_most_25 ?_
        refine V_getIe d_X9_most_26 rfl rfl (by decide) (hn1) ?_
        refine V_isubN d_X9_most_29 (by omega) ?_
        refine U_ic_gtN d_X9_most_30 (by omega) (by omega) (fun q => absurd q (by omega)) (fun h30 => ?_)
        refine V_il6 d_X9_most_33 ?_
        refine V_il4 d_X9_most_35 ?_
        refine V_ic_eq d_X9_most_37 (fun h37 => ?_) (fun q => absurd ((hlI x (by omega)).mpr hxl) q)
        refine V_icN6 d_X9_most_102 rfl ?_
        refine V_goto d_X9_most_105 ?_
        exact r3
      · rw [if_neg hxl]
        obtain ⟨S2, q1, q2, q3, y8', q4⟩ := inner x (by omega) hxl (61 - nd - m0) m0 st S1 y8 (by omega) hs hb hA
        obtain ⟨S3, r1, r2, r3⟩ := ih (x + 1) _ S2 (some (.int (nI (61 - nd)))) y8' (by omega) q2 q1 q3
        refine ⟨S3, r1, r2, ?_⟩
        refine V_il6 d_X9_most_11 ?_
        refine V_ki d_X9_most_13 ?_
        refine U_ic_geN d_X9_most_15 (by omega) (by omega) (fun q => absurd q (by omega)) (fun h15 => ?_)
        refine V_il3 d_X9_most_18 ?_
        refine V_is7 d_X9_most_19 rfl ?_
        refine q4 _ ?_
        refine V_icN6 d_X9_most_102 rfl ?_
        refine V_goto d_X9_most_105 ?_
        exact r3
  obtain ⟨S2, r1, r2, r3⟩ := outer 6 0 (m0, 0) (sI S 22 11 (nI m0)) none none rfl (show 0 < 100001 by decide) rfl (Ag.rf.sI rfl)
  refine ⟨S2, ?_, r1, r2⟩
  refine Rn_of hp_X9_most [some (.ref (gB G + 22)), some (.int (nI pa)), some (.int (nI pb)), some (.int (nI m0)), some (.int lI), none, none, none, none] rfl (Nat.le_of_ble_eq_true rfl) (Nat.le_of_ble_eq_true rfl) ?_
  refine V_ki d_X9_most_0 ?_
  refine V_is5 d_X9_most_1 rfl ?_
  refine V_al0 d_X9_most_3 ?_
  refine V_il3 d_X9_most_4 ?_
  refine V_putI d_X9_most_5 rfl rfl (by decide) rfl ?_
  refine V_ki d_X9_most_8 ?_
  refine V_is6 d_X9_most_9 rfl ?_
  exact r3
