/-! the reference: likely, dice, seeds -/
theorem fr_mul {c a b j : Nat} (hc : 0 < c) : fr (c * a) (c * b) j = fr a b j := by
  unfold fr
  rw [Nat.gcd_mul_left]
  split
  · exact Nat.mul_div_mul_left _ _ hc
  · exact Nat.mul_div_mul_left _ _ hc
theorem fr_l {A B : Nat} (hB : 0 < B) : A = Nat.gcd A B * fr A B 0 ∧ B = Nat.gcd A B * fr A B 1 := by
  constructor
  · exact (Nat.mul_div_cancel' (Nat.gcd_dvd_left A B)).symm
  · exact (Nat.mul_div_cancel' (Nat.gcd_dvd_right A B)).symm
theorem fr_step {A B a b j : Nat} (hB : 0 < B) : fr (fr A B 0 * a) (fr A B 1 * b) j = fr (A * a) (B * b) j := by
  obtain ⟨e1, e2⟩ := fr_l (A := A) hB
  have h := fr_mul (c := Nat.gcd A B) (a := fr A B 0 * a) (b := fr A B 1 * b) (j := j) (Nat.gcd_pos_of_pos_right A hB)
  rw [← Nat.mul_assoc, ← Nat.mul_assoc, ← e1, ← e2] at h
  exact h.symm
theorem fr_step2 {A B a b j : Nat} (hb : 0 < b) : fr (A * fr a b 0) (B * fr a b 1) j = fr (A * a) (B * b) j := by
  rw [Nat.mul_comm A, Nat.mul_comm B, fr_step hb, Nat.mul_comm a, Nat.mul_comm b]
def lkT (f : Nat → Nat → Nat) : List Nat → Nat → Nat × Nat → Nat × Nat
  | [], _, q => q
  | s :: t, p, q => lkT f t s (q.1 * fr (ab f p s) (be f p) 0, q.2 * fr (ab f p s) (be f p) 1)
theorem lk_eq (f : Nat → Nat → Nat) : ∀ (w : List Nat) (p : Nat) (q T : Nat × Nat), 0 < T.2 → q = (fr T.1 T.2 0, fr T.1 T.2 1) → lkS f w p q = (fr (lkT f w p T).1 (lkT f w p T).2 0, fr (lkT f w p T).1 (lkT f w p T).2 1)
  | [], _, q, T, _, h => h
  | s :: t, p, q, T, hT, h => by
    rw [lkS, lkT]
    refine lk_eq f t s _ _ (Nat.mul_pos hT (fr_pos1 (be_pos f p))) ?_
    subst h
    show (fr (fr T.1 T.2 0 * ab f p s) (fr T.1 T.2 1 * be f p) 0, fr (fr T.1 T.2 0 * ab f p s) (fr T.1 T.2 1 * be f p) 1) = (fr (T.1 * fr (ab f p s) (be f p) 0) (T.2 * fr (ab f p s) (be f p) 1) 0, fr (T.1 * fr (ab f p s) (be f p) 0) (T.2 * fr (ab f p s) (be f p) 1) 1)
    rw [fr_step hT, fr_step hT, fr_step2 (be_pos f p), fr_step2 (be_pos f p)]
set_option maxRecDepth 100000 in
theorem c_X9_likelyOf {G : Gm} {S : AS} {N : List (List Nat)} {n j : Nat} (hv : MNv S N) (hN : WFN N) (hn : n < N.length) (hj : j < 2) : Rm G M_X9_likelyOf [.ref (gB G + 22), .int (nI n), .int (nI j)] S (some (.long (lN (if j = 0 then (lkS (stN N n) (ni N n) 6 (1, 1)).1 else (lkS (stN N n) (ni N n) 6 (1, 1)).2)))) S := by
  have h8 := hN.1
  have h6 := ni_le hN hn
  have hw := (ni_wf hN hn).2
  have hf : ∀ a b, stN N n a b ≤ 48 := fun a b => stN_48 hN a b n (Nat.le_of_lt hn)
  have hnx := fun (p b j : Nat) (hp : p < 7) (hb : b < 6) (hj : j < 1000) => c_X9_nextOf (G := G) (k := n) hv hN (Nat.le_of_lt hn) hp hb hj
  rw [lk_eq (stN N n) (ni N n) 6 (1, 1) (1, 1) (by decide) (by decide)]
  generalize stN N n = f at hf hnx ⊢
  have efr : (if j = 0 then fr (lkT f (ni N n) 6 (1, 1)).1 (lkT f (ni N n) 6 (1, 1)).2 0 else fr (lkT f (ni N n) 6 (1, 1)).1 (lkT f (ni N n) 6 (1, 1)).2 1) = fr (lkT f (ni N n) 6 (1, 1)).1 (lkT f (ni N n) 6 (1, 1)).2 j := by
    by_cases h : j = 0
    · rw [if_pos h, h]
    · rw [if_neg h, show j = 1 by omega]
  rw [efr]
  have loop : ∀ (d i p : Nat) (q : Nat × Nat) (y8 : Option Value), i + d = (ni N n).length → p < 7 → (0 < i → ∃ h : i - 1 < (ni N n).length, (ni N n)[i - 1] = p) → (i = 0 → p = 6) → q.1 ≤ 300 ^ i → q.2 ≤ 300 ^ i → 0 < q.2 →
      U G M_X9_likelyOf (Ze G (some (.long (lN (fr (lkT f ((ni N n).drop i) p q).1 (lkT f ((ni N n).drop i) p q).2 j)))) S) 8 [some (.ref (gB G + 22)), some (.int (nI n)), some (.int (nI j)), some (.long (lN q.1)), none, some (.long (lN q.2)), none, some (.int (nI i)), y8] [] S := by
    intro d
    induction d with
    | zero =>
      intro i p q y8 hi hp hpi hp0 hq1 hq2 hq3
      rw [Nat.add_zero] at hi
      have m3 : (300 : Nat) ^ i ≤ 300 ^ 6 := Nat.pow_le_pow_right (by decide) (by omega)
      have m4 : (300 : Nat) ^ 6 < 2 ^ 62 := by decide
      have hlo := c_X9_lowest (G := G) (S := S) (a := q.1) (b := q.2) (j := j) (by omega) (by omega) hq3 (by omega)
      subst hi
      rw [List.drop_eq_nil_of_le (Nat.le_refl _)]
      refine V_il7 d_X9_likelyOf_8 ?_
      refine V_al0 d_X9_likelyOf_10 ?_
      refine V_getR d_X9_likelyOf_11 rfl rfl (by decide) rfl ?_
      refine V_il1 d_X9_likelyOf_14 ?_
      refine V_ialdE d_X9_likelyOf_15 rfl (by decide) rfl (show n < 9 by omega) (hv.2.1 n hn) ?_
      refine U_ic_geN d_X9_likelyOf_16 (by omega) (by omega) (fun h16 => ?_) (fun q => absurd q (by omega))
      refine V_ll3 d_X9_likelyOf_98 ?_
      refine V_ll5 d_X9_likelyOf_99 ?_
      refine V_il2 d_X9_likelyOf_101 ?_
      refine U_cs3 d_X9_likelyOf_102 (hlo) rfl ?_
      exact V_lret d_X9_likelyOf_105 rfl (by first | rfl | simp_all) rfl
    | succ d ih =>
      intro i p q y8 hi hp hpi hp0 hq1 hq2 hq3
      have hl : i < (ni N n).length := by omega
      have hs : (ni N n)[i] < 6 := hw.2 _ (List.getElem_mem hl)
      have hrow := hv.2.2 n hn i hl
      rw [sh_in hl] at hrow
      have b1 := ab_le hf p (ni N n)[i]
      have b2 := be_le hf p
      have b3 := be_pos f p
      have f0 := fr_le0 (ab f p (ni N n)[i]) (be f p)
      have f1 := fr_le1 (ab f p (ni N n)[i]) (be f p)
      have fp := fr_pos1 (a := ab f p (ni N n)[i]) b3
      have m1 : q.1 * fr (ab f p (ni N n)[i]) (be f p) 0 ≤ 300 ^ (i + 1) := by rw [Nat.pow_succ]; exact Nat.mul_le_mul hq1 (by omega)
      have m2 : q.2 * fr (ab f p (ni N n)[i]) (be f p) 1 ≤ 300 ^ (i + 1) := by rw [Nat.pow_succ]; exact Nat.mul_le_mul hq2 (by omega)
      have r := ih (i + 1) (ni N n)[i] (q.1 * fr (ab f p (ni N n)[i]) (be f p) 0, q.2 * fr (ab f p (ni N n)[i]) (be f p) 1) (some (.int (pv p))) (by omega) (by omega) (fun _ => ⟨by omega, rfl⟩) (fun w => by omega) m1 m2 (Nat.mul_pos hq3 fp)
      rw [drop_cons hl]
      have body : U G M_X9_likelyOf (Ze G (some (.long (lN (fr (lkT f ((ni N n).drop (i + 1)) (ni N n)[i] (q.1 * fr (ab f p (ni N n)[i]) (be f p) 0, q.2 * fr (ab f p (ni N n)[i]) (be f p) 1)).1 (lkT f ((ni N n).drop (i + 1)) (ni N n)[i] (q.1 * fr (ab f p (ni N n)[i]) (be f p) 0, q.2 * fr (ab f p (ni N n)[i]) (be f p) 1)).2 j)))) S) 42 [some (.ref (gB G + 22)), some (.int (nI n)), some (.int (nI j)), some (.long (lN q.1)), none, some (.long (lN q.2)), none, some (.int (nI i)), y8] [.int (pv p)] S := by
        refine V_is8 d_X9_likelyOf_42 rfl ?_
        refine V_ll3 d_X9_likelyOf_44 ?_
        refine V_al0 d_X9_likelyOf_45 ?_
        refine V_il1 d_X9_likelyOf_46 ?_
        refine V_il8 d_X9_likelyOf_47 ?_
        refine V_al0 d_X9_likelyOf_49 ?_
        refine V_getR d_X9_likelyOf_50 rfl rfl (by decide) rfl ?_
        refine V_ki d_X9_likelyOf_53 ?_
        refine V_il1 d_X9_likelyOf_55 ?_
        first | with_reducible refine V_imulN d_X9_likelyOf_56 ?_ | refine V_imul d_X9_likelyOf_56 ?_
        refine V_il7 d_X9_likelyOf_57 ?_
        first | with_reducible refine V_iaddN d_X9_likelyOf_59 ?_ | refine V_iadd d_X9_likelyOf_59 ?_
        refine V_ialdE d_X9_likelyOf_60 rfl (by decide) rfl (show 6 * n + i < 54 by omega) hrow ?_
        refine V_ki d_X9_likelyOf_61 ?_
        refine U_cv4 d_X9_likelyOf_62 (hnx p _ 0 hp hs (by omega)) rfl rfl rfl ?_
        first | with_reducible refine V_lmulN d_X9_likelyOf_65 ?_ | refine V_lmul d_X9_likelyOf_65 ?_
        refine V_ls3 d_X9_likelyOf_66 rfl ?_
        refine V_ll5 d_X9_likelyOf_67 ?_
        refine V_al0 d_X9_likelyOf_69 ?_
        refine V_il1 d_X9_likelyOf_70 ?_
        refine V_il8 d_X9_likelyOf_71 ?_
        refine V_al0 d_X9_likelyOf_73 ?_
        refine V_getR d_X9_likelyOf_74 rfl rfl (by decide) rfl ?_
        refine V_ki d_X9_likelyOf_77 ?_
        refine V_il1 d_X9_likelyOf_79 ?_
        first | with_reducible refine V_imulN d_X9_likelyOf_80 ?_ | refine V_imul d_X9_likelyOf_80 ?_
        refine V_il7 d_X9_likelyOf_81 ?_
        first | with_reducible refine V_iaddN d_X9_likelyOf_83 ?_ | refine V_iadd d_X9_likelyOf_83 ?_
        refine V_ialdE d_X9_likelyOf_84 rfl (by decide) rfl (show 6 * n + i < 54 by omega) hrow ?_
        refine V_ki d_X9_likelyOf_85 ?_
        refine U_cv4 d_X9_likelyOf_86 (hnx p _ 1 hp hs (by omega)) rfl rfl rfl ?_
        first | with_reducible refine V_lmulN d_X9_likelyOf_89 ?_ | refine V_lmul d_X9_likelyOf_89 ?_
        refine V_ls5 d_X9_likelyOf_90 rfl ?_
        refine V_icN7 d_X9_likelyOf_92 rfl ?_
        refine V_goto d_X9_likelyOf_95 ?_
        exact r
      rcases Nat.eq_zero_or_pos i with g | g
      · have e6 := hp0 g
        subst e6
        refine V_il7 d_X9_likelyOf_8 ?_
        refine V_al0 d_X9_likelyOf_10 ?_
        refine V_getR d_X9_likelyOf_11 rfl rfl (by decide) rfl ?_
        refine V_il1 d_X9_likelyOf_14 ?_
        refine V_ialdE d_X9_likelyOf_15 rfl (by decide) rfl (show n < 9 by omega) (hv.2.1 n hn) ?_
        refine U_ic_geN d_X9_likelyOf_16 (by omega) (by omega) (fun q => absurd q (by omega)) (fun h16 => ?_)
        refine V_il7 d_X9_likelyOf_19 ?_
        refine U_if_neN d_X9_likelyOf_21 (by omega) (fun q => absurd g q) (fun h21 => ?_)
        refine V_ki d_X9_likelyOf_24 ?_
        refine V_goto d_X9_likelyOf_25 ?_
        exact body
      · obtain ⟨k1, k2⟩ := hpi g
        have hrow2 := hv.2.2 n hn (i - 1) k1
        rw [sh_pv hw k1, k2] at hrow2
        refine V_il7 d_X9_likelyOf_8 ?_
        refine V_al0 d_X9_likelyOf_10 ?_
        refine V_getR d_X9_likelyOf_11 rfl rfl (by decide) rfl ?_
        refine V_il1 d_X9_likelyOf_14 ?_
        refine V_ialdE d_X9_likelyOf_15 rfl (by decide) rfl (show n < 9 by omega) (hv.2.1 n hn) ?_
        refine U_ic_geN d_X9_likelyOf_16 (by omega) (by omega) (fun q => absurd q (by omega)) (fun h16 => ?_)
        refine V_il7 d_X9_likelyOf_19 ?_
        refine U_if_neN d_X9_likelyOf_21 (by omega) (fun h21 => ?_) (fun q => absurd q (by omega))
        refine V_al0 d_X9_likelyOf_28 ?_
        refine V_getR d_X9_likelyOf_29 rfl rfl (by decide) rfl ?_
        refine V_ki d_X9_likelyOf_32 ?_
        refine V_il1 d_X9_likelyOf_34 ?_
        first | with_reducible refine V_imulN d_X9_likelyOf_35 ?_ | refine V_imul d_X9_likelyOf_35 ?_
        refine V_il7 d_X9_likelyOf_36 ?_
        first | with_reducible refine V_iaddN d_X9_likelyOf_38 ?_ | refine V_iadd d_X9_likelyOf_38 ?_
        refine V_ki d_X9_likelyOf_39 ?_
        refine V_isubN d_X9_likelyOf_40 (by omega) ?_
        refine V_ialdE d_X9_likelyOf_41 rfl (by decide) (show _ = nI (6 * n + (i - 1)) by rw [Nat.add_sub_assoc g]) (show 6 * n + (i - 1) < 54 by omega) hrow2 ?_
        exact body
  refine Rn_of hp_X9_likelyOf [some (.ref (gB G + 22)), some (.int (nI n)), some (.int (nI j)), none, none, none, none, none, none] rfl (Nat.le_of_ble_eq_true rfl) (Nat.le_of_ble_eq_true rfl) ?_
  refine V_lconst (v := lN 1) d_X9_likelyOf_0 rfl ?_
  refine V_ls3 d_X9_likelyOf_1 rfl ?_
  refine V_lconst (v := lN 1) d_X9_likelyOf_2 rfl ?_
  refine V_ls5 d_X9_likelyOf_3 rfl ?_
  refine V_ki d_X9_likelyOf_5 ?_
  refine V_is7 d_X9_likelyOf_6 rfl ?_
  exact loop _ 0 6 (1, 1) none (Nat.zero_add _) (by omega) (fun z => absurd z (Nat.lt_irrefl 0)) (fun _ => rfl) (Nat.le_refl _) (Nat.le_refl _) (by decide)
set_option maxRecDepth 100000 in
theorem c_X9_areAlike {G : Gm} {S : AS} {N : List (List Nat)} {a b : Nat} (hv : MNv S N) (hN : WFN N) (ha : a < N.length) (hb : b < N.length) : Rm G M_X9_areAlike [.ref (gB G + 22), .int (nI a), .int (nI b)] S (some (.int (bI (decide (ni N a = ni N b))))) S := by
  have h8 := hN.1
  have a6 := ni_le hN ha
  have b6 := ni_le hN hb
  have wa := (ni_wf hN ha).2
  have wb := (ni_wf hN hb).2
  have loopF : ni N a ≠ ni N b → ∀ (d i : Nat), i + d = (ni N a).length → U G M_X9_areAlike (Ze G (some (.int (bI (decide (ni N a = ni N b))))) S) 24 [some (.ref (gB G + 22)), some (.int (nI a)), some (.int (nI b)), some (.int (nI 0)), some (.int (nI i))] [] S := by
    intro hne d
    rw [decide_eq_false hne]
    induction d with
    | zero =>
      intro i hi
      refine V_il4 d_X9_areAlike_24 ?_
      refine V_al0 d_X9_areAlike_26 ?_
      refine V_getR d_X9_areAlike_27 rfl rfl (by decide) rfl ?_
      refine V_il1 d_X9_areAlike_30 ?_
      refine V_ialdE d_X9_areAlike_31 rfl (by decide) rfl (show a < 9 by omega) (hv.2.1 a ha) ?_
      refine U_ic_geN d_X9_areAlike_32 (by omega) (by omega) (fun h32 => ?_) (fun q => absurd q (by omega))
      refine V_il3 d_X9_areAlike_78 ?_
      exact V_zret d_X9_areAlike_79 rfl rfl (by first | rfl | simp_all) rfl
    | succ d ih =>
      intro i hi
      refine V_il4 d_X9_areAlike_24 ?_
      refine V_al0 d_X9_areAlike_26 ?_
      refine V_getR d_X9_areAlike_27 rfl rfl (by decide) rfl ?_
      refine V_il1 d_X9_areAlike_30 ?_
      refine V_ialdE d_X9_areAlike_31 rfl (by decide) rfl (show a < 9 by omega) (hv.2.1 a ha) ?_
      refine U_ic_geN d_X9_areAlike_32 (by omega) (by omega) (fun q => absurd q (by omega)) (fun h32 => ?_)
      refine V_il3 d_X9_areAlike_35 ?_
      refine U_if_eqN d_X9_areAlike_36 (by omega) (fun h36 => ?_) (fun q => absurd rfl q)
      refine V_ki d_X9_areAlike_70 ?_
      refine V_is3 d_X9_areAlike_71 rfl ?_
      refine V_icN4 d_X9_areAlike_72 rfl ?_
      refine V_goto d_X9_areAlike_75 ?_
      exact ih (i + 1) (by omega)
  have loopT : (ni N a).length = (ni N b).length → ∀ (d i : Nat), i + d = (ni N a).length → (∀ j, j < i → sh (ni N a) j = sh (ni N b) j) → U G M_X9_areAlike (Ze G (some (.int (bI (decide (ni N a = ni N b))))) S) 24 [some (.ref (gB G + 22)), some (.int (nI a)), some (.int (nI b)), some (.int (nI 1)), some (.int (nI i))] [] S := by
    intro hlen d
    induction d with
    | zero =>
      intro i hi he
      have e : ni N a = ni N b := sh_ext wa wb (fun j hj => by
        rcases Nat.lt_or_ge j (ni N a).length with g | g
        · exact he j (by omega)
        · rw [sh_out g, sh_out (by omega)])
      rw [decide_eq_true e]
      refine V_il4 d_X9_areAlike_24 ?_
      refine V_al0 d_X9_areAlike_26 ?_
      refine V_getR d_X9_areAlike_27 rfl rfl (by decide) rfl ?_
      refine V_il1 d_X9_areAlike_30 ?_
      refine V_ialdE d_X9_areAlike_31 rfl (by decide) rfl (show a < 9 by omega) (hv.2.1 a ha) ?_
      refine U_ic_geN d_X9_areAlike_32 (by omega) (by omega) (fun h32 => ?_) (fun q => absurd q (by omega))
      refine V_il3 d_X9_areAlike_78 ?_
      exact V_zret d_X9_areAlike_79 rfl rfl (by first | rfl | simp_all) rfl
    | succ d ih =>
      intro i hi he
      have hl : i < (ni N a).length := by omega
      have hl2 : i < (ni N b).length := by omega
      have ra := hv.2.2 a ha i hl
      have rb := hv.2.2 b hb i hl2
      by_cases c : sh (ni N a) i = sh (ni N b) i
      · refine V_il4 d_X9_areAlike_24 ?_
        refine V_al0 d_X9_areAlike_26 ?_
        refine V_getR d_X9_areAlike_27 rfl rfl (by decide) rfl ?_
        refine V_il1 d_X9_areAlike_30 ?_
        refine V_ialdE d_X9_areAlike_31 rfl (by decide) rfl (show a < 9 by omega) (hv.2.1 a ha) ?_
        refine U_ic_geN d_X9_areAlike_32 (by omega) (by omega) (fun q => absurd q (by omega)) (fun h32 => ?_)
        refine V_il3 d_X9_areAlike_35 ?_
        refine U_if_eqN d_X9_areAlike_36 (by omega) (fun q => absurd q (by omega)) (fun h36 => ?_)
        refine V_al0 d_X9_areAlike_39 ?_
        refine V_getR d_X9_areAlike_40 rfl rfl (by decide) rfl ?_
        refine V_ki d_X9_areAlike_43 ?_
        refine V_il1 d_X9_areAlike_45 ?_
        first | with_reducible refine V_imulN d_X9_areAlike_46 ?_ | refine V_imul d_X9_areAlike_46 ?_
        refine V_il4 d_X9_areAlike_47 ?_
        first | with_reducible refine V_iaddN d_X9_areAlike_49 ?_ | refine V_iadd d_X9_areAlike_49 ?_
        refine V_ialdE d_X9_areAlike_50 rfl (by decide) rfl (show 6 * a + i < 54 by omega) ra ?_
        refine V_al0 d_X9_areAlike_51 ?_
        refine V_getR d_X9_areAlike_52 rfl rfl (by decide) rfl ?_
        refine V_ki d_X9_areAlike_55 ?_
        refine V_il2 d_X9_areAlike_57 ?_
        first | with_reducible refine V_imulN d_X9_areAlike_58 ?_ | refine V_imul d_X9_areAlike_58 ?_
        refine V_il4 d_X9_areAlike_59 ?_
        first | with_reducible refine V_iaddN d_X9_areAlike_61 ?_ | refine V_iadd d_X9_areAlike_61 ?_
        refine V_ialdE d_X9_areAlike_62 rfl (by decide) rfl (show 6 * b + i < 54 by omega) rb ?_
        refine V_ic_ne d_X9_areAlike_63 (fun q => absurd c q) (fun h63 => ?_)
        refine V_ki d_X9_areAlike_66 ?_
        refine V_goto d_X9_areAlike_67 ?_
        refine V_is3 d_X9_areAlike_71 rfl ?_
        refine V_icN4 d_X9_areAlike_72 rfl ?_
        refine V_goto d_X9_areAlike_75 ?_
        exact ih (i + 1) (by omega) (lt_s he c)
      · have hne : ni N a ≠ ni N b := fun e => c (by rw [e])
        refine V_il4 d_X9_areAlike_24 ?_
        refine V_al0 d_X9_areAlike_26 ?_
        refine V_getR d_X9_areAlike_27 rfl rfl (by decide) rfl ?_
        refine V_il1 d_X9_areAlike_30 ?_
        refine V_ialdE d_X9_areAlike_31 rfl (by decide) rfl (show a < 9 by omega) (hv.2.1 a ha) ?_
        refine U_ic_geN d_X9_areAlike_32 (by omega) (by omega) (fun q => absurd q (by omega)) (fun h32 => ?_)
        refine V_il3 d_X9_areAlike_35 ?_
        refine U_if_eqN d_X9_areAlike_36 (by omega) (fun q => absurd q (by omega)) (fun h36 => ?_)
        refine V_al0 d_X9_areAlike_39 ?_
        refine V_getR d_X9_areAlike_40 rfl rfl (by decide) rfl ?_
        refine V_ki d_X9_areAlike_43 ?_
        refine V_il1 d_X9_areAlike_45 ?_
        first | with_reducible refine V_imulN d_X9_areAlike_46 ?_ | refine V_imul d_X9_areAlike_46 ?_
        refine V_il4 d_X9_areAlike_47 ?_
        first | with_reducible refine V_iaddN d_X9_areAlike_49 ?_ | refine V_iadd d_X9_areAlike_49 ?_
        refine V_ialdE d_X9_areAlike_50 rfl (by decide) rfl (show 6 * a + i < 54 by omega) ra ?_
        refine V_al0 d_X9_areAlike_51 ?_
        refine V_getR d_X9_areAlike_52 rfl rfl (by decide) rfl ?_
        refine V_ki d_X9_areAlike_55 ?_
        refine V_il2 d_X9_areAlike_57 ?_
        first | with_reducible refine V_imulN d_X9_areAlike_58 ?_ | refine V_imul d_X9_areAlike_58 ?_
        refine V_il4 d_X9_areAlike_59 ?_
        first | with_reducible refine V_iaddN d_X9_areAlike_61 ?_ | refine V_iadd d_X9_areAlike_61 ?_
        refine V_ialdE d_X9_areAlike_62 rfl (by decide) rfl (show 6 * b + i < 54 by omega) rb ?_
        refine V_ic_ne d_X9_areAlike_63 (fun h63 => ?_) (fun q => (c q).elim)
        refine V_ki d_X9_areAlike_70 ?_
        refine V_is3 d_X9_areAlike_71 rfl ?_
        refine V_icN4 d_X9_areAlike_72 rfl ?_
        refine V_goto d_X9_areAlike_75 ?_
        exact loopF hne d (i + 1) (by omega)
  refine Rn_of hp_X9_areAlike [some (.ref (gB G + 22)), some (.int (nI a)), some (.int (nI b)), none, none] rfl (Nat.le_of_ble_eq_true rfl) (Nat.le_of_ble_eq_true rfl) ?_
  by_cases hlen : (ni N a).length = (ni N b).length
  · refine V_al0 d_X9_areAlike_0 ?_
    refine V_getR d_X9_areAlike_1 rfl rfl (by decide) rfl ?_
    refine V_il1 d_X9_areAlike_4 ?_
    refine V_ialdE d_X9_areAlike_5 rfl (by decide) rfl (show a < 9 by omega) (hv.2.1 a ha) ?_
    refine V_al0 d_X9_areAlike_6 ?_
    refine V_getR d_X9_areAlike_7 rfl rfl (by decide) rfl ?_
    refine V_il2 d_X9_areAlike_10 ?_
    refine V_ialdE d_X9_areAlike_11 rfl (by decide) rfl (show b < 9 by omega) (hv.2.1 b hb) ?_
    refine U_ic_neN d_X9_areAlike_12 (by omega) (by omega) (fun q => absurd hlen q) (fun h12 => ?_)
    refine V_ki d_X9_areAlike_15 ?_
    refine V_goto d_X9_areAlike_16 ?_
    refine V_is3 d_X9_areAlike_20 rfl ?_
    refine V_ki d_X9_areAlike_21 ?_
    refine V_is4 d_X9_areAlike_22 rfl ?_
    exact loopT hlen _ 0 (Nat.zero_add _) (fun j hj => absurd hj (Nat.not_lt_zero _))
  · have hne : ni N a ≠ ni N b := fun e => hlen (by rw [e])
    refine V_al0 d_X9_areAlike_0 ?_
    refine V_getR d_X9_areAlike_1 rfl rfl (by decide) rfl ?_
    refine V_il1 d_X9_areAlike_4 ?_
    refine V_ialdE d_X9_areAlike_5 rfl (by decide) rfl (show a < 9 by omega) (hv.2.1 a ha) ?_
    refine V_al0 d_X9_areAlike_6 ?_
    refine V_getR d_X9_areAlike_7 rfl rfl (by decide) rfl ?_
    refine V_il2 d_X9_areAlike_10 ?_
    refine V_ialdE d_X9_areAlike_11 rfl (by decide) rfl (show b < 9 by omega) (hv.2.1 b hb) ?_
    refine U_ic_neN d_X9_areAlike_12 (by omega) (by omega) (fun h12 => ?_) (fun q => absurd q hlen)
    refine V_ki d_X9_areAlike_19 ?_
    refine V_is3 d_X9_areAlike_20 rfl ?_
    refine V_ki d_X9_areAlike_21 ?_
    refine V_is4 d_X9_areAlike_22 rfl ?_
    exact loopF hne _ 0 (Nat.zero_add _)
/-! the chance -/
def fac : Nat → Nat
  | 0 => 1
  | k + 1 => fac k * (k + 1)
def asc (m : Nat) : Nat → Nat
  | 0 => 1
  | k + 1 => asc m k * (m + (k + 1))
def dsc (t : Nat) : Nat → Nat
  | 0 => 1
  | k + 1 => dsc t k * (t - k)
theorem asc_dsc : ∀ m, m < 9 → ∀ k, k < 9 → asc m k = dsc (m + k) k ∧ fac k * (dsc (m + k) k / fac k) = dsc (m + k) k ∧ 0 < fac k := by decide +kernel
theorem chA_eq (p ot : Nat) : ∀ so, chA p so ot = (fr (p ^ so * asc ot so) (16 ^ so * fac so) 0, fr (p ^ so * asc ot so) (16 ^ so * fac so) 1) := by
  intro so
  induction so with
  | zero => unfold chA; simp [lp, fr, asc, fac]
  | succ k ih =>
    have hpos : 0 < 16 ^ k * fac k := by
      refine Nat.mul_pos (Nat.pow_pos (by decide)) ?_
      clear ih
      induction k with
      | zero => decide
      | succ k ih => exact Nat.mul_pos ih (Nat.succ_pos _)
    unfold chA at ih ⊢
    rw [lp_succ, ih]
    show (fr (fr (p ^ k * asc ot k) (16 ^ k * fac k) 0 * (p * (ot + (1 + k)))) (fr (p ^ k * asc ot k) (16 ^ k * fac k) 1 * (16 * (1 + k))) 0, fr (fr (p ^ k * asc ot k) (16 ^ k * fac k) 0 * (p * (ot + (1 + k)))) (fr (p ^ k * asc ot k) (16 ^ k * fac k) 1 * (16 * (1 + k))) 1) = _
    rw [fr_step hpos, fr_step hpos]
    have e1 : p ^ k * asc ot k * (p * (ot + (1 + k))) = p ^ (k + 1) * asc ot (k + 1) := by
      rw [asc, Nat.pow_succ, Nat.add_comm 1 k]
      ac_rfl
    have e2 : 16 ^ k * fac k * (16 * (1 + k)) = 16 ^ (k + 1) * fac (k + 1) := by
      rw [fac, Nat.pow_succ, Nat.add_comm 1 k]
      ac_rfl
    rw [e1, e2]
theorem fac_pos : ∀ k, 0 < fac k
  | 0 => by decide
  | k + 1 => Nat.mul_pos (fac_pos k) (Nat.succ_pos _)
theorem chF_eq (p so : Nat) : ∀ ot0 ot A B, 0 < B → lp (fun (_ : Nat) q => mlP q (16 - p) 16) ot ot0 (fr A B 0, fr A B 1) = (fr (A * (16 - p) ^ ot) (B * 16 ^ ot) 0, fr (A * (16 - p) ^ ot) (B * 16 ^ ot) 1) := by
  intro ot0 ot
  induction ot generalizing ot0 with
  | zero => intro A B hB; simp [lp]
  | succ k ih =>
    intro A B hB
    rw [lp]
    have e : mlP (fr A B 0, fr A B 1) (16 - p) 16 = (fr (A * (16 - p)) (B * 16) 0, fr (A * (16 - p)) (B * 16) 1) := by
      show (fr (fr A B 0 * (16 - p)) (fr A B 1 * 16) 0, fr (fr A B 0 * (16 - p)) (fr A B 1 * 16) 1) = _
      rw [fr_step hB, fr_step hB]
    rw [e, ih (ot0 + 1) (A * (16 - p)) (B * 16) (Nat.mul_pos hB (by decide)), Nat.mul_assoc, Nat.mul_assoc, ← Nat.pow_succ', ← Nat.pow_succ']
theorem chance_eq {p so ot : Nat} (hs : so < 9) (ho : ot < 9) (j : Nat) : fr (p ^ so * (16 - p) ^ ot * dsc (ot + so) so / fac so) (16 ^ (so + ot)) j = if j = 0 then (chF p so ot).1 else (chF p so ot).2 := by
  obtain ⟨a1, a2, a3⟩ := asc_dsc ot ho so hs
  unfold chF
  rw [chA_eq, chF_eq p so 0 ot _ _ (Nat.mul_pos (Nat.pow_pos (by decide)) (fac_pos so)), a1]
  have e1 : p ^ so * (16 - p) ^ ot * dsc (ot + so) so / fac so = p ^ so * (16 - p) ^ ot * (dsc (ot + so) so / fac so) := by
    rw [← a2, show p ^ so * (16 - p) ^ ot * (fac so * (dsc (ot + so) so / fac so)) = fac so * (p ^ so * (16 - p) ^ ot * (dsc (ot + so) so / fac so)) by ac_rfl, Nat.mul_div_cancel_left _ a3, Nat.mul_div_cancel_left _ a3]
  have e2 : ∀ j, fr (p ^ so * dsc (ot + so) so * (16 - p) ^ ot) (16 ^ so * fac so * 16 ^ ot) j = fr (p ^ so * (16 - p) ^ ot * (dsc (ot + so) so / fac so)) (16 ^ (so + ot)) j := by
    intro j
    have h := fr_mul (c := fac so) (a := p ^ so * (16 - p) ^ ot * (dsc (ot + so) so / fac so)) (b := 16 ^ (so + ot)) (j := j) a3
    rw [← h, Nat.pow_add]
    have e3 : fac so * (p ^ so * (16 - p) ^ ot * (dsc (ot + so) so / fac so)) = p ^ so * dsc (ot + so) so * (16 - p) ^ ot := by
      rw [show fac so * (p ^ so * (16 - p) ^ ot * (dsc (ot + so) so / fac so)) = p ^ so * (fac so * (dsc (ot + so) so / fac so)) * (16 - p) ^ ot by ac_rfl, a2]
    have e4 : fac so * (16 ^ so * 16 ^ ot) = 16 ^ so * fac so * 16 ^ ot := by ac_rfl
    rw [e3, e4]
  rw [e1]
  by_cases h : j = 0
  · rw [if_pos h, h]; exact (e2 0).symm
  · rw [if_neg h]
    have : fr (p ^ so * (16 - p) ^ ot * (dsc (ot + so) so / fac so)) (16 ^ (so + ot)) j = fr (p ^ so * (16 - p) ^ ot * (dsc (ot + so) so / fac so)) (16 ^ (so + ot)) 1 := by
      unfold fr; rw [if_neg h, if_neg (by decide)]
    rw [this]
    exact (e2 1).symm
theorem dsc_le {t : Nat} (ht : t ≤ 8) : ∀ k, dsc t k ≤ 8 ^ k
  | 0 => Nat.le_refl _
  | k + 1 => by
    rw [dsc, Nat.pow_succ]
    exact Nat.mul_le_mul (dsc_le ht k) (by omega)
theorem alN_sym (N : List (List Nat)) (n k : Nat) : alN N n k = sumN (fun k => if ni N k = ni N n then 1 else 0) k := sumN_congr (fun i _ => by simp [eq_comm])
set_option maxRecDepth 100000 in
theorem c_X9_diceOf {G : Gm} {S : AS} {N : List (List Nat)} {n p : Nat} {wI : Int32} {r : Int64} (hv : MNv S N) (hN : WFN N) (hn : n < N.length) (hp : p ≤ 16) (hr : (wI = -1 ∧ r = lN (alN N n N.length)) ∨ ∃ j, j < 2 ∧ wI = nI j ∧ r = lN (if j = 0 then (chF p (alN N n N.length) (N.length - alN N n N.length)).1 else (chF p (alN N n N.length) (N.length - alN N n N.length)).2)) : Rm G M_X9_diceOf [.ref (gB G + 22), .int (nI n), .int (nI p), .int wI] S (some (.long r)) S := by
  have h8 := hN.1
  have hal := alN_le N n N.length
  have p8 : (16 : Nat) ^ 8 = 4294967296 := by decide
  have q8 : (8 : Nat) ^ 8 = 16777216 := by decide
  -- the third loop: dividing
  have third : ∀ (d k T y : Nat), T < 2 ^ 60 → k + d = alN N n N.length + 1 → 2 ≤ k → T / fac (alN N n N.length) = T / fac (alN N n N.length) → 0 < N.length → (∀ (y9 : Value), U G M_X9_diceOf (Ze G (some (.long r)) S) 132 [some (.ref (gB G + 22)), some (.int (nI n)), some (.int (nI p)), some (.int wI), some (.int (nI (alN N n N.length))), some (.long (lN (T / fac (alN N n N.length)))), none, some (.long (lN (16 ^ N.length))), none, some y9, some (.int (nI y))] [] S) →
      U G M_X9_diceOf (Ze G (some (.long r)) S) 111 [some (.ref (gB G + 22)), some (.int (nI n)), some (.int (nI p)), some (.int wI), some (.int (nI (alN N n N.length))), some (.long (lN (T / fac (k - 1)))), none, some (.long (lN (16 ^ N.length))), none, some (.int (nI k)), some (.int (nI y))] [] S := by
    intro d
    induction d with
    | zero =>
      intro k T y hT hk hk2 _ h0 kz
      rw [Nat.add_zero] at hk
      have e : k - 1 = alN N n N.length := by omega
      rw [e]
      refine V_il9 d_X9_diceOf_111 ?_
      refine V_il4 d_X9_diceOf_113 ?_
      refine U_ic_gtN d_X9_diceOf_115 (by omega) (by omega) (fun h115 => ?_) (fun q => absurd q (by omega))
      exact kz _
    | succ d ih =>
      intro k T y hT hk hk2 hx h0 kz
      have r1 := ih (k + 1) T y hT (by omega) (by omega) hx h0 kz
      have e : T / fac (k - 1) / k = T / fac (k + 1 - 1) := by
        rw [Nat.div_div_eq_div_mul, show k + 1 - 1 = (k - 1) + 1 by omega, fac, show k - 1 + 1 = k by omega]
      have hle := Nat.div_le_self T (fac (k - 1))
      refine V_il9 d_X9_diceOf_111 ?_
      refine V_il4 d_X9_diceOf_113 ?_
      refine U_ic_gtN d_X9_diceOf_115 (by omega) (by omega) (fun q => absurd q (by omega)) (fun h115 => ?_)
      refine V_ll5 d_X9_diceOf_118 ?_
      refine V_il9 d_X9_diceOf_120 ?_
      refine V_i2lN d_X9_diceOf_122 (by omega) ?_
      refine V_ldivN d_X9_diceOf_123 (by omega) (by omega) (by omega) ?_
      rw [e]
      refine V_ls5 d_X9_diceOf_124 rfl ?_
      refine V_icN9 d_X9_diceOf_126 rfl ?_
      refine V_goto d_X9_diceOf_129 ?_
      exact r1
  have second : ∀ (d k T y : Nat), T ≤ 16 ^ 8 → k + d = alN N n N.length → (∀ y9 : Value, U G M_X9_diceOf (Ze G (some (.long r)) S) 108 [some (.ref (gB G + 22)), some (.int (nI n)), some (.int (nI p)), some (.int wI), some (.int (nI (alN N n N.length))), some (.long (lN (T * dsc N.length (alN N n N.length)))), none, some (.long (lN (16 ^ N.length))), none, some y9, some (.int (nI y))] [] S) →
      U G M_X9_diceOf (Ze G (some (.long r)) S) 82 [some (.ref (gB G + 22)), some (.int (nI n)), some (.int (nI p)), some (.int wI), some (.int (nI (alN N n N.length))), some (.long (lN (T * dsc N.length k))), none, some (.long (lN (16 ^ N.length))), none, some (.int (nI k)), some (.int (nI y))] [] S := by
    intro d
    induction d with
    | zero =>
      intro k T y hT hk kz
      rw [Nat.add_zero] at hk
      rw [hk]
      refine V_il9 d_X9_diceOf_82 ?_
      refine V_il4 d_X9_diceOf_84 ?_
      refine U_ic_geN d_X9_diceOf_86 (by omega) (by omega) (fun h86 => ?_) (fun q => absurd q (by omega))
      exact kz _
    | succ d ih =>
      intro k T y hT hk kz
      have r1 := ih (k + 1) T y hT (by omega) kz
      rw [dsc, ← Nat.mul_assoc] at r1
      refine V_il9 d_X9_diceOf_82 ?_
      refine V_il4 d_X9_diceOf_84 ?_
      refine U_ic_geN d_X9_diceOf_86 (by omega) (by omega) (fun q => absurd q (by omega)) (fun h86 => ?_)
      refine V_ll5 d_X9_diceOf_89 ?_
      refine V_al0 d_X9_diceOf_91 ?_
      refine V_getIe d_X9_diceOf_92 rfl rfl (by decide) (hv.1) ?_
      refine V_il9 d_X9_diceOf_95 ?_
      refine V_isubN d_X9_diceOf_97 (by omega) ?_
      refine V_i2lN d_X9_diceOf_98 (by omega) ?_
      first | with_reducible refine V_lmulN d_X9_diceOf_99 ?_ | refine V_lmul d_X9_diceOf_99 ?_
      refine V_ls5 d_X9_diceOf_100 rfl ?_
      refine V_icN9 d_X9_diceOf_102 rfl ?_
      refine V_goto d_X9_diceOf_105 ?_
      exact r1
  have fin : ∀ (y : Nat) (y9 : Value), U G M_X9_diceOf (Ze G (some (.long r)) S) 132 [some (.ref (gB G + 22)), some (.int (nI n)), some (.int (nI p)), some (.int wI), some (.int (nI (alN N n N.length))), some (.long (lN (p ^ alN N n N.length * (16 - p) ^ (N.length - alN N n N.length) * dsc N.length (alN N n N.length) / fac (alN N n N.length)))), none, some (.long (lN (16 ^ N.length))), none, some y9, some (.int (nI y))] [] S := by
    intro y y9
    rcases hr with ⟨e1, e2⟩ | ⟨j, hj, e1, e2⟩
    · subst e1; subst e2
      refine V_il3 d_X9_diceOf_132 ?_
      refine V_ki d_X9_diceOf_133 ?_
      refine V_ic_ne d_X9_diceOf_134 (fun q => absurd rfl q) (fun h134 => ?_)
      refine V_il4 d_X9_diceOf_137 ?_
      refine V_i2lN d_X9_diceOf_139 (by omega) ?_
      refine V_goto d_X9_diceOf_140 ?_
      exact V_lret d_X9_diceOf_151 rfl (by first | rfl | simp_all) rfl
    · subst e1; subst e2
      have hb1 : (16 : Nat) ^ N.length ≤ 16 ^ 8 := Nat.pow_le_pow_right (by decide) h8
      have hlo := c_X9_lowest (G := G) (S := S) (a := p ^ alN N n N.length * (16 - p) ^ (N.length - alN N n N.length) * dsc N.length (alN N n N.length) / fac (alN N n N.length)) (b := 16 ^ N.length) (j := j) (by
          have t1 : p ^ alN N n N.length ≤ 16 ^ alN N n N.length := Nat.pow_le_pow_left hp _
          have t2 : (16 - p) ^ (N.length - alN N n N.length) ≤ 16 ^ (N.length - alN N n N.length) := Nat.pow_le_pow_left (by omega) _
          have t3 := Nat.mul_le_mul t1 t2
          rw [← Nat.pow_add, show alN N n N.length + (N.length - alN N n N.length) = N.length by omega] at t3
          have t4 := dsc_le h8 (alN N n N.length)
          have t5 : (8 : Nat) ^ alN N n N.length ≤ 8 ^ 8 := Nat.pow_le_pow_right (by decide) (by omega)
          have t6 := Nat.mul_le_mul (Nat.le_trans t3 hb1) (Nat.le_trans t4 t5)
          have t7 := Nat.div_le_self (p ^ alN N n N.length * (16 - p) ^ (N.length - alN N n N.length) * dsc N.length (alN N n N.length)) (fac (alN N n N.length))
          have t8 : (16 : Nat) ^ 8 * 8 ^ 8 < 2 ^ 62 := by decide
          omega) (by omega) (Nat.pow_pos (by decide)) (by omega)
      have ce := chance_eq (p := p) (so := alN N n N.length) (ot := N.length - alN N n N.length) (by omega) (by omega) j
      rw [show N.length - alN N n N.length + alN N n N.length = N.length by omega, show alN N n N.length + (N.length - alN N n N.length) = N.length by omega] at ce
      rw [ce] at hlo
      refine V_il3 d_X9_diceOf_132 ?_
      refine V_ki d_X9_diceOf_133 ?_
      refine V_ic_ne d_X9_diceOf_134 (fun h134 => ?_) (fun q => (nI_m1 (by omega) q).elim)
      refine V_ll5 d_X9_diceOf_143 ?_
      refine V_ll7 d_X9_diceOf_145 ?_
      refine V_il3 d_X9_diceOf_147 ?_
      refine U_cs3 d_X9_diceOf_148 (hlo) rfl ?_
      exact V_lret d_X9_diceOf_151 rfl (by first | rfl | simp_all) rfl
  have hT : p ^ alN N n N.length * (16 - p) ^ (N.length - alN N n N.length) ≤ 16 ^ 8 := by
    have t1 : p ^ alN N n N.length ≤ 16 ^ alN N n N.length := Nat.pow_le_pow_left hp _
    have t2 : (16 - p) ^ (N.length - alN N n N.length) ≤ 16 ^ (N.length - alN N n N.length) := Nat.pow_le_pow_left (by omega) _
    have t3 := Nat.mul_le_mul t1 t2
    rw [← Nat.pow_add, show alN N n N.length + (N.length - alN N n N.length) = N.length by omega] at t3
    exact Nat.le_trans t3 (Nat.pow_le_pow_right (by decide) h8)
  have tail : ∀ y : Nat, U G M_X9_diceOf (Ze G (some (.long r)) S) 79 [some (.ref (gB G + 22)), some (.int (nI n)), some (.int (nI p)), some (.int wI), some (.int (nI (alN N n N.length))), some (.long (lN (p ^ alN N n N.length * (16 - p) ^ (N.length - alN N n N.length)))), none, some (.long (lN (16 ^ N.length))), none, some (.int (nI N.length)), some (.int (nI y))] [] S := by
    intro y
    have t4 := dsc_le h8 (alN N n N.length)
    have t5 : (8 : Nat) ^ alN N n N.length ≤ 8 ^ 8 := Nat.pow_le_pow_right (by decide) (by omega)
    have t6 := Nat.mul_le_mul hT (Nat.le_trans t4 t5)
    have t8 : (16 : Nat) ^ 8 * 8 ^ 8 < 2 ^ 60 := by decide
    have s2 := second (alN N n N.length) 0 (p ^ alN N n N.length * (16 - p) ^ (N.length - alN N n N.length)) y hT (Nat.zero_add _) (fun y9 => by
      refine V_ki d_X9_diceOf_108 ?_
      refine V_is9 d_X9_diceOf_109 rfl ?_
      skip
      rcases Nat.lt_or_ge (alN N n N.length) 2 with g | g
      · have e : fac (alN N n N.length) = 1 := by
          rcases Nat.eq_zero_or_pos (alN N n N.length) with g0 | g0
          · rw [g0]; rfl
          · rw [show alN N n N.length = 1 by omega]; rfl
        have f0 := fin y (.int (nI 2))
        rw [e, Nat.div_one] at f0
        refine V_il9 d_X9_diceOf_111 ?_
        refine V_il4 d_X9_diceOf_113 ?_
        refine U_ic_gtN d_X9_diceOf_115 (by omega) (by omega) (fun h115 => ?_) (fun q => absurd q (by omega))
        exact f0
      · have t3 := third (alN N n N.length - 1) 2 (p ^ alN N n N.length * (16 - p) ^ (N.length - alN N n N.length) * dsc N.length (alN N n N.length)) y (by omega) (by omega) (Nat.le_refl _) rfl (by omega) (fun y9 => fin y y9)
        rw [show fac (2 - 1) = 1 by rfl, Nat.div_one] at t3
        exact t3)
    rw [show dsc N.length 0 = 1 by rfl, Nat.mul_one] at s2
    refine V_ki d_X9_diceOf_79 ?_
    refine V_is9 d_X9_diceOf_80 rfl ?_
    exact s2
  have first : ∀ (d k : Nat) (y10 : Option Value), k + d = N.length → (k = 0 ∨ ∃ y : Nat, y10 = some (.int (nI y))) → U G M_X9_diceOf (Ze G (some (.long r)) S) 12 [some (.ref (gB G + 22)), some (.int (nI n)), some (.int (nI p)), some (.int wI), some (.int (nI (alN N n k))), some (.long (lN (p ^ alN N n k * (16 - p) ^ (k - alN N n k)))), none, some (.long (lN (16 ^ k))), none, some (.int (nI k)), y10] [] S := by
    intro d
    induction d with
    | zero =>
      intro k y10 hk hy
      rw [Nat.add_zero] at hk
      subst hk
      rcases hy with hy | ⟨y, rfl⟩
      · omega
      · refine V_il9 d_X9_diceOf_12 ?_
        refine V_al0 d_X9_diceOf_14 ?_
        refine V_getIe d_X9_diceOf_15 rfl rfl (by decide) (hv.1) ?_
        refine U_ic_geN d_X9_diceOf_18 (by omega) (by omega) (fun h18 => ?_) (fun q => absurd q (by omega))
        exact tail y
    | succ d ih =>
      intro k y10 hk hy
      have hak := alN_le N n k
      have hA := c_X9_areAlike (G := G) (a := k) (b := n) hv hN (by omega) hn
      have e9 : alN N n (k + 1) = alN N n k + (if ni N n = ni N k then 1 else 0) := rfl
      by_cases c : ni N k = ni N n
      · rw [decide_eq_true c] at hA
        have r1 := ih (k + 1) (some (.int (nI 1))) (by omega) (Or.inr ⟨1, rfl⟩)
        rw [e9, if_pos c.symm, Nat.pow_succ, Nat.pow_succ, show k + 1 - (alN N n k + 1) = k - alN N n k by omega, show p ^ alN N n k * p * (16 - p) ^ (k - alN N n k) = p ^ alN N n k * (16 - p) ^ (k - alN N n k) * p by ac_rfl] at r1
        refine V_il9 d_X9_diceOf_12 ?_
        refine V_al0 d_X9_diceOf_14 ?_
        refine V_getIe d_X9_diceOf_15 rfl rfl (by decide) (hv.1) ?_
        refine U_ic_geN d_X9_diceOf_18 (by omega) (by omega) (fun q => absurd q (by omega)) (fun h18 => ?_)
        refine V_al0 d_X9_diceOf_21 ?_
        refine V_il9 d_X9_diceOf_22 ?_
        refine V_il1 d_X9_diceOf_24 ?_
        refine U_cv2 d_X9_diceOf_25 (hA) rfl rfl rfl ?_
        rw [show bI true = nI 1 from rfl]
        refine V_is10 d_X9_diceOf_28 rfl ?_
        refine V_il4 d_X9_diceOf_30 ?_
        refine V_il10 d_X9_diceOf_32 ?_
        refine U_if_eqN d_X9_diceOf_34 (by omega) (fun q => absurd q (by omega)) (fun h34 => ?_)
        refine V_ki d_X9_diceOf_37 ?_
        refine V_goto d_X9_diceOf_38 ?_
        first | with_reducible refine V_iaddN d_X9_diceOf_42 ?_ | refine V_iadd d_X9_diceOf_42 ?_
        refine V_is4 d_X9_diceOf_43 rfl ?_
        refine V_ll5 d_X9_diceOf_45 ?_
        refine V_il10 d_X9_diceOf_47 ?_
        refine U_if_eqN d_X9_diceOf_49 (by omega) (fun q => absurd q (by omega)) (fun h49 => ?_)
        refine V_il2 d_X9_diceOf_52 ?_
        refine V_i2lN d_X9_diceOf_53 (by omega) ?_
        refine V_goto d_X9_diceOf_54 ?_
        first | with_reducible refine V_lmulN d_X9_diceOf_62 ?_ | refine V_lmul d_X9_diceOf_62 ?_
        refine V_ls5 d_X9_diceOf_63 rfl ?_
        refine V_ll7 d_X9_diceOf_65 ?_
        refine V_ldc2 d_X9_diceOf_67 ?_
        first | with_reducible refine V_lmulN d_X9_diceOf_70 ?_ | refine V_lmul d_X9_diceOf_70 ?_
        refine V_ls7 d_X9_diceOf_71 rfl ?_
        refine V_icN9 d_X9_diceOf_73 rfl ?_
        refine V_goto d_X9_diceOf_76 ?_
        exact r1
      · rw [decide_eq_false c] at hA
        have r1 := ih (k + 1) (some (.int (nI 0))) (by omega) (Or.inr ⟨0, rfl⟩)
        rw [e9, if_neg (fun q => c q.symm), Nat.pow_succ] at r1
        simp only [Nat.add_zero] at r1
        rw [show k + 1 - alN N n k = (k - alN N n k) + 1 by omega, Nat.pow_succ, ← Nat.mul_assoc] at r1
        refine V_il9 d_X9_diceOf_12 ?_
        refine V_al0 d_X9_diceOf_14 ?_
        refine V_getIe d_X9_diceOf_15 rfl rfl (by decide) (hv.1) ?_
        refine U_ic_geN d_X9_diceOf_18 (by omega) (by omega) (fun q => absurd q (by omega)) (fun h18 => ?_)
        refine V_al0 d_X9_diceOf_21 ?_
        refine V_il9 d_X9_diceOf_22 ?_
        refine V_il1 d_X9_diceOf_24 ?_
        refine U_cv2 d_X9_diceOf_25 (hA) rfl rfl rfl ?_
        rw [show bI false = nI 0 from rfl]
        refine V_is10 d_X9_diceOf_28 rfl ?_
        refine V_il4 d_X9_diceOf_30 ?_
        refine V_il10 d_X9_diceOf_32 ?_
        refine U_if_eqN d_X9_diceOf_34 (by omega) (fun h34 => ?_) (fun q => absurd rfl q)
        refine V_ki d_X9_diceOf_41 ?_
        first | with_reducible refine V_iaddN d_X9_diceOf_42 ?_ | refine V_iadd d_X9_diceOf_42 ?_
        refine V_is4 d_X9_diceOf_43 rfl ?_
        refine V_ll5 d_X9_diceOf_45 ?_
        refine V_il10 d_X9_diceOf_47 ?_
        refine U_if_eqN d_X9_diceOf_49 (by omega) (fun h49 => ?_) (fun q => absurd rfl q)
        refine V_ki d_X9_diceOf_57 ?_
        refine V_il2 d_X9_diceOf_59 ?_
        refine V_isubN d_X9_diceOf_60 (hp) ?_
        refine V_i2lN d_X9_diceOf_61 (by omega) ?_
        first | with_reducible refine V_lmulN d_X9_diceOf_62 ?_ | refine V_lmul d_X9_diceOf_62 ?_
        refine V_ls5 d_X9_diceOf_63 rfl ?_
        refine V_ll7 d_X9_diceOf_65 ?_
        refine V_ldc2 d_X9_diceOf_67 ?_
        first | with_reducible refine V_lmulN d_X9_diceOf_70 ?_ | refine V_lmul d_X9_diceOf_70 ?_
        refine V_ls7 d_X9_diceOf_71 rfl ?_
        refine V_icN9 d_X9_diceOf_73 rfl ?_
        refine V_goto d_X9_diceOf_76 ?_
        rw [Nat.add_zero]
        exact r1
  refine Rn_of hp_X9_diceOf [some (.ref (gB G + 22)), some (.int (nI n)), some (.int (nI p)), some (.int wI), none, none, none, none, none, none, none] rfl (Nat.le_of_ble_eq_true rfl) (Nat.le_of_ble_eq_true rfl) ?_
  refine V_ki d_X9_diceOf_0 ?_
  refine V_is4 d_X9_diceOf_1 rfl ?_
  refine V_lconst (v := lN 1) d_X9_diceOf_3 rfl ?_
  refine V_ls5 d_X9_diceOf_4 rfl ?_
  refine V_lconst (v := lN 1) d_X9_diceOf_6 rfl ?_
  refine V_ls7 d_X9_diceOf_7 rfl ?_
  refine V_ki d_X9_diceOf_9 ?_
  refine V_is9 d_X9_diceOf_10 rfl ?_
  exact first N.length 0 none (Nat.zero_add _) (Or.inl rfl)
