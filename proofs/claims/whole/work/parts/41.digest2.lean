/-! digests, whole -/
set_option maxRecDepth 100000 in
theorem g8_joinLots {G : Gm} {b : Nat → Nat} {sz : Nat} {ft : Int32} {N : List (List Nat)} {w wy : Nat → Nat} {lk nd : Nat} {h0 : Int64} {vb vs vn : Nat → Int32} {vl : Nat → Int64} {va : Int32} (hx : TXT b sz ft N) (hB : HB w wy lk nd) (hvb : ∀ j, EX G M_X8_breaks [.ref (gB G + 0), .int (nI 0), .int (nI 1), .int (nI 6), .int (nI j)] (some (.int (vb j))) b sz ft N w wy lk nd) (hvs : ∀ j, EX G M_X8_seen [.ref (gB G + 0), .int (nI 0), .int (nI 1), .int (nI 6), .int (nI 0), .int (nI j)] (some (.int (vs j))) b sz ft N w wy lk nd) (hvl : ∀ j, EX G M_X8_least [.ref (gB G + 0), .int (nI 0), .int (nI 1), .int (nI j)] (some (.long (vl j))) b sz ft N w wy lk nd) (hva : EX G M_X8_lamp [.ref (gB G + 0), .int (nI 0), .int (nI 1), .int (nI 6), .int (nI 2)] (some (.int va)) b sz ft N w wy lk nd) (hvn : ∀ j, EX G M_X8_learn [.ref (gB G + 0), .int (nI 0), .int (nI 1), .int (nI 20), .int (nI j)] (some (.int (vn j))) b sz ft N w wy lk nd) : EX G M_X8_joinLots [.ref (gB G + 0), .long h0] (some (.long (dgL vb vs vl va vn h0))) b sz ft N w wy lk nd := by
  intro S h
  obtain ⟨⟨hsz, hbs⟩, hcn, hmt, hhc, hhm, hsh, hfd⟩ := id h
  have hN := PR_wf hx.2.2
  have hN8 := hN.1
  obtain ⟨l1, l2⟩ := hB.2.2.1
  obtain ⟨n1, n2⟩ := hB.2.2.2
  have loop1 : ∀ (d i : Nat) (hq : Int64) (S : AS), i + d = 3 → ST S b sz ft N w wy lk nd → ∃ S1, Ag PQ S S1 ∧ ∀ Z, U G M_X8_joinLots Z 33 [some (.ref (gB G + 0)), some (.long h0), none, some (.long (dgI vb d i hq)), none, some (.int (nI 3))] [] S1 → U G M_X8_joinLots Z 5 [some (.ref (gB G + 0)), some (.long h0), none, some (.long (hq)), none, some (.int (nI i))] [] S := by
    intro d
    induction d with
    | zero =>
      intro i hq S hi hs
      rw [Nat.add_zero] at hi
      subst hi
      refine ⟨S, Ag.rf, fun Z kz => ?_⟩
      refine V_il5 d_X8_joinLots_5 ?_
      refine V_ki d_X8_joinLots_7 ?_
      refine U_ic_gtN d_X8_joinLots_8 (by omega) (by omega) (fun h8 => ?_) (fun q => absurd q (by omega))
      exact kz
    | succ d ih =>
      intro i hq S hi hs
      obtain ⟨S1, r1, a1⟩ := hvb i S hs
      obtain ⟨S2, a2, kk⟩ := ih (i + 1) (jn hq (vb i).toInt64) S1 (by omega) (hs.ag a1)
      refine ⟨S2, a1.tr a2, fun Z kz => ?_⟩
      refine V_il5 d_X8_joinLots_5 ?_
      refine V_ki d_X8_joinLots_7 ?_
      refine U_ic_gtN d_X8_joinLots_8 (by omega) (by omega) (fun q => absurd q (by omega)) (fun h8 => ?_)
      refine V_ll3 d_X8_joinLots_11 ?_
      refine V_al0 d_X8_joinLots_12 ?_
      refine V_ki d_X8_joinLots_13 ?_
      refine V_ki d_X8_joinLots_14 ?_
      refine V_ki d_X8_joinLots_15 ?_
      refine V_il5 d_X8_joinLots_17 ?_
      refine U_cv4 d_X8_joinLots_19 (r1) rfl rfl rfl ?_
      refine V_i2l d_X8_joinLots_22 rfl ?_
      refine U_cs2 d_X8_joinLots_23 (c_X8_join) rfl ?_
      refine V_ls3 d_X8_joinLots_26 rfl ?_
      refine V_icN5 d_X8_joinLots_27 rfl ?_
      refine V_goto d_X8_joinLots_30 ?_
      exact kk Z kz
  have loop2 : ∀ (d i : Nat) (hq : Int64) (S : AS), i + d = 3 → ST S b sz ft N w wy lk nd → ∃ S1, Ag PQ S S1 ∧ ∀ Z, U G M_X8_joinLots Z 65 [some (.ref (gB G + 0)), some (.long h0), none, some (.long (dgI vs d i hq)), none, some (.int (nI 3))] [] S1 → U G M_X8_joinLots Z 36 [some (.ref (gB G + 0)), some (.long h0), none, some (.long (hq)), none, some (.int (nI i))] [] S := by
    intro d
    induction d with
    | zero =>
      intro i hq S hi hs
      rw [Nat.add_zero] at hi
      subst hi
      refine ⟨S, Ag.rf, fun Z kz => ?_⟩
      refine V_il5 d_X8_joinLots_36 ?_
      refine V_ki d_X8_joinLots_38 ?_
      refine U_ic_gtN d_X8_joinLots_39 (by omega) (by omega) (fun h39 => ?_) (fun q => absurd q (by omega))
      exact kz
    | succ d ih =>
      intro i hq S hi hs
      obtain ⟨S1, r1, a1⟩ := hvs i S hs
      obtain ⟨S2, a2, kk⟩ := ih (i + 1) (jn hq (vs i).toInt64) S1 (by omega) (hs.ag a1)
      refine ⟨S2, a1.tr a2, fun Z kz => ?_⟩
      refine V_il5 d_X8_joinLots_36 ?_
      refine V_ki d_X8_joinLots_38 ?_
      refine U_ic_gtN d_X8_joinLots_39 (by omega) (by omega) (fun q => absurd q (by omega)) (fun h39 => ?_)
      refine V_ll3 d_X8_joinLots_42 ?_
      refine V_al0 d_X8_joinLots_43 ?_
      refine V_ki d_X8_joinLots_44 ?_
      refine V_ki d_X8_joinLots_45 ?_
      refine V_ki d_X8_joinLots_46 ?_
      refine V_ki d_X8_joinLots_48 ?_
      refine V_il5 d_X8_joinLots_49 ?_
      refine U_cv5 d_X8_joinLots_51 (r1) rfl rfl rfl ?_
      refine V_i2l d_X8_joinLots_54 rfl ?_
      refine U_cs2 d_X8_joinLots_55 (c_X8_join) rfl ?_
      refine V_ls3 d_X8_joinLots_58 rfl ?_
      refine V_icN5 d_X8_joinLots_59 rfl ?_
      refine V_goto d_X8_joinLots_62 ?_
      exact kk Z kz
  have loop3 : ∀ (d i : Nat) (hq : Int64) (S : AS), i + d = 4 → ST S b sz ft N w wy lk nd → ∃ S1, Ag PQ S S1 ∧ ∀ Z, U G M_X8_joinLots Z 93 [some (.ref (gB G + 0)), some (.long h0), none, some (.long (dgJ vl d i hq)), none, some (.int (nI 4))] [] S1 → U G M_X8_joinLots Z 68 [some (.ref (gB G + 0)), some (.long h0), none, some (.long (hq)), none, some (.int (nI i))] [] S := by
    intro d
    induction d with
    | zero =>
      intro i hq S hi hs
      rw [Nat.add_zero] at hi
      subst hi
      refine ⟨S, Ag.rf, fun Z kz => ?_⟩
      refine V_il5 d_X8_joinLots_68 ?_
      refine V_ki d_X8_joinLots_70 ?_
      refine U_ic_gtN d_X8_joinLots_71 (by omega) (by omega) (fun h71 => ?_) (fun q => absurd q (by omega))
      exact kz
    | succ d ih =>
      intro i hq S hi hs
      obtain ⟨S1, r1, a1⟩ := hvl i S hs
      obtain ⟨S2, a2, kk⟩ := ih (i + 1) (jn hq (vl i)) S1 (by omega) (hs.ag a1)
      refine ⟨S2, a1.tr a2, fun Z kz => ?_⟩
      refine V_il5 d_X8_joinLots_68 ?_
      refine V_ki d_X8_joinLots_70 ?_
      refine U_ic_gtN d_X8_joinLots_71 (by omega) (by omega) (fun q => absurd q (by omega)) (fun h71 => ?_)
      refine V_ll3 d_X8_joinLots_74 ?_
      refine V_al0 d_X8_joinLots_75 ?_
      refine V_ki d_X8_joinLots_76 ?_
      refine V_ki d_X8_joinLots_77 ?_
      refine V_il5 d_X8_joinLots_78 ?_
      refine U_cv3 d_X8_joinLots_80 (r1) rfl rfl rfl ?_
      refine U_cs2 d_X8_joinLots_83 (c_X8_join) rfl ?_
      refine V_ls3 d_X8_joinLots_86 rfl ?_
      refine V_icN5 d_X8_joinLots_87 rfl ?_
      refine V_goto d_X8_joinLots_90 ?_
      exact kk Z kz
  obtain ⟨S1, a1, k1⟩ := loop1 3 0 h0 S rfl h
  have s1 := h.ag a1
  obtain ⟨S2, a2, k2⟩ := loop2 3 0 (dgI vb 3 0 h0) S1 rfl s1
  have s2 := s1.ag a2
  obtain ⟨S3, a3, k3⟩ := loop3 4 0 (dgI vs 3 0 (dgI vb 3 0 h0)) S2 rfl s2
  have s3 := s2.ag a3
  obtain ⟨S4, r4, a4⟩ := hva S3 s3
  have s4 := s3.ag a4
  obtain ⟨S5, r5, a5⟩ := hvn 0 S4 s4
  have s5 := s4.ag a5
  obtain ⟨S6, r6, a6⟩ := hvn 1 S5 s5
  refine ⟨S6, ?_, ((((a1.tr a2).tr a3).tr a4).tr a5).tr a6⟩
  refine Rn_of hp_X8_joinLots [some (.ref (gB G + 0)), some (.long h0), none, none, none, none] rfl (Nat.le_of_ble_eq_true rfl) (Nat.le_of_ble_eq_true rfl) ?_
  refine V_ll1 d_X8_joinLots_0 ?_
  refine V_ls3 d_X8_joinLots_1 rfl ?_
  refine V_ki d_X8_joinLots_2 ?_
  refine V_is5 d_X8_joinLots_3 rfl ?_
  refine k1 _ ?_
  refine V_ki d_X8_joinLots_33 ?_
  refine V_is5 d_X8_joinLots_34 rfl ?_
  refine k2 _ ?_
  refine V_ki d_X8_joinLots_65 ?_
  refine V_is5 d_X8_joinLots_66 rfl ?_
  refine k3 _ ?_
  refine V_ll3 d_X8_joinLots_93 ?_
  refine V_al0 d_X8_joinLots_94 ?_
  refine V_ki d_X8_joinLots_95 ?_
  refine V_ki d_X8_joinLots_96 ?_
  refine V_ki d_X8_joinLots_97 ?_
  refine V_ki d_X8_joinLots_99 ?_
  refine U_cv4 d_X8_joinLots_100 (r4) rfl rfl rfl ?_
  refine V_i2l d_X8_joinLots_103 rfl ?_
  refine U_cs2 d_X8_joinLots_104 (c_X8_join) rfl ?_
  refine V_ls3 d_X8_joinLots_107 rfl ?_
  refine V_ll3 d_X8_joinLots_108 ?_
  refine V_al0 d_X8_joinLots_109 ?_
  refine V_ki d_X8_joinLots_110 ?_
  refine V_ki d_X8_joinLots_111 ?_
  refine V_ki d_X8_joinLots_112 ?_
  refine V_ki d_X8_joinLots_114 ?_
  refine U_cv4 d_X8_joinLots_115 (r5) rfl rfl rfl ?_
  refine V_i2l d_X8_joinLots_118 rfl ?_
  refine U_cs2 d_X8_joinLots_119 (c_X8_join) rfl ?_
  refine V_al0 d_X8_joinLots_122 ?_
  refine V_ki d_X8_joinLots_123 ?_
  refine V_ki d_X8_joinLots_124 ?_
  refine V_ki d_X8_joinLots_125 ?_
  refine V_ki d_X8_joinLots_127 ?_
  refine U_cv4 d_X8_joinLots_128 (r6) rfl rfl rfl ?_
  refine V_i2l d_X8_joinLots_131 rfl ?_
  refine U_cs2 d_X8_joinLots_132 (c_X8_join) rfl ?_
  exact V_lret d_X8_joinLots_135 rfl (by first | rfl | simp_all) rfl
set_option maxRecDepth 100000 in
theorem g8_digest {G : Gm} {b : Nat → Nat} {sz : Nat} {ft : Int32} {N : List (List Nat)} {w wy : Nat → Nat} {lk nd : Nat} {vb vs vn : Nat → Int32} {vl : Nat → Int64} {va : Int32} (hx : TXT b sz ft N) (hB : HB w wy lk nd) (hvb : ∀ j, EX G M_X8_breaks [.ref (gB G + 0), .int (nI 0), .int (nI 1), .int (nI 6), .int (nI j)] (some (.int (vb j))) b sz ft N w wy lk nd) (hvs : ∀ j, EX G M_X8_seen [.ref (gB G + 0), .int (nI 0), .int (nI 1), .int (nI 6), .int (nI 0), .int (nI j)] (some (.int (vs j))) b sz ft N w wy lk nd) (hvl : ∀ j, EX G M_X8_least [.ref (gB G + 0), .int (nI 0), .int (nI 1), .int (nI j)] (some (.long (vl j))) b sz ft N w wy lk nd) (hva : EX G M_X8_lamp [.ref (gB G + 0), .int (nI 0), .int (nI 1), .int (nI 6), .int (nI 2)] (some (.int va)) b sz ft N w wy lk nd) (hvn : ∀ j, EX G M_X8_learn [.ref (gB G + 0), .int (nI 0), .int (nI 1), .int (nI 20), .int (nI j)] (some (.int (vn j))) b sz ft N w wy lk nd) : EX G M_X8_digest [.ref (gB G + 0)] (some (.long (dgA N w wy lk nd sz ft vb vs vl va vn))) b sz ft N w wy lk nd := by
  intro S h
  obtain ⟨⟨hsz, hbs⟩, hcn, hmt, hhc, hhm, hsh, hfd⟩ := id h
  have hN := PR_wf hx.2.2
  have hN8 := hN.1
  obtain ⟨l1, l2⟩ := hB.2.2.1
  obtain ⟨n1, n2⟩ := hB.2.2.2
  have loop1 : ∀ (d i : Nat) (hq : Int64) (S : AS), i + d = 8 → ST S b sz ft N w wy lk nd → ∃ S1, Ag PQ S S1 ∧ ∀ Z, U G M_X8_digest Z 29 [some (.ref (gB G + 0)), some (.long (dgC N w wy lk nd sz d i hq)), none, some (.int (nI 8))] [] S1 → U G M_X8_digest Z 6 [some (.ref (gB G + 0)), some (.long (hq)), none, some (.int (nI i))] [] S := by
    intro d
    induction d with
    | zero =>
      intro i hq S hi hs
      rw [Nat.add_zero] at hi
      subst hi
      refine ⟨S, Ag.rf, fun Z kz => ?_⟩
      refine V_il3 d_X8_digest_6 ?_
      refine V_ki d_X8_digest_7 ?_
      refine U_ic_gtN d_X8_digest_9 (by omega) (by omega) (fun h9 => ?_) (fun q => absurd q (by omega))
      exact kz
    | succ d ih =>
      intro i hq S hi hs
      obtain ⟨S1, r1, a1⟩ := g8_count (G := G) (j := i) hx hB (by omega) S hs
      obtain ⟨S2, a2, kk⟩ := ih (i + 1) (jn hq (nI (cvF N w wy sz lk nd i)).toInt64) S1 (by omega) (hs.ag a1)
      refine ⟨S2, a1.tr a2, fun Z kz => ?_⟩
      refine V_il3 d_X8_digest_6 ?_
      refine V_ki d_X8_digest_7 ?_
      refine U_ic_gtN d_X8_digest_9 (by omega) (by omega) (fun q => absurd q (by omega)) (fun h9 => ?_)
      refine V_ll1 d_X8_digest_12 ?_
      refine V_al0 d_X8_digest_13 ?_
      refine V_il3 d_X8_digest_14 ?_
      refine U_cv1 d_X8_digest_15 (r1) rfl rfl rfl ?_
      refine V_i2l d_X8_digest_18 rfl ?_
      refine U_cs2 d_X8_digest_19 (c_X8_join) rfl ?_
      refine V_ls1 d_X8_digest_22 rfl ?_
      refine V_icN3 d_X8_digest_23 rfl ?_
      refine V_goto d_X8_digest_26 ?_
      exact kk Z kz
  have loop2 : ∀ (d i : Nat) (hq : Int64) (S : AS), i + d = N.length → ST S b sz ft N w wy lk nd → ∃ S1, Ag PQ S S1 ∧ ∀ Z, U G M_X8_digest Z 65 [some (.ref (gB G + 0)), some (.long (dgW N w wy lk nd d i hq)), none, some (.int (nI N.length))] [] S1 → U G M_X8_digest Z 41 [some (.ref (gB G + 0)), some (.long (hq)), none, some (.int (nI i))] [] S := by
    intro d
    induction d with
    | zero =>
      intro i hq S hi hs
      rw [Nat.add_zero] at hi
      subst hi
      refine ⟨S, Ag.rf, fun Z kz => ?_⟩
      refine V_il3 d_X8_digest_41 ?_
      refine V_al0 d_X8_digest_42 ?_
      refine V_getR d_X8_digest_43 rfl rfl (by decide) rfl ?_
      refine V_getIe d_X8_digest_46 rfl rfl (by decide) (hs.2.1.2.1) ?_
      refine U_ic_geN d_X8_digest_49 (by omega) (by omega) (fun h49 => ?_) (fun q => absurd q (by omega))
      exact kz
    | succ d ih =>
      intro i hq S hi hs
      obtain ⟨S1, r1, a1⟩ := g8_joinNight (G := G) (n := i) (h0 := hq) hx hB (by omega) S hs
      obtain ⟨S2, a2, kk⟩ := ih (i + 1) (dgN N w wy lk nd i hq) S1 (by omega) (hs.ag a1)
      refine ⟨S2, a1.tr a2, fun Z kz => ?_⟩
      refine V_il3 d_X8_digest_41 ?_
      refine V_al0 d_X8_digest_42 ?_
      refine V_getR d_X8_digest_43 rfl rfl (by decide) rfl ?_
      refine V_getIe d_X8_digest_46 rfl rfl (by decide) (hs.2.1.2.1) ?_
      refine U_ic_geN d_X8_digest_49 (by omega) (by omega) (fun q => absurd q (by omega)) (fun h49 => ?_)
      refine V_al0 d_X8_digest_52 ?_
      refine V_ll1 d_X8_digest_53 ?_
      refine V_il3 d_X8_digest_54 ?_
      refine U_cv2 d_X8_digest_55 (r1) rfl rfl rfl ?_
      refine V_ls1 d_X8_digest_58 rfl ?_
      refine V_icN3 d_X8_digest_59 rfl ?_
      refine V_goto d_X8_digest_62 ?_
      exact kk Z kz
  obtain ⟨S1, a1, k1⟩ := loop1 8 0 (lN 17) S rfl h
  have s1 := h.ag a1
  obtain ⟨S2, r2, a2⟩ := g8_fault (G := G) hx hB S1 s1
  have s2 := s1.ag a2
  obtain ⟨S3, a3, k3⟩ := loop2 N.length 0 (jn (dgC N w wy lk nd sz 8 0 (lN 17)) ft.toInt64) S2 (Nat.zero_add _) s2
  have s3 := s2.ag a3
  obtain ⟨S4, r4, a4⟩ := g8_joinBook (G := G) (h0 := dgW N w wy lk nd N.length 0 (jn (dgC N w wy lk nd sz 8 0 (lN 17)) ft.toInt64)) hx hB S3 s3
  have s4 := s3.ag a4
  obtain ⟨S5, r5, a5⟩ := g8_joinLots (G := G) (h0 := dgB N (dgW N w wy lk nd N.length 0 (jn (dgC N w wy lk nd sz 8 0 (lN 17)) ft.toInt64))) hx hB hvb hvs hvl hva hvn S4 s4
  have s5 := s4.ag a5
  obtain ⟨S6, r6, a6⟩ := g8_seeds (G := G) (j := 0) hx hB (by omega) S5 s5
  have s6 := s5.ag a6
  obtain ⟨S7, r7, a7⟩ := g8_seeds (G := G) (j := 1) hx hB (by omega) S6 s6
  refine ⟨S7, ?_, (((((a1.tr a2).tr a3).tr a4).tr a5).tr a6).tr a7⟩
  refine Rn_of hp_X8_digest [some (.ref (gB G + 0)), none, none, none] rfl (Nat.le_of_ble_eq_true rfl) (Nat.le_of_ble_eq_true rfl) ?_
  refine V_ldc2 d_X8_digest_0 ?_
  refine V_ls1 d_X8_digest_3 rfl ?_
  refine V_ki d_X8_digest_4 ?_
  refine V_is3 d_X8_digest_5 rfl ?_
  refine k1 _ ?_
  refine V_ll1 d_X8_digest_29 ?_
  refine V_al0 d_X8_digest_30 ?_
  refine U_cv0 d_X8_digest_31 (r2) rfl rfl rfl ?_
  refine V_i2l d_X8_digest_34 rfl ?_
  refine U_cs2 d_X8_digest_35 (c_X8_join) rfl ?_
  refine V_ls1 d_X8_digest_38 rfl ?_
  refine V_ki d_X8_digest_39 ?_
  refine V_is3 d_X8_digest_40 rfl ?_
  refine k3 _ ?_
  refine V_al0 d_X8_digest_65 ?_
  refine V_ll1 d_X8_digest_66 ?_
  refine U_cv1 d_X8_digest_67 (r4) rfl rfl rfl ?_
  refine V_ls1 d_X8_digest_70 rfl ?_
  refine V_al0 d_X8_digest_71 ?_
  refine V_ll1 d_X8_digest_72 ?_
  refine U_cv1 d_X8_digest_73 (r5) rfl rfl rfl ?_
  refine V_ls1 d_X8_digest_76 rfl ?_
  refine V_ll1 d_X8_digest_77 ?_
  refine V_al0 d_X8_digest_78 ?_
  refine V_ki d_X8_digest_79 ?_
  refine U_cv1 d_X8_digest_80 (r6) rfl rfl rfl ?_
  refine V_i2l d_X8_digest_83 rfl ?_
  refine U_cs2 d_X8_digest_84 (c_X8_join) rfl ?_
  refine V_al0 d_X8_digest_87 ?_
  refine V_ki d_X8_digest_88 ?_
  refine U_cv1 d_X8_digest_89 (r7) rfl rfl rfl ?_
  refine V_i2l d_X8_digest_92 rfl ?_
  refine U_cs2 d_X8_digest_93 (c_X8_join) rfl ?_
  exact V_lret d_X8_digest_96 rfl (by first | rfl | simp_all) rfl
set_option maxRecDepth 100000 in
theorem g9_digest {G : Gm} {b : Nat → Nat} {sz : Nat} {ft : Int32} {N : List (List Nat)} {w wy : Nat → Nat} {lk nd : Nat} {vb vs vn : Nat → Int32} {vl : Nat → Int64} {va : Int32} (hx : TXT b sz ft N) (hB : HB w wy lk nd) (hvb : ∀ j, EX G M_X9_breaks [.ref (gB G + 22), .int (nI 0), .int (nI 1), .int (nI 6), .int (nI j)] (some (.int (vb j))) b sz ft N w wy lk nd) (hvs : ∀ j, EX G M_X9_seen [.ref (gB G + 22), .int (nI 0), .int (nI 1), .int (nI 6), .int (nI 0), .int (nI j)] (some (.int (vs j))) b sz ft N w wy lk nd) (hvl : ∀ j, EX G M_X9_least [.ref (gB G + 22), .int (nI 0), .int (nI 1), .int (nI j)] (some (.long (vl j))) b sz ft N w wy lk nd) (hva : EX G M_X9_lamp [.ref (gB G + 22), .int (nI 0), .int (nI 1), .int (nI 6), .int (nI 2)] (some (.int va)) b sz ft N w wy lk nd) (hvn : ∀ j, EX G M_X9_learn [.ref (gB G + 22), .int (nI 0), .int (nI 1), .int (nI 20), .int (nI j)] (some (.int (vn j))) b sz ft N w wy lk nd) : EX G M_X9_digest [.ref (gB G + 22)] (some (.long (dgA N w wy lk nd sz ft vb vs vl va vn))) b sz ft N w wy lk nd := by
  intro S h
  obtain ⟨⟨hsz, hbs⟩, hcn, hmt, hhc, hhm, hsh, hfd⟩ := id h
  have hN := PR_wf hx.2.2
  have hN8 := hN.1
  obtain ⟨l1, l2⟩ := hB.2.2.1
  obtain ⟨n1, n2⟩ := hB.2.2.2
  have loop1 : ∀ (d i : Nat) (hq : Int64) (S : AS), i + d = 8 → ST S b sz ft N w wy lk nd → ∃ S1, Ag PQ S S1 ∧ ∀ (y : Option Value) Z, U G M_X9_digest Z 31 [some (.ref (gB G + 22)), some (.long (dgC N w wy lk nd sz d i hq)), none, some (.int (nI 8)), y] [] S1 → U G M_X9_digest Z 6 [some (.ref (gB G + 22)), some (.long (hq)), none, some (.int (nI i)), y] [] S := by
    intro d
    induction d with
    | zero =>
      intro i hq S hi hs
      rw [Nat.add_zero] at hi
      subst hi
      refine ⟨S, Ag.rf, fun y Z kz => ?_⟩
      refine V_il3 d_X9_digest_6 ?_
      refine V_ki d_X9_digest_7 ?_
      refine U_ic_geN d_X9_digest_9 (by omega) (by omega) (fun h9 => ?_) (fun q => absurd q (by omega))
      exact kz
    | succ d ih =>
      intro i hq S hi hs
      obtain ⟨S1, r1, a1⟩ := g9_count (G := G) (j := i) hx hB (by omega) S hs
      obtain ⟨S2, a2, kk⟩ := ih (i + 1) (jn hq (nI (cvF N w wy sz lk nd i)).toInt64) S1 (by omega) (hs.ag a1)
      refine ⟨S2, a1.tr a2, fun y Z kz => ?_⟩
      refine V_il3 d_X9_digest_6 ?_
      refine V_ki d_X9_digest_7 ?_
      refine U_ic_geN d_X9_digest_9 (by omega) (by omega) (fun q => absurd q (by omega)) (fun h9 => ?_)
      refine V_ldc2 d_X9_digest_12 ?_
      refine V_ll1 d_X9_digest_15 ?_
      refine V_lmul d_X9_digest_16 ?_
      refine V_al0 d_X9_digest_17 ?_
      refine V_il3 d_X9_digest_18 ?_
      refine U_cv1 d_X9_digest_19 (r1) rfl rfl rfl ?_
      refine V_i2l d_X9_digest_22 rfl ?_
      refine V_ladd d_X9_digest_23 ?_
      refine V_ls1 d_X9_digest_24 rfl ?_
      refine V_icN3 d_X9_digest_25 rfl ?_
      refine V_goto d_X9_digest_28 ?_
      exact kk y Z kz
  have loopF : ∀ (d i : Nat) (hq : Int64) (S : AS), i + d = 6 → ST S b sz ft N w wy lk nd → ∃ S1, Ag PQ S S1 ∧ ∀ (y : Option Value) Z, U G M_X9_digest Z 355 [some (.ref (gB G + 22)), some (.long (dgF N d i hq)), none, some (.int (nI 6)), y] [] S1 → U G M_X9_digest Z 330 [some (.ref (gB G + 22)), some (.long (hq)), none, some (.int (nI i)), y] [] S := by
    intro d
    induction d with
    | zero =>
      intro i hq S hi hs
      rw [Nat.add_zero] at hi
      subst hi
      refine ⟨S, Ag.rf, fun y Z kz => ?_⟩
      refine V_il3 d_X9_digest_330 ?_
      refine V_ki d_X9_digest_331 ?_
      refine U_ic_geN d_X9_digest_333 (by omega) (by omega) (fun h333 => ?_) (fun q => absurd q (by omega))
      exact kz
    | succ d ih =>
      intro i hq S hi hs
      obtain ⟨S1, r1, r0, a0⟩ := c_X9_freshOf (G := G) (vI := nI i) (r := oI (lnR (stN N N.length) (i + 1) 0 6)) hs.2.2.1 hx (Or.inr ⟨i, by omega, rfl, rfl⟩)
      have a1 := PQ_M a0
      obtain ⟨S2, a2, kk⟩ := ih (i + 1) (jn hq (oI (lnR (stN N N.length) (i + 1) 0 6)).toInt64) S1 (by omega) (hs.ag a1)
      refine ⟨S2, a1.tr a2, fun y Z kz => ?_⟩
      refine V_il3 d_X9_digest_330 ?_
      refine V_ki d_X9_digest_331 ?_
      refine U_ic_geN d_X9_digest_333 (by omega) (by omega) (fun q => absurd q (by omega)) (fun h333 => ?_)
      refine V_ldc2 d_X9_digest_336 ?_
      refine V_ll1 d_X9_digest_339 ?_
      refine V_lmul d_X9_digest_340 ?_
      refine V_al0 d_X9_digest_341 ?_
      refine V_il3 d_X9_digest_342 ?_
      refine U_cv1 d_X9_digest_343 (r1) rfl rfl rfl ?_
      refine V_i2l d_X9_digest_346 rfl ?_
      refine V_ladd d_X9_digest_347 ?_
      refine V_ls1 d_X9_digest_348 rfl ?_
      refine V_icN3 d_X9_digest_349 rfl ?_
      refine V_goto d_X9_digest_352 ?_
      exact kk y Z kz
  have loopB : ∀ (d i : Nat) (hq : Int64) (S : AS), i + d = 3 → ST S b sz ft N w wy lk nd → ∃ S1, Ag PQ S S1 ∧ ∀ (y : Option Value) Z, U G M_X9_digest Z 385 [some (.ref (gB G + 22)), some (.long (dgI vb d i hq)), none, some (.int (nI 3)), y] [] S1 → U G M_X9_digest Z 357 [some (.ref (gB G + 22)), some (.long (hq)), none, some (.int (nI i)), y] [] S := by
    intro d
    induction d with
    | zero =>
      intro i hq S hi hs
      rw [Nat.add_zero] at hi
      subst hi
      refine ⟨S, Ag.rf, fun y Z kz => ?_⟩
      refine V_il3 d_X9_digest_357 ?_
      refine V_ki d_X9_digest_358 ?_
      refine U_ic_geN d_X9_digest_359 (by omega) (by omega) (fun h359 => ?_) (fun q => absurd q (by omega))
      exact kz
    | succ d ih =>
      intro i hq S hi hs
      obtain ⟨S1, r1, a1⟩ := hvb i S hs
      obtain ⟨S2, a2, kk⟩ := ih (i + 1) (jn hq (vb i).toInt64) S1 (by omega) (hs.ag a1)
      refine ⟨S2, a1.tr a2, fun y Z kz => ?_⟩
      refine V_il3 d_X9_digest_357 ?_
      refine V_ki d_X9_digest_358 ?_
      refine U_ic_geN d_X9_digest_359 (by omega) (by omega) (fun q => absurd q (by omega)) (fun h359 => ?_)
      refine V_ldc2 d_X9_digest_362 ?_
      refine V_ll1 d_X9_digest_365 ?_
      refine V_lmul d_X9_digest_366 ?_
      refine V_al0 d_X9_digest_367 ?_
      refine V_ki d_X9_digest_368 ?_
      refine V_ki d_X9_digest_369 ?_
      refine V_ki d_X9_digest_370 ?_
      refine V_il3 d_X9_digest_372 ?_
      refine U_cv4 d_X9_digest_373 (r1) rfl rfl rfl ?_
      refine V_i2l d_X9_digest_376 rfl ?_
      refine V_ladd d_X9_digest_377 ?_
      refine V_ls1 d_X9_digest_378 rfl ?_
      refine V_icN3 d_X9_digest_379 rfl ?_
      refine V_goto d_X9_digest_382 ?_
      exact kk y Z kz
  have loopS : ∀ (d i : Nat) (hq : Int64) (S : AS), i + d = 3 → ST S b sz ft N w wy lk nd → ∃ S1, Ag PQ S S1 ∧ ∀ (y : Option Value) Z, U G M_X9_digest Z 416 [some (.ref (gB G + 22)), some (.long (dgI vs d i hq)), none, some (.int (nI 3)), y] [] S1 → U G M_X9_digest Z 387 [some (.ref (gB G + 22)), some (.long (hq)), none, some (.int (nI i)), y] [] S := by
    intro d
    induction d with
    | zero =>
      intro i hq S hi hs
      rw [Nat.add_zero] at hi
      subst hi
      refine ⟨S, Ag.rf, fun y Z kz => ?_⟩
      refine V_il3 d_X9_digest_387 ?_
      refine V_ki d_X9_digest_388 ?_
      refine U_ic_geN d_X9_digest_389 (by omega) (by omega) (fun h389 => ?_) (fun q => absurd q (by omega))
      exact kz
    | succ d ih =>
      intro i hq S hi hs
      obtain ⟨S1, r1, a1⟩ := hvs i S hs
      obtain ⟨S2, a2, kk⟩ := ih (i + 1) (jn hq (vs i).toInt64) S1 (by omega) (hs.ag a1)
      refine ⟨S2, a1.tr a2, fun y Z kz => ?_⟩
      refine V_il3 d_X9_digest_387 ?_
      refine V_ki d_X9_digest_388 ?_
      refine U_ic_geN d_X9_digest_389 (by omega) (by omega) (fun q => absurd q (by omega)) (fun h389 => ?_)
      refine V_ldc2 d_X9_digest_392 ?_
      refine V_ll1 d_X9_digest_395 ?_
      refine V_lmul d_X9_digest_396 ?_
      refine V_al0 d_X9_digest_397 ?_
      refine V_ki d_X9_digest_398 ?_
      refine V_ki d_X9_digest_399 ?_
      refine V_ki d_X9_digest_400 ?_
      refine V_ki d_X9_digest_402 ?_
      refine V_il3 d_X9_digest_403 ?_
      refine U_cv5 d_X9_digest_404 (r1) rfl rfl rfl ?_
      refine V_i2l d_X9_digest_407 rfl ?_
      refine V_ladd d_X9_digest_408 ?_
      refine V_ls1 d_X9_digest_409 rfl ?_
      refine V_icN3 d_X9_digest_410 rfl ?_
      refine V_goto d_X9_digest_413 ?_
      exact kk y Z kz
  have loopL : ∀ (d i : Nat) (hq : Int64) (S : AS), i + d = 4 → ST S b sz ft N w wy lk nd → ∃ S1, Ag PQ S S1 ∧ ∀ (y : Option Value) Z, U G M_X9_digest Z 443 [some (.ref (gB G + 22)), some (.long (dgJ vl d i hq)), none, some (.int (nI 4)), y] [] S1 → U G M_X9_digest Z 418 [some (.ref (gB G + 22)), some (.long (hq)), none, some (.int (nI i)), y] [] S := by
    intro d
    induction d with
    | zero =>
      intro i hq S hi hs
      rw [Nat.add_zero] at hi
      subst hi
      refine ⟨S, Ag.rf, fun y Z kz => ?_⟩
      refine V_il3 d_X9_digest_418 ?_
      refine V_ki d_X9_digest_419 ?_
      refine U_ic_geN d_X9_digest_420 (by omega) (by omega) (fun h420 => ?_) (fun q => absurd q (by omega))
      exact kz
    | succ d ih =>
      intro i hq S hi hs
      obtain ⟨S1, r1, a1⟩ := hvl i S hs
      obtain ⟨S2, a2, kk⟩ := ih (i + 1) (jn hq (vl i)) S1 (by omega) (hs.ag a1)
      refine ⟨S2, a1.tr a2, fun y Z kz => ?_⟩
      refine V_il3 d_X9_digest_418 ?_
      refine V_ki d_X9_digest_419 ?_
      refine U_ic_geN d_X9_digest_420 (by omega) (by omega) (fun q => absurd q (by omega)) (fun h420 => ?_)
      refine V_ldc2 d_X9_digest_423 ?_
      refine V_ll1 d_X9_digest_426 ?_
      refine V_lmul d_X9_digest_427 ?_
      refine V_al0 d_X9_digest_428 ?_
      refine V_ki d_X9_digest_429 ?_
      refine V_ki d_X9_digest_430 ?_
      refine V_il3 d_X9_digest_431 ?_
      refine U_cv3 d_X9_digest_432 (r1) rfl rfl rfl ?_
      refine V_ladd d_X9_digest_435 ?_
      refine V_ls1 d_X9_digest_436 rfl ?_
      refine V_icN3 d_X9_digest_437 rfl ?_
      refine V_goto d_X9_digest_440 ?_
      exact kk y Z kz
  obtain ⟨S1, a1, k1⟩ := loop1 8 0 (lN 17) S rfl h
  have s1 := h.ag a1
  obtain ⟨S2, r2, m2, a2'⟩ := c_X9_faultNow (G := G) s1.2.2.1 hx
  have a2 := PQ_M a2'
  have s2 := s1.ag a2
  have hhm2 := s2.2.2.2.2.1
  -- the nights
  have n1' : ∀ n, n < N.length → ∀ (d i : Nat) (hq : Int64), i + d = 6 → ∀ Z, U G M_X9_digest Z 84 [some (.ref (gB G + 22)), some (.long (dg1 N n d i hq)), none, some (.int (nI n)), some (.int (nI 6))] [] S2 → U G M_X9_digest Z 56 [some (.ref (gB G + 22)), some (.long (hq)), none, some (.int (nI n)), some (.int (nI i))] [] S2 := by
    intro n hn d
    induction d with
    | zero =>
      intro i hq hi Z kz
      rw [Nat.add_zero] at hi
      subst hi
      refine V_il4 d_X9_digest_56 ?_
      refine V_ki d_X9_digest_58 ?_
      refine U_ic_geN d_X9_digest_60 (by omega) (by omega) (fun h60 => ?_) (fun q => absurd q (by omega))
      exact kz
    | succ d ih =>
      intro i hq hi Z kz
      have r1 := c_X9_nightOf (G := G) (n := n) (j := i) m2 hN hn (by omega)
      refine V_il4 d_X9_digest_56 ?_
      refine V_ki d_X9_digest_58 ?_
      refine U_ic_geN d_X9_digest_60 (by omega) (by omega) (fun q => absurd q (by omega)) (fun h60 => ?_)
      refine V_ldc2 d_X9_digest_63 ?_
      refine V_ll1 d_X9_digest_66 ?_
      refine V_lmul d_X9_digest_67 ?_
      refine V_al0 d_X9_digest_68 ?_
      refine V_il3 d_X9_digest_69 ?_
      refine V_il4 d_X9_digest_70 ?_
      refine U_cv2 d_X9_digest_72 (r1) rfl rfl rfl ?_
      refine V_i2l d_X9_digest_75 rfl ?_
      refine V_ladd d_X9_digest_76 ?_
      refine V_ls1 d_X9_digest_77 rfl ?_
      refine V_icN4 d_X9_digest_78 rfl ?_
      refine V_goto d_X9_digest_81 ?_
      exact ih (i + 1) (jn hq (sh (ni N n) i).toInt64) (by omega) Z kz
  have n2' : ∀ n, n < N.length → ∀ (d i : Nat) (hq : Int64), i + d = 6 → ∀ Z, U G M_X9_digest Z 191 [some (.ref (gB G + 22)), some (.long (dg3 N wy lk n d i hq)), none, some (.int (nI n)), some (.int (nI 6))] [] S2 → U G M_X9_digest Z 131 [some (.ref (gB G + 22)), some (.long (hq)), none, some (.int (nI n)), some (.int (nI i))] [] S2 := by
    intro n hn d
    induction d with
    | zero =>
      intro i hq hi Z kz
      rw [Nat.add_zero] at hi
      subst hi
      refine V_il4 d_X9_digest_131 ?_
      refine V_ki d_X9_digest_133 ?_
      refine U_ic_geN d_X9_digest_135 (by omega) (by omega) (fun h135 => ?_) (fun q => absurd q (by omega))
      exact kz
    | succ d ih =>
      intro i hq hi Z kz
      have r1 := c_X9_whenOf (G := G) (x := i) hhm2 hB m2 hN hn (by omega)
      have r2' := c_X9_aloneOf (G := G) (x := i) (j := 0) hhm2 hB m2 hN hn (by omega) (by omega)
      have r3' := c_X9_aloneOf (G := G) (x := i) (j := 1) hhm2 hB m2 hN hn (by omega) (by omega)
      have r4 := ih (i + 1) (jn (jn (jn hq (ctI (arO wy lk (ni N n) 0 i)).toInt64) (nI (if 0 = 0 then alF (arO wy lk (ni N n) 0 i) lk else alG (arO wy lk (ni N n) 0 i) lk)).toInt64) (nI (if 1 = 0 then alF (arO wy lk (ni N n) 0 i) lk else alG (arO wy lk (ni N n) 0 i) lk)).toInt64) (by omega) Z kz
      refine V_il4 d_X9_digest_131 ?_
      refine V_ki d_X9_digest_133 ?_
      refine U_ic_geN d_X9_digest_135 (by omega) (by omega) (fun q => absurd q (by omega)) (fun h135 => ?_)
      refine V_ldc2 d_X9_digest_138 ?_
      refine V_ll1 d_X9_digest_141 ?_
      refine V_lmul d_X9_digest_142 ?_
      refine V_al0 d_X9_digest_143 ?_
      refine V_il3 d_X9_digest_144 ?_
      refine V_il4 d_X9_digest_145 ?_
      refine U_cv2 d_X9_digest_147 (r1) rfl rfl rfl ?_
      refine V_i2l d_X9_digest_150 rfl ?_
      refine V_ladd d_X9_digest_151 ?_
      refine V_ls1 d_X9_digest_152 rfl ?_
      refine V_ldc2 d_X9_digest_153 ?_
      refine V_ll1 d_X9_digest_156 ?_
      refine V_lmul d_X9_digest_157 ?_
      refine V_al0 d_X9_digest_158 ?_
      refine V_il3 d_X9_digest_159 ?_
      refine V_il4 d_X9_digest_160 ?_
      refine V_ki d_X9_digest_162 ?_
      refine U_cv3 d_X9_digest_163 (r2') rfl rfl rfl ?_
      refine V_i2l d_X9_digest_166 rfl ?_
      refine V_ladd d_X9_digest_167 ?_
      refine V_ls1 d_X9_digest_168 rfl ?_
      refine V_ldc2 d_X9_digest_169 ?_
      refine V_ll1 d_X9_digest_172 ?_
      refine V_lmul d_X9_digest_173 ?_
      refine V_al0 d_X9_digest_174 ?_
      refine V_il3 d_X9_digest_175 ?_
      refine V_il4 d_X9_digest_176 ?_
      refine V_ki d_X9_digest_178 ?_
      refine U_cv3 d_X9_digest_179 (r3') rfl rfl rfl ?_
      refine V_i2l d_X9_digest_182 rfl ?_
      refine V_ladd d_X9_digest_183 ?_
      refine V_ls1 d_X9_digest_184 rfl ?_
      refine V_icN4 d_X9_digest_185 rfl ?_
      refine V_goto d_X9_digest_188 ?_
      exact r4
  have n3' : ∀ (d n : Nat) (hq : Int64) (y : Option Value), n + d = N.length → ∀ Z, (∀ y, U G M_X9_digest Z 266 [some (.ref (gB G + 22)), some (.long (dgW N w wy lk nd d n hq)), none, some (.int (nI N.length)), y] [] S2) → U G M_X9_digest Z 45 [some (.ref (gB G + 22)), some (.long (hq)), none, some (.int (nI n)), y] [] S2 := by
    intro d
    induction d with
    | zero =>
      intro n hq y hi Z kz
      rw [Nat.add_zero] at hi
      subst hi
      refine V_il3 d_X9_digest_45 ?_
      refine V_al0 d_X9_digest_46 ?_
      refine V_getIe d_X9_digest_47 rfl rfl (by decide) (m2.1) ?_
      refine U_ic_geN d_X9_digest_50 (by omega) (by omega) (fun h50 => ?_) (fun q => absurd q (by omega))
      exact kz y
    | succ d ih =>
      intro n hq y hi Z kz
      have hn : n < N.length := by omega
      have r1 := fun i (hi : i < 1000) => c_X9_atOf (G := G) (n := n) (m := i) hhm2 hB m2 hN hn hi
      have r2' := c_X9_stealsOf (G := G) (n := n) (x := 1) (m := 5) hhm2 hB m2 hN hn (by omega) (by omega)
      have r3' : Rm G M_X9_likelyOf [.ref (gB G + 22), .int (nI n), .int (nI 0)] S2 (some (.long (lkV N n 0))) S2 := c_X9_likelyOf (G := G) (j := 0) m2 hN hn (by omega)
      have r4' : Rm G M_X9_likelyOf [.ref (gB G + 22), .int (nI n), .int (nI 1)] S2 (some (.long (lkV N n 1))) S2 := c_X9_likelyOf (G := G) (j := 1) m2 hN hn (by omega)
      have r5' := c_X9_diceOf (G := G) (p := 4) (wI := nI 0) (r := dcV N n 0) m2 hN hn (by omega) (Or.inr ⟨0, by decide, rfl, rfl⟩)
      have r6' := c_X9_diceOf (G := G) (p := 4) (wI := nI 1) (r := dcV N n 1) m2 hN hn (by omega) (Or.inr ⟨1, by decide, rfl, rfl⟩)
      have r7 := ih (n + 1) (dgN N w wy lk nd n hq) (some (.int (nI 6))) (by omega) Z kz
      refine V_il3 d_X9_digest_45 ?_
      refine V_al0 d_X9_digest_46 ?_
      refine V_getIe d_X9_digest_47 rfl rfl (by decide) (m2.1) ?_
      refine U_ic_geN d_X9_digest_50 (by omega) (by omega) (fun q => absurd q (by omega)) (fun h50 => ?_)
      refine V_ki d_X9_digest_53 ?_
      refine V_is4 d_X9_digest_54 rfl ?_
      refine n1' n hn 6 0 hq rfl _ ?_
      refine V_ldc2 d_X9_digest_84 ?_
      refine V_ll1 d_X9_digest_87 ?_
      refine V_lmul d_X9_digest_88 ?_
      refine V_al0 d_X9_digest_89 ?_
      refine V_il3 d_X9_digest_90 ?_
      refine V_ki d_X9_digest_91 ?_
      refine U_cv2 d_X9_digest_92 (r1 0 (by omega)) rfl rfl rfl ?_
      refine V_i2l d_X9_digest_95 rfl ?_
      refine V_ladd d_X9_digest_96 ?_
      refine V_ls1 d_X9_digest_97 rfl ?_
      refine V_ldc2 d_X9_digest_98 ?_
      refine V_ll1 d_X9_digest_101 ?_
      refine V_lmul d_X9_digest_102 ?_
      refine V_al0 d_X9_digest_103 ?_
      refine V_il3 d_X9_digest_104 ?_
      refine V_ki d_X9_digest_105 ?_
      refine U_cv2 d_X9_digest_107 (r1 7 (by omega)) rfl rfl rfl ?_
      refine V_i2l d_X9_digest_110 rfl ?_
      refine V_ladd d_X9_digest_111 ?_
      refine V_ls1 d_X9_digest_112 rfl ?_
      refine V_ldc2 d_X9_digest_113 ?_
      refine V_ll1 d_X9_digest_116 ?_
      refine V_lmul d_X9_digest_117 ?_
      refine V_al0 d_X9_digest_118 ?_
      refine V_il3 d_X9_digest_119 ?_
      refine V_ki d_X9_digest_120 ?_
      refine U_cv2 d_X9_digest_122 (r1 20 (by omega)) rfl rfl rfl ?_
      refine V_i2l d_X9_digest_125 rfl ?_
      refine V_ladd d_X9_digest_126 ?_
      refine V_ls1 d_X9_digest_127 rfl ?_
      refine V_ki d_X9_digest_128 ?_
      refine V_is4 d_X9_digest_129 rfl ?_
      refine n2' n hn 6 0 (dg2 N wy lk n (dg1 N n 6 0 hq)) rfl _ ?_
      refine V_ldc2 d_X9_digest_191 ?_
      refine V_ll1 d_X9_digest_194 ?_
      refine V_lmul d_X9_digest_195 ?_
      refine V_al0 d_X9_digest_196 ?_
      refine V_il3 d_X9_digest_197 ?_
      refine V_ki d_X9_digest_198 ?_
      refine V_ki d_X9_digest_199 ?_
      refine U_cv3 d_X9_digest_200 (r2') rfl rfl rfl ?_
      refine V_i2l d_X9_digest_203 rfl ?_
      refine V_ladd d_X9_digest_204 ?_
      refine V_ls1 d_X9_digest_205 rfl ?_
      refine V_ldc2 d_X9_digest_206 ?_
      refine V_ll1 d_X9_digest_209 ?_
      refine V_lmul d_X9_digest_210 ?_
      refine V_al0 d_X9_digest_211 ?_
      refine V_il3 d_X9_digest_212 ?_
      refine V_ki d_X9_digest_213 ?_
      refine U_cv2 d_X9_digest_214 (r3') rfl rfl rfl ?_
      refine V_ladd d_X9_digest_217 ?_
      refine V_ls1 d_X9_digest_218 rfl ?_
      refine V_ldc2 d_X9_digest_219 ?_
      refine V_ll1 d_X9_digest_222 ?_
      refine V_lmul d_X9_digest_223 ?_
      refine V_al0 d_X9_digest_224 ?_
      refine V_il3 d_X9_digest_225 ?_
      refine V_ki d_X9_digest_226 ?_
      refine U_cv2 d_X9_digest_227 (r4') rfl rfl rfl ?_
      refine V_ladd d_X9_digest_230 ?_
      refine V_ls1 d_X9_digest_231 rfl ?_
      refine V_ldc2 d_X9_digest_232 ?_
      refine V_ll1 d_X9_digest_235 ?_
      refine V_lmul d_X9_digest_236 ?_
      refine V_al0 d_X9_digest_237 ?_
      refine V_il3 d_X9_digest_238 ?_
      refine V_ki d_X9_digest_239 ?_
      refine V_ki d_X9_digest_240 ?_
      refine U_cv3 d_X9_digest_241 (r5') rfl rfl rfl ?_
      refine V_ladd d_X9_digest_244 ?_
      refine V_ls1 d_X9_digest_245 rfl ?_
      refine V_ldc2 d_X9_digest_246 ?_
      refine V_ll1 d_X9_digest_249 ?_
      refine V_lmul d_X9_digest_250 ?_
      refine V_al0 d_X9_digest_251 ?_
      refine V_il3 d_X9_digest_252 ?_
      refine V_ki d_X9_digest_253 ?_
      refine V_ki d_X9_digest_254 ?_
      refine U_cv3 d_X9_digest_255 (r6') rfl rfl rfl ?_
      refine V_ladd d_X9_digest_258 ?_
      refine V_ls1 d_X9_digest_259 rfl ?_
      refine V_icN3 d_X9_digest_260 rfl ?_
      refine V_goto d_X9_digest_263 ?_
      exact r7
  have hnx : ∀ p i j, p < 7 → i < 6 → j < 1000 → Rm G M_X9_nextOf [.ref (gB G + 22), .int (nI N.length), .int (pv p), .int (nI i), .int (nI j)] S2 (some (.long (nxV N p i j))) S2 := fun p i j hp hi hj => c_X9_nextOf (G := G) m2 hN (Nat.le_refl _) hp hi hj
  have x1 : ∀ (hq : Int64) (y : Option Value) (Z : ZT), U G M_X9_digest Z 297 [some (.ref (gB G + 22)), some (.long (jn (jn hq (nxV N 6 0 0)) (nxV N 6 0 1))), none, some (.int (nI 2)), y] [] S2 → U G M_X9_digest Z 266 [some (.ref (gB G + 22)), some (.long (hq)), none, some (.int (nI N.length)), y] [] S2 := by
    intro hq y Z kz
    refine V_ki d_X9_digest_266 ?_
    refine V_is3 d_X9_digest_267 rfl ?_
    skip
    refine V_il3 d_X9_digest_268 ?_
    refine V_ki d_X9_digest_269 ?_
    refine U_ic_geN d_X9_digest_270 (by omega) (by omega) (fun q => absurd q (by omega)) (fun h270 => ?_)
    refine V_ldc2 d_X9_digest_273 ?_
    refine V_ll1 d_X9_digest_276 ?_
    first | with_reducible refine V_lmulN d_X9_digest_277 ?_ | refine V_lmul d_X9_digest_277 ?_
    refine V_al0 d_X9_digest_278 ?_
    refine V_al0 d_X9_digest_279 ?_
    refine V_getIe d_X9_digest_280 rfl rfl (by decide) (m2.1) ?_
    refine V_ki d_X9_digest_283 ?_
    refine V_ki d_X9_digest_284 ?_
    refine V_il3 d_X9_digest_285 ?_
    refine U_cv4 d_X9_digest_286 (hnx 6 0 0 (by omega) (by omega) (by omega)) rfl rfl rfl ?_
    refine V_ladd d_X9_digest_289 ?_
    refine V_ls1 d_X9_digest_290 rfl ?_
    refine V_icN3 d_X9_digest_291 rfl ?_
    refine V_goto d_X9_digest_294 ?_
    refine V_il3 d_X9_digest_268 ?_
    refine V_ki d_X9_digest_269 ?_
    refine U_ic_geN d_X9_digest_270 (by omega) (by omega) (fun q => absurd q (by omega)) (fun h270 => ?_)
    refine V_ldc2 d_X9_digest_273 ?_
    refine V_ll1 d_X9_digest_276 ?_
    first | with_reducible refine V_lmulN d_X9_digest_277 ?_ | refine V_lmul d_X9_digest_277 ?_
    refine V_al0 d_X9_digest_278 ?_
    refine V_al0 d_X9_digest_279 ?_
    refine V_getIe d_X9_digest_280 rfl rfl (by decide) (m2.1) ?_
    refine V_ki d_X9_digest_283 ?_
    refine V_ki d_X9_digest_284 ?_
    refine V_il3 d_X9_digest_285 ?_
    refine U_cv4 d_X9_digest_286 (hnx 6 0 1 (by omega) (by omega) (by omega)) rfl rfl rfl ?_
    refine V_ladd d_X9_digest_289 ?_
    refine V_ls1 d_X9_digest_290 rfl ?_
    refine V_icN3 d_X9_digest_291 rfl ?_
    refine V_goto d_X9_digest_294 ?_
    refine V_il3 d_X9_digest_268 ?_
    refine V_ki d_X9_digest_269 ?_
    refine U_ic_geN d_X9_digest_270 (by omega) (by omega) (fun h270 => ?_) (fun q => absurd q (by omega))
    exact kz
  have x2 : ∀ (hq : Int64) (y : Option Value) (Z : ZT), U G M_X9_digest Z 328 [some (.ref (gB G + 22)), some (.long (jn (jn hq (nxV N 1 2 0)) (nxV N 1 2 1))), none, some (.int (nI 2)), y] [] S2 → U G M_X9_digest Z 297 [some (.ref (gB G + 22)), some (.long (hq)), none, some (.int (nI 2)), y] [] S2 := by
    intro hq y Z kz
    refine V_ki d_X9_digest_297 ?_
    refine V_is3 d_X9_digest_298 rfl ?_
    skip
    refine V_il3 d_X9_digest_299 ?_
    refine V_ki d_X9_digest_300 ?_
    refine U_ic_geN d_X9_digest_301 (by omega) (by omega) (fun q => absurd q (by omega)) (fun h301 => ?_)
    refine V_ldc2 d_X9_digest_304 ?_
    refine V_ll1 d_X9_digest_307 ?_
    first | with_reducible refine V_lmulN d_X9_digest_308 ?_ | refine V_lmul d_X9_digest_308 ?_
    refine V_al0 d_X9_digest_309 ?_
    refine V_al0 d_X9_digest_310 ?_
    refine V_getIe d_X9_digest_311 rfl rfl (by decide) (m2.1) ?_
    refine V_ki d_X9_digest_314 ?_
    refine V_ki d_X9_digest_315 ?_
    refine V_il3 d_X9_digest_316 ?_
    refine U_cv4 d_X9_digest_317 (hnx 1 2 0 (by omega) (by omega) (by omega)) rfl rfl rfl ?_
    refine V_ladd d_X9_digest_320 ?_
    refine V_ls1 d_X9_digest_321 rfl ?_
    refine V_icN3 d_X9_digest_322 rfl ?_
    refine V_goto d_X9_digest_325 ?_
    refine V_il3 d_X9_digest_299 ?_
    refine V_ki d_X9_digest_300 ?_
    refine U_ic_geN d_X9_digest_301 (by omega) (by omega) (fun q => absurd q (by omega)) (fun h301 => ?_)
    refine V_ldc2 d_X9_digest_304 ?_
    refine V_ll1 d_X9_digest_307 ?_
    first | with_reducible refine V_lmulN d_X9_digest_308 ?_ | refine V_lmul d_X9_digest_308 ?_
    refine V_al0 d_X9_digest_309 ?_
    refine V_al0 d_X9_digest_310 ?_
    refine V_getIe d_X9_digest_311 rfl rfl (by decide) (m2.1) ?_
    refine V_ki d_X9_digest_314 ?_
    refine V_ki d_X9_digest_315 ?_
    refine V_il3 d_X9_digest_316 ?_
    refine U_cv4 d_X9_digest_317 (hnx 1 2 1 (by omega) (by omega) (by omega)) rfl rfl rfl ?_
    refine V_ladd d_X9_digest_320 ?_
    refine V_ls1 d_X9_digest_321 rfl ?_
    refine V_icN3 d_X9_digest_322 rfl ?_
    refine V_goto d_X9_digest_325 ?_
    refine V_il3 d_X9_digest_299 ?_
    refine V_ki d_X9_digest_300 ?_
    refine U_ic_geN d_X9_digest_301 (by omega) (by omega) (fun h301 => ?_) (fun q => absurd q (by omega))
    exact kz
  obtain ⟨S3, r3, m3, a3'⟩ := c_X9_freshOf (G := G) (vI := -1) (r := nI (eB (stN N N.length) 6 0 6)) s2.2.2.1 hx (Or.inl ⟨rfl, rfl⟩)
  have a3 := PQ_M a3'
  have s3 := s2.ag a3
  generalize hW : dgW N w wy lk nd N.length 0 (jn (dgC N w wy lk nd sz 8 0 (lN 17)) ft.toInt64) = hW9
  have fin : ∃ S9, Ag PQ S3 S9 ∧ ∀ y, U G M_X9_digest (Ze G (some (.long (dgA N w wy lk nd sz ft vb vs vl va vn))) S9) 330 [some (.ref (gB G + 22)), some (.long (jn (jn (jn (jn (jn hW9 (nxV N 6 0 0)) (nxV N 6 0 1)) (nxV N 1 2 0)) (nxV N 1 2 1)) (nI (eB (stN N N.length) 6 0 6)).toInt64)), none, some (.int (nI 0)), y] [] S3 := by
    obtain ⟨S4, a4, k4⟩ := loopF 6 0 (jn (jn (jn (jn (jn hW9 (nxV N 6 0 0)) (nxV N 6 0 1)) (nxV N 1 2 0)) (nxV N 1 2 1)) (nI (eB (stN N N.length) 6 0 6)).toInt64) S3 rfl s3
    have s4 := s3.ag a4
    obtain ⟨S5, a5, k5⟩ := loopB 3 0 (dgB N hW9) S4 rfl s4
    have s5 := s4.ag a5
    obtain ⟨S6, a6, k6⟩ := loopS 3 0 (dgI vb 3 0 (dgB N hW9)) S5 rfl s5
    have s6 := s5.ag a6
    obtain ⟨S7, a7, k7⟩ := loopL 4 0 (dgI vs 3 0 (dgI vb 3 0 (dgB N hW9))) S6 rfl s6
    have s7 := s6.ag a7
    obtain ⟨S8, r8, a8⟩ := hva S7 s7
    have s8 := s7.ag a8
    obtain ⟨S9, r9, a9⟩ := hvn 0 S8 s8
    have s9 := s8.ag a9
    obtain ⟨Sa, ra, aa⟩ := hvn 1 S9 s9
    have sa := s9.ag aa
    obtain ⟨Sb, rb, mb, ab'⟩ := c_X9_seedsOf (G := G) (j := 0) sa.2.2.1 hx (by omega)
    have ab := PQ_M ab'
    have sb := sa.ag ab
    obtain ⟨Sc, rc, mc, ac'⟩ := c_X9_seedsOf (G := G) (j := 1) sb.2.2.1 hx (by omega)
    refine ⟨Sc, (((((((a4.tr a5).tr a6).tr a7).tr a8).tr a9).tr aa).tr ab).tr (PQ_M ac'), fun y => ?_⟩
    refine k4 y _ ?_
    refine V_ki d_X9_digest_355 ?_
    refine V_is3 d_X9_digest_356 rfl ?_
    refine k5 y _ ?_
    refine V_ki d_X9_digest_385 ?_
    refine V_is3 d_X9_digest_386 rfl ?_
    refine k6 y _ ?_
    refine V_ki d_X9_digest_416 ?_
    refine V_is3 d_X9_digest_417 rfl ?_
    refine k7 y _ ?_
    refine V_ldc2 d_X9_digest_443 ?_
    refine V_ll1 d_X9_digest_446 ?_
    refine V_lmul d_X9_digest_447 ?_
    refine V_al0 d_X9_digest_448 ?_
    refine V_ki d_X9_digest_449 ?_
    refine V_ki d_X9_digest_450 ?_
    refine V_ki d_X9_digest_451 ?_
    refine V_ki d_X9_digest_453 ?_
    refine U_cv4 d_X9_digest_454 (r8) rfl rfl rfl ?_
    refine V_i2l d_X9_digest_457 rfl ?_
    refine V_ladd d_X9_digest_458 ?_
    refine V_ls1 d_X9_digest_459 rfl ?_
    refine V_ldc2 d_X9_digest_460 ?_
    refine V_ll1 d_X9_digest_463 ?_
    refine V_lmul d_X9_digest_464 ?_
    refine V_al0 d_X9_digest_465 ?_
    refine V_ki d_X9_digest_466 ?_
    refine V_ki d_X9_digest_467 ?_
    refine V_ki d_X9_digest_468 ?_
    refine V_ki d_X9_digest_470 ?_
    refine U_cv4 d_X9_digest_471 (r9) rfl rfl rfl ?_
    refine V_i2l d_X9_digest_474 rfl ?_
    refine V_ladd d_X9_digest_475 ?_
    refine V_ls1 d_X9_digest_476 rfl ?_
    refine V_ldc2 d_X9_digest_477 ?_
    refine V_ll1 d_X9_digest_480 ?_
    refine V_lmul d_X9_digest_481 ?_
    refine V_al0 d_X9_digest_482 ?_
    refine V_ki d_X9_digest_483 ?_
    refine V_ki d_X9_digest_484 ?_
    refine V_ki d_X9_digest_485 ?_
    refine V_ki d_X9_digest_487 ?_
    refine U_cv4 d_X9_digest_488 (ra) rfl rfl rfl ?_
    refine V_i2l d_X9_digest_491 rfl ?_
    refine V_ladd d_X9_digest_492 ?_
    refine V_ls1 d_X9_digest_493 rfl ?_
    refine V_ldc2 d_X9_digest_494 ?_
    refine V_ll1 d_X9_digest_497 ?_
    refine V_lmul d_X9_digest_498 ?_
    refine V_al0 d_X9_digest_499 ?_
    refine V_ki d_X9_digest_500 ?_
    refine U_cv1 d_X9_digest_501 (rb) rfl rfl rfl ?_
    refine V_i2l d_X9_digest_504 rfl ?_
    refine V_ladd d_X9_digest_505 ?_
    refine V_ls1 d_X9_digest_506 rfl ?_
    refine V_ldc2 d_X9_digest_507 ?_
    refine V_ll1 d_X9_digest_510 ?_
    refine V_lmul d_X9_digest_511 ?_
    refine V_al0 d_X9_digest_512 ?_
    refine V_ki d_X9_digest_513 ?_
    refine U_cv1 d_X9_digest_514 (rc) rfl rfl rfl ?_
    refine V_i2l d_X9_digest_517 rfl ?_
    refine V_ladd d_X9_digest_518 ?_
    exact V_lret d_X9_digest_519 rfl (by rw [← hW]; rfl) rfl
  obtain ⟨S9, a9, k9⟩ := fin
  refine ⟨S9, ?_, ((a1.tr a2).tr a3).tr a9⟩
  refine Rn_of hp_X9_digest [some (.ref (gB G + 22)), none, none, none, none] rfl (Nat.le_of_ble_eq_true rfl) (Nat.le_of_ble_eq_true rfl) ?_
  refine V_ldc2 d_X9_digest_0 ?_
  refine V_ls1 d_X9_digest_3 rfl ?_
  refine V_ki d_X9_digest_4 ?_
  refine V_is3 d_X9_digest_5 rfl ?_
  refine k1 _ _ ?_
  refine V_ldc2 d_X9_digest_31 ?_
  refine V_ll1 d_X9_digest_34 ?_
  first | with_reducible refine V_lmulN d_X9_digest_35 ?_ | refine V_lmul d_X9_digest_35 ?_
  refine V_al0 d_X9_digest_36 ?_
  refine U_cv0 d_X9_digest_37 (r2) rfl rfl rfl ?_
  refine V_i2l d_X9_digest_40 rfl ?_
  refine V_ladd d_X9_digest_41 ?_
  refine V_ls1 d_X9_digest_42 rfl ?_
  refine V_ki d_X9_digest_43 ?_
  refine V_is3 d_X9_digest_44 rfl ?_
  refine n3' N.length 0 (jn (dgC N w wy lk nd sz 8 0 (lN 17)) ft.toInt64) none (Nat.zero_add _) _ (fun y => ?_)
  rw [hW]
  refine x1 hW9 y _ ?_
  refine x2 _ y _ ?_
  refine V_ki d_X9_digest_328 ?_
  refine V_is3 d_X9_digest_329 rfl ?_
  skip
  refine V_il3 d_X9_digest_330 ?_
  refine V_ki d_X9_digest_331 ?_
  refine V_ic_ge d_X9_digest_333 (fun q => absurd q (by decide)) (fun h333 => ?_)
  refine V_ldc2 d_X9_digest_336 ?_
  refine V_ll1 d_X9_digest_339 ?_
  refine V_lmul d_X9_digest_340 ?_
  refine V_al0 d_X9_digest_341 ?_
  refine V_il3 d_X9_digest_342 ?_
  refine U_cv1 d_X9_digest_343 (r3) rfl rfl rfl ?_
  refine V_i2l d_X9_digest_346 rfl ?_
  refine V_ladd d_X9_digest_347 ?_
  refine V_ls1 d_X9_digest_348 rfl ?_
  refine V_ic3 d_X9_digest_349 rfl (show (-1 : Int32) + Int32.ofInt 1 = nI 0 by decide) ?_
  refine V_goto d_X9_digest_352 ?_
  exact k9 y
