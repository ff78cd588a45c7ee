/-! digests -/
def jn (h v : Int64) : Int64 := lN 31 * h + v
def dg1 (N : List (List Nat)) (n : Nat) (d i : Nat) (h : Int64) : Int64 := lp (fun i h => jn h (sh (ni N n) i).toInt64) d i h
def dg2 (N : List (List Nat)) (wy : Nat → Nat) (lk : Nat) (n : Nat) (h : Int64) : Int64 := jn (jn (jn h (atL wy lk (ni N n) 0 0).toInt64) (atL wy lk (ni N n) 0 7).toInt64) (atL wy lk (ni N n) 0 20).toInt64
def dg3 (N : List (List Nat)) (wy : Nat → Nat) (lk : Nat) (n : Nat) (d i : Nat) (h : Int64) : Int64 := lp (fun x h => jn (jn (jn h (ctI (arO wy lk (ni N n) 0 x)).toInt64) (nI (if 0 = 0 then alF (arO wy lk (ni N n) 0 x) lk else alG (arO wy lk (ni N n) 0 x) lk)).toInt64) (nI (if 1 = 0 then alF (arO wy lk (ni N n) 0 x) lk else alG (arO wy lk (ni N n) 0 x) lk)).toInt64) d i h
def lkV (N : List (List Nat)) (n j : Nat) : Int64 := lN (if j = 0 then (lkS (stN N n) (ni N n) 6 (1, 1)).1 else (lkS (stN N n) (ni N n) 6 (1, 1)).2)
def dcV (N : List (List Nat)) (n j : Nat) : Int64 := lN (if j = 0 then (chF 4 (alN N n N.length) (N.length - alN N n N.length)).1 else (chF 4 (alN N n N.length) (N.length - alN N n N.length)).2)
def dg4 (N : List (List Nat)) (w wy : Nat → Nat) (lk nd : Nat) (n : Nat) (h : Int64) : Int64 := jn (jn (jn (jn (jn h (nI (hh w wy lk nd (ni N n) 1 5)).toInt64) (lkV N n 0)) (lkV N n 1)) (dcV N n 0)) (dcV N n 1)
def dgN (N : List (List Nat)) (w wy : Nat → Nat) (lk nd : Nat) (n : Nat) (h : Int64) : Int64 := dg4 N w wy lk nd n (dg3 N wy lk n 6 0 (dg2 N wy lk n (dg1 N n 6 0 h)))
def nxV (N : List (List Nat)) (p i j : Nat) : Int64 := lN (fr (ab (stN N N.length) p i) (be (stN N N.length) p) j)
def dgF (N : List (List Nat)) (d i : Nat) (h : Int64) : Int64 := lp (fun i h => jn h (oI (lnR (stN N N.length) (i + 1) 0 6)).toInt64) d i h
def dgB (N : List (List Nat)) (h : Int64) : Int64 := dgF N 6 0 (jn (jn (jn (jn (jn h (nxV N 6 0 0)) (nxV N 6 0 1)) (nxV N 1 2 0)) (nxV N 1 2 1)) (nI (eB (stN N N.length) 6 0 6)).toInt64)
def dgI (v : Nat → Int32) (d i : Nat) (h : Int64) : Int64 := lp (fun j h => jn h (v j).toInt64) d i h
def dgJ (v : Nat → Int64) (d i : Nat) (h : Int64) : Int64 := lp (fun j h => jn h (v j)) d i h
def dgL (vb vs : Nat → Int32) (vl : Nat → Int64) (va : Int32) (vn : Nat → Int32) (h : Int64) : Int64 := jn (jn (jn (dgJ vl 4 0 (dgI vs 3 0 (dgI vb 3 0 h))) va.toInt64) (vn 0).toInt64) (vn 1).toInt64
def sdV (N : List (List Nat)) (j : Nat) : Int32 := if j = 0 then nI (sumN (fun s => if ftL N N.length 0 (nI s) = true then 1 else 0) 100) else oI (fstN (fun s => ftL N N.length 0 (nI s)) 100 0)
def dgC (N : List (List Nat)) (w wy : Nat → Nat) (lk nd : Nat) (sz : Nat) (d i : Nat) (h : Int64) : Int64 := lp (fun j h => jn h (nI (cvF N w wy sz lk nd j)).toInt64) d i h
def dgW (N : List (List Nat)) (w wy : Nat → Nat) (lk nd : Nat) (d i : Nat) (h : Int64) : Int64 := lp (fun n h => dgN N w wy lk nd n h) d i h
def dgA (N : List (List Nat)) (w wy : Nat → Nat) (lk nd : Nat) (sz : Nat) (ft : Int32) (vb vs : Nat → Int32) (vl : Nat → Int64) (va : Int32) (vn : Nat → Int32) : Int64 := jn (jn (dgL vb vs vl va vn (dgB N (dgW N w wy lk nd N.length 0 (jn (dgC N w wy lk nd sz 8 0 (lN 17)) ft.toInt64)))) (sdV N 0).toInt64) (sdV N 1).toInt64
set_option maxRecDepth 100000 in
theorem g8_joinNight {G : Gm} {b : Nat → Nat} {sz : Nat} {ft : Int32} {N : List (List Nat)} {w wy : Nat → Nat} {lk nd : Nat} {n : Nat} {h0 : Int64} (hx : TXT b sz ft N) (hB : HB w wy lk nd) (hn : n < N.length) : EX G M_X8_joinNight [.ref (gB G + 0), .long h0, .int (nI n)] (some (.long (dgN N w wy lk nd n h0))) b sz ft N w wy lk nd := by
  intro S h
  obtain ⟨⟨hsz, hbs⟩, hcn, hmt, hhc, hhm, hsh, hfd⟩ := id h
  have hN := PR_wf hx.2.2
  have hN8 := hN.1
  obtain ⟨l1, l2⟩ := hB.2.2.1
  obtain ⟨n1, n2⟩ := hB.2.2.2
  have loop1 : ∀ (d i : Nat) (hq : Int64) (S : AS), i + d = 6 → ST S b sz ft N w wy lk nd → ∃ S1, Ag PQ S S1 ∧ ∀ Z, U G M_X8_joinNight Z 34 [some (.ref (gB G + 0)), some (.long h0), none, some (.int (nI n)), some (.long (dg1 N n d i hq)), none, some (.int (nI 6))] [] S1 → U G M_X8_joinNight Z 6 [some (.ref (gB G + 0)), some (.long h0), none, some (.int (nI n)), some (.long (hq)), none, some (.int (nI i))] [] S := by
    intro d
    induction d with
    | zero =>
      intro i hq S hi hs
      rw [Nat.add_zero] at hi
      subst hi
      refine ⟨S, Ag.rf, fun Z kz => ?_⟩
      refine V_il6 d_X8_joinNight_6 ?_
      refine V_ki d_X8_joinNight_8 ?_
      refine U_ic_geN d_X8_joinNight_10 (by omega) (by omega) (fun h10 => ?_) (fun q => absurd q (by omega))
      exact kz
    | succ d ih =>
      intro i hq S hi hs
      obtain ⟨S1, r1, a1⟩ := g8_night (G := G) hx hB hn (show i ≤ 5 by omega) S hs
      obtain ⟨S2, a2, kk⟩ := ih (i + 1) (jn hq (sh (ni N n) i).toInt64) S1 (by omega) (hs.ag a1)
      refine ⟨S2, a1.tr a2, fun Z kz => ?_⟩
      refine V_il6 d_X8_joinNight_6 ?_
      refine V_ki d_X8_joinNight_8 ?_
      refine U_ic_geN d_X8_joinNight_10 (by omega) (by omega) (fun q => absurd q (by omega)) (fun h10 => ?_)
      refine V_ll4 d_X8_joinNight_13 ?_
      refine V_al0 d_X8_joinNight_15 ?_
      refine V_il3 d_X8_joinNight_16 ?_
      refine V_il6 d_X8_joinNight_17 ?_
      refine U_cv2 d_X8_joinNight_19 (r1) rfl rfl rfl ?_
      refine V_i2l d_X8_joinNight_22 rfl ?_
      refine U_cs2 d_X8_joinNight_23 (c_X8_join) rfl ?_
      refine V_ls4 d_X8_joinNight_26 rfl ?_
      refine V_icN6 d_X8_joinNight_28 rfl ?_
      refine V_goto d_X8_joinNight_31 ?_
      exact kk Z kz
  have loop2 : ∀ (d i : Nat) (hq : Int64) (S : AS), i + d = 6 → ST S b sz ft N w wy lk nd → ∃ S1, Ag PQ S S1 ∧ ∀ Z, U G M_X8_joinNight Z 129 [some (.ref (gB G + 0)), some (.long h0), none, some (.int (nI n)), some (.long (dg3 N wy lk n d i hq)), none, some (.int (nI 6))] [] S1 → U G M_X8_joinNight Z 73 [some (.ref (gB G + 0)), some (.long h0), none, some (.int (nI n)), some (.long (hq)), none, some (.int (nI i))] [] S := by
    intro d
    induction d with
    | zero =>
      intro i hq S hi hs
      rw [Nat.add_zero] at hi
      subst hi
      refine ⟨S, Ag.rf, fun Z kz => ?_⟩
      refine V_il6 d_X8_joinNight_73 ?_
      refine V_ki d_X8_joinNight_75 ?_
      refine U_ic_geN d_X8_joinNight_77 (by omega) (by omega) (fun h77 => ?_) (fun q => absurd q (by omega))
      exact kz
    | succ d ih =>
      intro i hq S hi hs
      obtain ⟨S1, r1, a1⟩ := g8_when (G := G) hx hB hn (show i ≤ 5 by omega) S hs
      have hs1 := hs.ag a1
      obtain ⟨S2, r2, a2⟩ := g8_alone (G := G) (j := 0) hx hB hn (show i ≤ 5 by omega) (by omega) S1 hs1
      have hs2 := hs1.ag a2
      obtain ⟨S3, r3, a3⟩ := g8_alone (G := G) (j := 1) hx hB hn (show i ≤ 5 by omega) (by omega) S2 hs2
      obtain ⟨S4, a4, kk⟩ := ih (i + 1) (jn (jn (jn hq (ctI (arO wy lk (ni N n) 0 i)).toInt64) (nI (if 0 = 0 then alF (arO wy lk (ni N n) 0 i) lk else alG (arO wy lk (ni N n) 0 i) lk)).toInt64) (nI (if 1 = 0 then alF (arO wy lk (ni N n) 0 i) lk else alG (arO wy lk (ni N n) 0 i) lk)).toInt64) S3 (by omega) (hs2.ag a3)
      refine ⟨S4, ((a1.tr a2).tr a3).tr a4, fun Z kz => ?_⟩
      refine V_il6 d_X8_joinNight_73 ?_
      refine V_ki d_X8_joinNight_75 ?_
      refine U_ic_geN d_X8_joinNight_77 (by omega) (by omega) (fun q => absurd q (by omega)) (fun h77 => ?_)
      refine V_ll4 d_X8_joinNight_80 ?_
      refine V_al0 d_X8_joinNight_82 ?_
      refine V_il3 d_X8_joinNight_83 ?_
      refine V_il6 d_X8_joinNight_84 ?_
      refine U_cv2 d_X8_joinNight_86 (r1) rfl rfl rfl ?_
      refine V_i2l d_X8_joinNight_89 rfl ?_
      refine U_cs2 d_X8_joinNight_90 (c_X8_join) rfl ?_
      refine V_ls4 d_X8_joinNight_93 rfl ?_
      refine V_ll4 d_X8_joinNight_95 ?_
      refine V_al0 d_X8_joinNight_97 ?_
      refine V_il3 d_X8_joinNight_98 ?_
      refine V_il6 d_X8_joinNight_99 ?_
      refine V_ki d_X8_joinNight_101 ?_
      refine U_cv3 d_X8_joinNight_102 (r2) rfl rfl rfl ?_
      refine V_i2l d_X8_joinNight_105 rfl ?_
      refine U_cs2 d_X8_joinNight_106 (c_X8_join) rfl ?_
      refine V_al0 d_X8_joinNight_109 ?_
      refine V_il3 d_X8_joinNight_110 ?_
      refine V_il6 d_X8_joinNight_111 ?_
      refine V_ki d_X8_joinNight_113 ?_
      refine U_cv3 d_X8_joinNight_114 (r3) rfl rfl rfl ?_
      refine V_i2l d_X8_joinNight_117 rfl ?_
      refine U_cs2 d_X8_joinNight_118 (c_X8_join) rfl ?_
      refine V_ls4 d_X8_joinNight_121 rfl ?_
      refine V_icN6 d_X8_joinNight_123 rfl ?_
      refine V_goto d_X8_joinNight_126 ?_
      exact kk Z kz
  obtain ⟨S1, a1, k1⟩ := loop1 6 0 h0 S rfl h
  have s1 := h.ag a1
  obtain ⟨S2, r2, a2⟩ := g8_at (G := G) (i := 0) hx hB hn (by omega) S1 s1
  have s2 := s1.ag a2
  obtain ⟨S3, r3, a3⟩ := g8_at (G := G) (i := 7) hx hB hn (by omega) S2 s2
  have s3 := s2.ag a3
  obtain ⟨S4, r4, a4⟩ := g8_at (G := G) (i := 20) hx hB hn (by omega) S3 s3
  have s4 := s3.ag a4
  obtain ⟨S5, a5, k5⟩ := loop2 6 0 (dg2 N wy lk n (dg1 N n 6 0 h0)) S4 rfl s4
  have s5 := s4.ag a5
  obtain ⟨S6, r6, a6⟩ := g8_steals (G := G) (i := 1) (m := 5) hx hB hn (by omega) (by omega) S5 s5
  have s6 := s5.ag a6
  obtain ⟨S7, r7, a7⟩ := g8_likely (G := G) (j := 0) hx hB hn (by omega) S6 s6
  have s7 := s6.ag a7
  obtain ⟨S8, r8, a8⟩ := g8_likely (G := G) (j := 1) hx hB hn (by omega) S7 s7
  have s8 := s7.ag a8
  obtain ⟨S9, r9, a9⟩ := g8_dice (G := G) (p := 4) (wI := nI 0) (r := dcV N n 0) hx hB hn (by omega) (Or.inr ⟨0, by decide, rfl, rfl⟩) S8 s8
  have s9 := s8.ag a9
  obtain ⟨Sa, ra, aa⟩ := g8_dice (G := G) (p := 4) (wI := nI 1) (r := dcV N n 1) hx hB hn (by omega) (Or.inr ⟨1, by decide, rfl, rfl⟩) S9 s9
  refine ⟨Sa, ?_, ((((((((a1.tr a2).tr a3).tr a4).tr a5).tr a6).tr a7).tr a8).tr a9).tr aa⟩
  refine Rn_of hp_X8_joinNight [some (.ref (gB G + 0)), some (.long h0), none, some (.int (nI n)), none, none, none] rfl (Nat.le_of_ble_eq_true rfl) (Nat.le_of_ble_eq_true rfl) ?_
  refine V_ll1 d_X8_joinNight_0 ?_
  refine V_ls4 d_X8_joinNight_1 rfl ?_
  refine V_ki d_X8_joinNight_3 ?_
  refine V_is6 d_X8_joinNight_4 rfl ?_
  refine k1 _ ?_
  refine V_ll4 d_X8_joinNight_34 ?_
  refine V_al0 d_X8_joinNight_36 ?_
  refine V_il3 d_X8_joinNight_37 ?_
  refine V_ki d_X8_joinNight_38 ?_
  refine U_cv2 d_X8_joinNight_39 (r2) rfl rfl rfl ?_
  refine V_i2l d_X8_joinNight_42 rfl ?_
  refine U_cs2 d_X8_joinNight_43 (c_X8_join) rfl ?_
  refine V_al0 d_X8_joinNight_46 ?_
  refine V_il3 d_X8_joinNight_47 ?_
  refine V_ki d_X8_joinNight_48 ?_
  refine U_cv2 d_X8_joinNight_50 (r3) rfl rfl rfl ?_
  refine V_i2l d_X8_joinNight_53 rfl ?_
  refine U_cs2 d_X8_joinNight_54 (c_X8_join) rfl ?_
  refine V_al0 d_X8_joinNight_57 ?_
  refine V_il3 d_X8_joinNight_58 ?_
  refine V_ki d_X8_joinNight_59 ?_
  refine U_cv2 d_X8_joinNight_61 (r4) rfl rfl rfl ?_
  refine V_i2l d_X8_joinNight_64 rfl ?_
  refine U_cs2 d_X8_joinNight_65 (c_X8_join) rfl ?_
  refine V_ls4 d_X8_joinNight_68 rfl ?_
  refine V_ki d_X8_joinNight_70 ?_
  refine V_is6 d_X8_joinNight_71 rfl ?_
  refine k5 _ ?_
  refine V_ll4 d_X8_joinNight_129 ?_
  refine V_al0 d_X8_joinNight_131 ?_
  refine V_il3 d_X8_joinNight_132 ?_
  refine V_ki d_X8_joinNight_133 ?_
  refine V_ki d_X8_joinNight_134 ?_
  refine U_cv3 d_X8_joinNight_135 (r6) rfl rfl rfl ?_
  refine V_i2l d_X8_joinNight_138 rfl ?_
  refine U_cs2 d_X8_joinNight_139 (c_X8_join) rfl ?_
  refine V_ls4 d_X8_joinNight_142 rfl ?_
  refine V_ll4 d_X8_joinNight_144 ?_
  refine V_al0 d_X8_joinNight_146 ?_
  refine V_il3 d_X8_joinNight_147 ?_
  refine V_ki d_X8_joinNight_148 ?_
  refine U_cv2 d_X8_joinNight_149 (r7) rfl rfl rfl ?_
  refine U_cs2 d_X8_joinNight_152 (c_X8_join) rfl ?_
  refine V_al0 d_X8_joinNight_155 ?_
  refine V_il3 d_X8_joinNight_156 ?_
  refine V_ki d_X8_joinNight_157 ?_
  refine U_cv2 d_X8_joinNight_158 (r8) rfl rfl rfl ?_
  refine U_cs2 d_X8_joinNight_161 (c_X8_join) rfl ?_
  refine V_ls4 d_X8_joinNight_164 rfl ?_
  refine V_ll4 d_X8_joinNight_166 ?_
  refine V_al0 d_X8_joinNight_168 ?_
  refine V_il3 d_X8_joinNight_169 ?_
  refine V_ki d_X8_joinNight_170 ?_
  refine V_ki d_X8_joinNight_171 ?_
  refine U_cv3 d_X8_joinNight_172 (r9) rfl rfl rfl ?_
  refine U_cs2 d_X8_joinNight_175 (c_X8_join) rfl ?_
  refine V_al0 d_X8_joinNight_178 ?_
  refine V_il3 d_X8_joinNight_179 ?_
  refine V_ki d_X8_joinNight_180 ?_
  refine V_ki d_X8_joinNight_181 ?_
  refine U_cv3 d_X8_joinNight_182 (ra) rfl rfl rfl ?_
  refine U_cs2 d_X8_joinNight_185 (c_X8_join) rfl ?_
  exact V_lret d_X8_joinNight_188 rfl (by first | rfl | simp_all) rfl
set_option maxRecDepth 100000 in
theorem g8_joinBook {G : Gm} {b : Nat → Nat} {sz : Nat} {ft : Int32} {N : List (List Nat)} {w wy : Nat → Nat} {lk nd : Nat} {h0 : Int64} (hx : TXT b sz ft N) (hB : HB w wy lk nd) : EX G M_X8_joinBook [.ref (gB G + 0), .long h0] (some (.long (dgB N h0))) b sz ft N w wy lk nd := by
  intro S h
  obtain ⟨⟨hsz, hbs⟩, hcn, hmt, hhc, hhm, hsh, hfd⟩ := id h
  have hN := PR_wf hx.2.2
  have hN8 := hN.1
  obtain ⟨l1, l2⟩ := hB.2.2.1
  obtain ⟨n1, n2⟩ := hB.2.2.2
  have loop : ∀ (d i : Nat) (hq : Int64) (S : AS), i + d = 6 → ST S b sz ft N w wy lk nd → ∃ S1, Ag PQ S S1 ∧ ∀ Z, U G M_X8_joinBook Z 89 [some (.ref (gB G + 0)), some (.long h0), none, some (.int (nI N.length)), some (.long (dgF N d i hq)), none, some (.int (nI 6))] [] S1 → U G M_X8_joinBook Z 62 [some (.ref (gB G + 0)), some (.long h0), none, some (.int (nI N.length)), some (.long hq), none, some (.int (nI i))] [] S := by
    intro d
    induction d with
    | zero =>
      intro i hq S hi hs
      rw [Nat.add_zero] at hi
      subst hi
      refine ⟨S, Ag.rf, fun Z kz => ?_⟩
      refine V_il6 d_X8_joinBook_62 ?_
      refine V_ki d_X8_joinBook_64 ?_
      refine U_ic_geN d_X8_joinBook_66 (by omega) (by omega) (fun h66 => ?_) (fun q => absurd q (by omega))
      exact kz
    | succ d ih =>
      intro i hq S hi hs
      obtain ⟨S1, r1, a1⟩ := g8_fresh (G := G) (vI := nI i) (r := oI (lnR (stN N N.length) (i + 1) 0 6)) hx hB (Or.inr ⟨i, by omega, rfl, rfl⟩) S hs
      obtain ⟨S2, a2, kk⟩ := ih (i + 1) (jn hq (oI (lnR (stN N N.length) (i + 1) 0 6)).toInt64) S1 (by omega) (hs.ag a1)
      refine ⟨S2, a1.tr a2, fun Z kz => ?_⟩
      refine V_il6 d_X8_joinBook_62 ?_
      refine V_ki d_X8_joinBook_64 ?_
      refine U_ic_geN d_X8_joinBook_66 (by omega) (by omega) (fun q => absurd q (by omega)) (fun h66 => ?_)
      refine V_ll4 d_X8_joinBook_69 ?_
      refine V_al0 d_X8_joinBook_71 ?_
      refine V_il6 d_X8_joinBook_72 ?_
      refine U_cv1 d_X8_joinBook_74 (r1) rfl rfl rfl ?_
      refine V_i2l d_X8_joinBook_77 rfl ?_
      refine U_cs2 d_X8_joinBook_78 (c_X8_join) rfl ?_
      refine V_ls4 d_X8_joinBook_81 rfl ?_
      refine V_icN6 d_X8_joinBook_83 rfl ?_
      refine V_goto d_X8_joinBook_86 ?_
      exact kk Z kz
  obtain ⟨S1, r1, a1⟩ := g8_next (G := G) (p := 6) (i := 0) (j := 0) hx hB (Nat.le_refl _) (by omega) (by omega) (by omega) S h
  have s1 := h.ag a1
  obtain ⟨S2, r2, a2⟩ := g8_next (G := G) (p := 6) (i := 0) (j := 1) hx hB (Nat.le_refl _) (by omega) (by omega) (by omega) S1 s1
  have s2 := s1.ag a2
  obtain ⟨S3, r3, a3⟩ := g8_next (G := G) (p := 1) (i := 2) (j := 0) hx hB (Nat.le_refl _) (by omega) (by omega) (by omega) S2 s2
  have s3 := s2.ag a3
  obtain ⟨S4, r4, a4⟩ := g8_next (G := G) (p := 1) (i := 2) (j := 1) hx hB (Nat.le_refl _) (by omega) (by omega) (by omega) S3 s3
  have s4 := s3.ag a4
  obtain ⟨S5, r5, a5⟩ := g8_fresh (G := G) (vI := -1) (r := nI (eB (stN N N.length) 6 0 6)) hx hB (Or.inl ⟨rfl, rfl⟩) S4 s4
  have s5 := s4.ag a5
  obtain ⟨S6, a6, k6⟩ := loop 6 0 (jn (jn (jn (jn (jn h0 (nxV N 6 0 0)) (nxV N 6 0 1)) (nxV N 1 2 0)) (nxV N 1 2 1)) (nI (eB (stN N N.length) 6 0 6)).toInt64) S5 rfl s5
  refine ⟨S6, ?_, ((((a1.tr a2).tr a3).tr a4).tr a5).tr a6⟩
  refine Rn_of hp_X8_joinBook [some (.ref (gB G + 0)), some (.long h0), none, none, none, none, none] rfl (Nat.le_of_ble_eq_true rfl) (Nat.le_of_ble_eq_true rfl) ?_
  refine V_al0 d_X8_joinBook_0 ?_
  refine V_getR d_X8_joinBook_1 rfl rfl (by decide) rfl ?_
  refine V_getIe d_X8_joinBook_4 rfl rfl (by decide) (hcn.2.1) ?_
  refine V_is3 d_X8_joinBook_7 rfl ?_
  refine V_ll1 d_X8_joinBook_8 ?_
  refine V_al0 d_X8_joinBook_9 ?_
  refine V_il3 d_X8_joinBook_10 ?_
  refine V_ki d_X8_joinBook_11 ?_
  refine V_ki d_X8_joinBook_12 ?_
  refine V_ki d_X8_joinBook_13 ?_
  refine U_cv4 d_X8_joinBook_14 (r1) rfl rfl rfl ?_
  refine U_cs2 d_X8_joinBook_17 (c_X8_join) rfl ?_
  refine V_al0 d_X8_joinBook_20 ?_
  refine V_il3 d_X8_joinBook_21 ?_
  refine V_ki d_X8_joinBook_22 ?_
  refine V_ki d_X8_joinBook_23 ?_
  refine V_ki d_X8_joinBook_24 ?_
  refine U_cv4 d_X8_joinBook_25 (r2) rfl rfl rfl ?_
  refine U_cs2 d_X8_joinBook_28 (c_X8_join) rfl ?_
  refine V_ls4 d_X8_joinBook_31 rfl ?_
  refine V_ll4 d_X8_joinBook_33 ?_
  refine V_al0 d_X8_joinBook_35 ?_
  refine V_il3 d_X8_joinBook_36 ?_
  refine V_ki d_X8_joinBook_37 ?_
  refine V_ki d_X8_joinBook_38 ?_
  refine V_ki d_X8_joinBook_39 ?_
  refine U_cv4 d_X8_joinBook_40 (r3) rfl rfl rfl ?_
  refine U_cs2 d_X8_joinBook_43 (c_X8_join) rfl ?_
  refine V_al0 d_X8_joinBook_46 ?_
  refine V_il3 d_X8_joinBook_47 ?_
  refine V_ki d_X8_joinBook_48 ?_
  refine V_ki d_X8_joinBook_49 ?_
  refine V_ki d_X8_joinBook_50 ?_
  refine U_cv4 d_X8_joinBook_51 (r4) rfl rfl rfl ?_
  refine U_cs2 d_X8_joinBook_54 (c_X8_join) rfl ?_
  refine V_ls4 d_X8_joinBook_57 rfl ?_
  refine V_ki d_X8_joinBook_59 ?_
  refine V_is6 d_X8_joinBook_60 rfl ?_
  skip
  refine V_il6 d_X8_joinBook_62 ?_
  refine V_ki d_X8_joinBook_64 ?_
  refine V_ic_ge d_X8_joinBook_66 (fun q => absurd q (by decide)) (fun h66 => ?_)
  refine V_ll4 d_X8_joinBook_69 ?_
  refine V_al0 d_X8_joinBook_71 ?_
  refine V_il6 d_X8_joinBook_72 ?_
  refine U_cv1 d_X8_joinBook_74 (r5) rfl rfl rfl ?_
  refine V_i2l d_X8_joinBook_77 rfl ?_
  refine U_cs2 d_X8_joinBook_78 (c_X8_join) rfl ?_
  refine V_ls4 d_X8_joinBook_81 rfl ?_
  refine V_ic6 d_X8_joinBook_83 rfl (show (-1 : Int32) + Int32.ofInt 1 = nI 0 by decide) ?_
  refine V_goto d_X8_joinBook_86 ?_
  refine k6 _ ?_
  refine V_ll4 d_X8_joinBook_89 ?_
  exact V_lret d_X8_joinBook_91 rfl (by first | rfl | simp_all) rfl
