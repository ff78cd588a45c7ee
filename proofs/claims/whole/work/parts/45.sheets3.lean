/-! sheets: write, copy -/
def PEM (a b : Nat) : Bool := PE a b || PM a b
theorem PEM_E {S S1 : AS} (h : Ag PE S S1) : Ag PEM S S1 := h.mono (fun a b q => by
  unfold PEM at q
  simp only [Bool.or_eq_false_iff] at q
  exact q.1)
theorem PEM_M {S S1 : AS} (h : Ag PM S S1) : Ag PEM S S1 := h.mono (fun a b q => by
  unfold PEM at q
  simp only [Bool.or_eq_false_iff] at q
  exact q.2)
theorem ST_shM {S S2 : AS} {b : Nat → Nat} {sz : Nat} {ft : Int32} {N : List (List Nat)} {w wy : Nat → Nat} {lk nd : Nat} (h : ST S b sz ft N w wy lk nd) (hA : Ag PEM S S2) (hs : SHv S2) (hf : S2.1 17 4 = S2.1 22 17) : ST S2 b sz ft N w wy lk nd := by
  obtain ⟨⟨hsz, hbs⟩, hcn, hmt, hhc, hhm, -, -⟩ := h
  exact ⟨⟨(hA.2 4 3 rfl).trans hsz, fun i hi => (hA.2 5 i rfl).trans (hbs i hi)⟩, hcn.ag hA (fun _ => rfl) (fun _ => rfl) (fun _ => rfl), hmt.ag hA rfl (fun _ => rfl), hhc.ag hA (fun _ => rfl) (fun _ => rfl) (fun _ => rfl), hhm.ag hA (fun _ => rfl) (fun _ => rfl) rfl rfl, hs, hf⟩
set_option maxRecDepth 100000 in
theorem o_write {G : Gm} {a c : Int32} : OPI G M_X8_write M_X9_write [.int a, .int c] := by
  intro S hS
  obtain ⟨b, sz, ft, N, w, wy, lk, nd, hx, hB, h⟩ := hS
  obtain ⟨⟨hsz, hbs⟩, hcn, hmt, hhc, hhm, hsh, hfd⟩ := id h
  have hN := PR_wf hx.2.2
  have hN8 := hN.1
  obtain ⟨S0, m1, m2, m3⟩ := c_X9_isNight (G := G) (v := a) hmt hx
  have h0 : ST S0 b sz ft N w wy lk nd := h.ag (PQ_M m3)
  cases c0 : tolB a N.length with
  | false =>
    refine ⟨-2, S, S0, ?_, ?_, ⟨b, sz, ft, N, w, wy, lk, nd, hx, hB, h0⟩⟩
    · refine Rn_of hp_X8_write [some (.ref (gB G + 0)), some (.int a), some (.int c), none, none] rfl (Nat.le_of_ble_eq_true rfl) (Nat.le_of_ble_eq_true rfl) ?_
      refine V_al0 d_X8_write_0 ?_
      refine V_getR d_X8_write_1 rfl rfl (by decide) rfl ?_
      refine V_il1 d_X8_write_4 ?_
      refine U_cv1 d_X8_write_5 (c_X4_isTold hcn.2.1 hN8) rfl rfl rfl ?_
      refine V_eqB d_X8_write_8 (fun h8 => ?_) (fun q => (bTF q (c0)).elim)
      refine V_ki d_X8_write_18 ?_
      exact V_iret d_X8_write_20 rfl (by first | rfl | simp_all) rfl
    · refine Rn_of hp_X9_write [some (.ref (gB G + 22)), some (.int a), some (.int c), none] rfl (Nat.le_of_ble_eq_true rfl) (Nat.le_of_ble_eq_true rfl) ?_
      refine V_al0 d_X9_write_0 ?_
      refine V_il1 d_X9_write_1 ?_
      refine U_cv1 d_X9_write_2 (m1) rfl rfl rfl ?_
      refine V_eqB d_X9_write_5 (fun h5 => ?_) (fun q => (bTF q (c0)).elim)
      refine V_ki d_X9_write_15 ?_
      exact V_iret d_X9_write_17 rfl (by first | rfl | simp_all) rfl
  | true =>
    cases c1 : inR c (nI 0) (nI 3) with
    | false =>
      refine ⟨-2, S, S0, ?_, ?_, ⟨b, sz, ft, N, w, wy, lk, nd, hx, hB, h0⟩⟩
      · refine Rn_of hp_X8_write [some (.ref (gB G + 0)), some (.int a), some (.int c), none, none] rfl (Nat.le_of_ble_eq_true rfl) (Nat.le_of_ble_eq_true rfl) ?_
        refine V_al0 d_X8_write_0 ?_
        refine V_getR d_X8_write_1 rfl rfl (by decide) rfl ?_
        refine V_il1 d_X8_write_4 ?_
        refine U_cv1 d_X8_write_5 (c_X4_isTold hcn.2.1 hN8) rfl rfl rfl ?_
        refine V_eqB d_X8_write_8 (fun q => (bTF (c0) q).elim) (fun h8 => ?_)
        refine V_il2 d_X8_write_11 ?_
        refine U_cs1 d_X8_write_12 (c_X8_isSheet) rfl ?_
        refine V_neB d_X8_write_15 (fun q => (bTF q (c1)).elim) (fun h15 => ?_)
        refine V_ki d_X8_write_18 ?_
        exact V_iret d_X8_write_20 rfl (by first | rfl | simp_all) rfl
      · refine Rn_of hp_X9_write [some (.ref (gB G + 22)), some (.int a), some (.int c), none] rfl (Nat.le_of_ble_eq_true rfl) (Nat.le_of_ble_eq_true rfl) ?_
        refine V_al0 d_X9_write_0 ?_
        refine V_il1 d_X9_write_1 ?_
        refine U_cv1 d_X9_write_2 (m1) rfl rfl rfl ?_
        refine V_eqB d_X9_write_5 (fun q => (bTF (c0) q).elim) (fun h5 => ?_)
        refine V_il2 d_X9_write_8 ?_
        refine U_cs1 d_X9_write_9 (c_X9_isSheet) rfl ?_
        refine V_neB d_X9_write_12 (fun q => (bTF q (c1)).elim) (fun h12 => ?_)
        refine V_ki d_X9_write_15 ?_
        exact V_iret d_X9_write_17 rfl (by first | rfl | simp_all) rfl
    | true =>
      obtain ⟨s, hs3, rfl⟩ := inR_ex (by decide) c1
      obtain ⟨n, hn, rfl⟩ := tolB_ex (by omega) c0
      have hL := c_X5_isLost (G := G) (S := S) (s := s) (by omega)
      rcases hsh s (by omega) with ⟨g1, g2⟩ | ⟨f, z, g1, g2, g3, g4, g5, g6, g7, g8⟩
      · rw [decide_eq_true g1] at hL
        obtain ⟨S5, p1, p2, p3⟩ := c_X9_isNight (G := G) (S := sI S 17 4 (nI 1)) (v := nI n) (hmt.ag (Ag.rf.sI (P := PE) rfl) rfl (fun _ => rfl)) hx
        have hst : ST (sI S5 22 17 (nI 1)) b sz ft N w wy lk nd := by
          have hA : Ag PEM S (sI S5 22 17 (nI 1)) := (((PEM_E (Ag.rf.sI rfl)).tr (PEM_M p3)).sI rfl)
          have hs5 : SHv S5 := SHv.ag p3 (show SHv (sI S 17 4 (nI 1)) from hsh) (fun _ => rfl) (fun _ => rfl) (fun _ => rfl) (fun _ => rfl) (fun _ => rfl) (fun _ => rfl) (fun _ => rfl)
          refine ST_shM h hA (show SHv (sI S5 22 17 (nI 1)) from hs5) ?_
          exact p3.2 17 4 rfl
        have g2' : S5.1 30 s = nI 0 := (p3.2 30 s rfl).trans g2
        refine ⟨(-10 : Int32) - nI 1, sI S 17 4 (nI 1), sI S5 22 17 (nI 1), ?_, ?_, ⟨b, sz, ft, N, w, wy, lk, nd, hx, hB, hst⟩⟩
        · refine Rn_of hp_X8_write [some (.ref (gB G + 0)), some (.int (nI n)), some (.int (nI s)), none, none] rfl (Nat.le_of_ble_eq_true rfl) (Nat.le_of_ble_eq_true rfl) ?_
          refine V_al0 d_X8_write_0 ?_
          refine V_getR d_X8_write_1 rfl rfl (by decide) rfl ?_
          refine V_il1 d_X8_write_4 ?_
          refine U_cv1 d_X8_write_5 (c_X4_isTold hcn.2.1 hN8) rfl rfl rfl ?_
          refine V_eqB d_X8_write_8 (fun q => (bTF (c0) q).elim) (fun h8 => ?_)
          refine V_il2 d_X8_write_11 ?_
          refine U_cs1 d_X8_write_12 (c_X8_isSheet) rfl ?_
          refine V_neB d_X8_write_15 (fun h15 => ?_) (fun q => (bTF (c1) q).elim)
          refine V_al0 d_X8_write_21 ?_
          refine V_getR d_X8_write_22 rfl rfl (by decide) rfl ?_
          refine V_il2 d_X8_write_25 ?_
          refine U_cv1 d_X8_write_26 (hL) rfl rfl rfl ?_
          refine V_eqB d_X8_write_29 (fun q => (bTF (rfl) q).elim) (fun h29 => ?_)
          refine V_al0 d_X8_write_32 ?_
          refine V_getR d_X8_write_33 rfl rfl (by decide) rfl ?_
          refine V_ki d_X8_write_36 ?_
          refine U_cv1 d_X8_write_37 (c_X5_found) rfl rfl rfl ?_
          exact V_iret d_X8_write_40 rfl (by first | rfl | simp_all) rfl
        · refine Rn_of hp_X9_write [some (.ref (gB G + 22)), some (.int (nI n)), some (.int (nI s)), none] rfl (Nat.le_of_ble_eq_true rfl) (Nat.le_of_ble_eq_true rfl) ?_
          refine V_al0 d_X9_write_0 ?_
          refine V_il1 d_X9_write_1 ?_
          refine U_cv1 d_X9_write_2 (p1) rfl rfl rfl ?_
          refine V_eqB d_X9_write_5 (fun q => (bTF (c0) q).elim) (fun h5 => ?_)
          refine V_il2 d_X9_write_8 ?_
          refine U_cs1 d_X9_write_9 (c_X9_isSheet) rfl ?_
          refine V_neB d_X9_write_12 (fun h12 => ?_) (fun q => (bTF (c1) q).elim)
          refine V_al0 d_X9_write_18 ?_
          refine V_getR d_X9_write_19 rfl rfl (by decide) rfl ?_
          refine V_il2 d_X9_write_22 ?_
          refine V_zald d_X9_write_23 rfl (by decide) rfl (by omega) ?_
          refine V_topi g2' ?_
          refine V_if_ne d_X9_write_24 (fun q => absurd rfl q) (fun h24 => ?_)
          refine V_al0 d_X9_write_27 ?_
          refine V_ki d_X9_write_28 ?_
          refine U_cv1 d_X9_write_29 (c_X9_meets) rfl rfl rfl ?_
          exact V_iret d_X9_write_32 rfl (by first | rfl | simp_all) rfl
      · rw [decide_eq_false (by rw [g3]; exact nI_m1 (by omega))] at hL
        have hz := c_X5_sizeOf (G := G) (S := S) (s := s) (by omega)
        rw [g6] at hz
        have hAg : ∀ i, Ag PE S (wrT S 20 (s * 48) (fun i => nrI f (atL wy lk (ni N n) 0 i)) i) := fun i => Ag.rf.wrT (fun _ => rfl)
        have loop8 : ∀ d i, i + d = z → U G M_X8_write (Ze G (some (.int (nI z))) (wrT S 20 (s * 48) (fun i => nrI f (atL wy lk (ni N n) 0 i)) z)) 53 [some (.ref (gB G + 0)), some (.int (nI n)), some (.int (nI s)), some (.int (nI z)), some (.int (nI i))] [] (wrT S 20 (s * 48) (fun i => nrI f (atL wy lk (ni N n) 0 i)) i) := by
          intro d
          induction d with
          | zero =>
            intro i hi
            rw [Nat.add_zero] at hi
            subst hi
            refine V_il4 d_X8_write_53 ?_
            refine V_il3 d_X8_write_55 ?_
            refine U_ic_geN d_X8_write_56 (by omega) (by omega) (fun h56 => ?_) (fun q => absurd q (by omega))
            refine V_il3 d_X8_write_85 ?_
            exact V_iret d_X8_write_86 rfl (by first | rfl | simp_all) rfl
          | succ d ih =>
            intro i hi
            have hsd := c_X7_shedIn (G := G) (m := i) (hhc.ag (hAg i) (fun _ => rfl) (fun _ => rfl) (fun _ => rfl)) hB (hcn.ag (hAg i) (fun _ => rfl) (fun _ => rfl) (fun _ => rfl)) hN hn (by omega)
            have hch := c_X5_change (G := G) (S := wrT S 20 (s * 48) (fun i => nrI f (atL wy lk (ni N n) 0 i)) i) (s := s) (i := i) (v := atL wy lk (ni N n) 0 i) (by omega) (by omega) g1 g3
            have r1 := ih (i + 1) (by omega)
            rw [← wrT_s S 20 (s * 48) (fun i => nrI f (atL wy lk (ni N n) 0 i)) i] at r1
            refine V_il4 d_X8_write_53 ?_
            refine V_il3 d_X8_write_55 ?_
            refine U_ic_geN d_X8_write_56 (by omega) (by omega) (fun q => absurd q (by omega)) (fun h56 => ?_)
            refine V_al0 d_X8_write_59 ?_
            refine V_getR d_X8_write_60 rfl rfl (by decide) rfl ?_
            refine V_il2 d_X8_write_63 ?_
            refine V_il4 d_X8_write_64 ?_
            refine V_al0 d_X8_write_66 ?_
            refine V_getR d_X8_write_67 rfl rfl (by decide) rfl ?_
            refine V_il1 d_X8_write_70 ?_
            refine V_il4 d_X8_write_71 ?_
            refine U_cv2 d_X8_write_73 (hsd) rfl rfl rfl ?_
            refine U_cv3v d_X8_write_76 (hch) rfl rfl rfl ?_
            refine V_icN4 d_X8_write_79 rfl ?_
            refine V_goto d_X8_write_82 ?_
            exact r1
        have l8 := loop8 z 0 (Nat.zero_add _)
        rw [wrT_0] at l8
        obtain ⟨S5, p1, p2, p3⟩ := c_X9_isNight (G := G) (S := wrT S 20 (s * 48) (fun i => nrI f (atL wy lk (ni N n) 0 i)) z) (v := nI n) (hmt.ag (hAg z) rfl (fun _ => rfl)) hx
        have hhm5 := (hhm.ag (hAg z) (fun _ => rfl) (fun _ => rfl) rfl rfl).ag p3 (fun _ => rfl) (fun _ => rfl) rfl rfl
        have q30 : S5.1 30 s = nI 1 := (p3.2 30 s rfl).trans g5
        have q31 : S5.1 31 s = nI f := (p3.2 31 s rfl).trans g4
        have q32 : S5.1 32 s = nI z := (p3.2 32 s rfl).trans g7
        have hBg : ∀ i, Ag PE S5 (wrT S5 33 (48 * s) (fun i => nrI f (atL wy lk (ni N n) 0 i)) i) := fun i => Ag.rf.wrT (fun _ => rfl)
        have loop9 : ∀ d i, i + d = z → U G M_X9_write (Ze G (some (.int (nI z))) (wrT S5 33 (48 * s) (fun i => nrI f (atL wy lk (ni N n) 0 i)) z)) 35 [some (.ref (gB G + 22)), some (.int (nI n)), some (.int (nI s)), some (.int (nI i))] [] (wrT S5 33 (48 * s) (fun i => nrI f (atL wy lk (ni N n) 0 i)) i) := by
          intro d
          induction d with
          | zero =>
            intro i hi
            rw [Nat.add_zero] at hi
            subst hi
            have q32' : (wrT S5 33 (48 * s) (fun i => nrI f (atL wy lk (ni N n) 0 i)) i).1 32 s = nI i := q32
            refine V_il3 d_X9_write_35 ?_
            refine V_al0 d_X9_write_36 ?_
            refine V_getR d_X9_write_37 rfl rfl (by decide) rfl ?_
            refine V_il2 d_X9_write_40 ?_
            refine V_ialdE d_X9_write_41 rfl (by decide) rfl (show s < 4 by omega) q32' ?_
            refine U_ic_geN d_X9_write_42 (by omega) (by omega) (fun h42 => ?_) (fun q => absurd q (by omega))
            refine V_al0 d_X9_write_63 ?_
            refine V_getR d_X9_write_64 rfl rfl (by decide) rfl ?_
            refine V_il2 d_X9_write_67 ?_
            refine V_ialdE d_X9_write_68 rfl (by decide) rfl (show s < 4 by omega) q32' ?_
            exact V_iret d_X9_write_69 rfl (by first | rfl | simp_all) rfl
          | succ d ih =>
            intro i hi
            have q32' : (wrT S5 33 (48 * s) (fun i => nrI f (atL wy lk (ni N n) 0 i)) i).1 32 s = nI z := q32
            have hat := c_X9_atOf (G := G) (m := i) (hhm5.ag (hBg i) (fun _ => rfl) (fun _ => rfl) rfl rfl) hB (p2.ag (hBg i) rfl (fun _ => rfl) (fun _ => rfl)) hN hn (by omega)
            have hk := c_X9_keep (G := G) (S := wrT S5 33 (48 * s) (fun i => nrI f (atL wy lk (ni N n) 0 i)) i) (s := s) (i := i) (v := atL wy lk (ni N n) 0 i) (by omega) (by omega) g1 q31
            have r1 := ih (i + 1) (by omega)
            rw [← wrT_s S5 33 (48 * s) (fun i => nrI f (atL wy lk (ni N n) 0 i)) i] at r1
            refine V_il3 d_X9_write_35 ?_
            refine V_al0 d_X9_write_36 ?_
            refine V_getR d_X9_write_37 rfl rfl (by decide) rfl ?_
            refine V_il2 d_X9_write_40 ?_
            refine V_ialdE d_X9_write_41 rfl (by decide) rfl (show s < 4 by omega) q32' ?_
            refine U_ic_geN d_X9_write_42 (by omega) (by omega) (fun q => absurd q (by omega)) (fun h42 => ?_)
            refine V_al0 d_X9_write_45 ?_
            refine V_il2 d_X9_write_46 ?_
            refine V_il3 d_X9_write_47 ?_
            refine V_al0 d_X9_write_48 ?_
            refine V_il1 d_X9_write_49 ?_
            refine V_il3 d_X9_write_50 ?_
            refine U_cv2 d_X9_write_51 (hat) rfl rfl rfl ?_
            refine U_cv3v d_X9_write_54 (hk) rfl rfl rfl ?_
            refine V_icN3 d_X9_write_57 rfl ?_
            refine V_goto d_X9_write_60 ?_
            exact r1
        have l9 := loop9 z 0 (Nat.zero_add _)
        rw [wrT_0] at l9
        have hst : ST (wrT S5 33 (48 * s) (fun i => nrI f (atL wy lk (ni N n) 0 i)) z) b sz ft N w wy lk nd := by
          refine ST_shM h (((PEM_E (hAg z)).tr (PEM_M p3)).tr (PEM_E (hBg z))) (SHv_upd (s := s) hsh (fun s' h1 h2 => ⟨p3.2 18 s' rfl, p3.2 19 s' rfl, p3.2 30 s' rfl, p3.2 31 s' rfl, p3.2 32 s' rfl, fun i hi => ⟨?_, ?_⟩⟩) (Or.inr ⟨f, z, g1, g2, (p3.2 18 s rfl).trans g3, q31, q30, (p3.2 19 s rfl).trans g6, q32, fun i hi => ?_⟩)) ?_
          · refine (p3.2 20 (s' * 48 + i) rfl).trans ?_
            rw [wrT_1, if_neg (fun z => h2 (by omega))]
          · rw [wrT_1, if_neg (fun z => h2 (by omega))]
            exact p3.2 33 (48 * s' + i) rfl
          · have e33 : (wrT S5 33 (48 * s) (fun i => nrI f (atL wy lk (ni N n) 0 i)) z).1 33 (48 * s + i) = nrI f (atL wy lk (ni N n) 0 i) := by
              rw [wrT_1, if_pos ⟨rfl, by omega, by omega⟩, Nat.add_sub_cancel_left]
            have e20 : (wrT S5 33 (48 * s) (fun i => nrI f (atL wy lk (ni N n) 0 i)) z).1 20 (s * 48 + i) = nrI f (atL wy lk (ni N n) 0 i) := by
              refine (p3.2 20 (s * 48 + i) rfl).trans ?_
              rw [wrT_1, if_pos ⟨rfl, by omega, by omega⟩, Nat.add_sub_cancel_left]
            rw [e33, e20]
            exact ⟨rfl, nrI_nr f _⟩
          · exact ((p3.2 17 4 rfl).trans hfd).trans (p3.2 22 17 rfl).symm
        refine ⟨nI z, wrT S 20 (s * 48) (fun i => nrI f (atL wy lk (ni N n) 0 i)) z, wrT S5 33 (48 * s) (fun i => nrI f (atL wy lk (ni N n) 0 i)) z, ?_, ?_, ⟨b, sz, ft, N, w, wy, lk, nd, hx, hB, hst⟩⟩
        · refine Rn_of hp_X8_write [some (.ref (gB G + 0)), some (.int (nI n)), some (.int (nI s)), none, none] rfl (Nat.le_of_ble_eq_true rfl) (Nat.le_of_ble_eq_true rfl) ?_
          refine V_al0 d_X8_write_0 ?_
          refine V_getR d_X8_write_1 rfl rfl (by decide) rfl ?_
          refine V_il1 d_X8_write_4 ?_
          refine U_cv1 d_X8_write_5 (c_X4_isTold hcn.2.1 hN8) rfl rfl rfl ?_
          refine V_eqB d_X8_write_8 (fun q => (bTF (c0) q).elim) (fun h8 => ?_)
          refine V_il2 d_X8_write_11 ?_
          refine U_cs1 d_X8_write_12 (c_X8_isSheet) rfl ?_
          refine V_neB d_X8_write_15 (fun h15 => ?_) (fun q => (bTF (c1) q).elim)
          refine V_al0 d_X8_write_21 ?_
          refine V_getR d_X8_write_22 rfl rfl (by decide) rfl ?_
          refine V_il2 d_X8_write_25 ?_
          refine U_cv1 d_X8_write_26 (hL) rfl rfl rfl ?_
          refine V_eqB d_X8_write_29 (fun h29 => ?_) (fun q => (bTF q (rfl)).elim)
          refine V_al0 d_X8_write_41 ?_
          refine V_getR d_X8_write_42 rfl rfl (by decide) rfl ?_
          refine V_il2 d_X8_write_45 ?_
          refine U_cv1 d_X8_write_46 (hz) rfl rfl rfl ?_
          refine V_is3 d_X8_write_49 rfl ?_
          refine V_ki d_X8_write_50 ?_
          refine V_is4 d_X8_write_51 rfl ?_
          exact l8
        · refine Rn_of hp_X9_write [some (.ref (gB G + 22)), some (.int (nI n)), some (.int (nI s)), none] rfl (Nat.le_of_ble_eq_true rfl) (Nat.le_of_ble_eq_true rfl) ?_
          refine V_al0 d_X9_write_0 ?_
          refine V_il1 d_X9_write_1 ?_
          refine U_cv1 d_X9_write_2 (p1) rfl rfl rfl ?_
          refine V_eqB d_X9_write_5 (fun q => (bTF (c0) q).elim) (fun h5 => ?_)
          refine V_il2 d_X9_write_8 ?_
          refine U_cs1 d_X9_write_9 (c_X9_isSheet) rfl ?_
          refine V_neB d_X9_write_12 (fun h12 => ?_) (fun q => (bTF (c1) q).elim)
          refine V_al0 d_X9_write_18 ?_
          refine V_getR d_X9_write_19 rfl rfl (by decide) rfl ?_
          refine V_il2 d_X9_write_22 ?_
          refine V_zald d_X9_write_23 rfl (by decide) rfl (by omega) ?_
          refine V_topi q30 ?_
          refine V_if_ne d_X9_write_24 (fun h24 => ?_) (fun q => absurd q (by decide))
          refine V_ki d_X9_write_33 ?_
          refine V_is3 d_X9_write_34 rfl ?_
          exact l9
set_option maxRecDepth 100000 in
theorem o_copy {G : Gm} {a i c j n : Int32} : OPI G M_X8_copy M_X9_copy [.int a, .int i, .int c, .int j, .int n] := by
  intro S hS
  obtain ⟨b, sz, ft, N, w, wy, lk, nd, hx, hB, h⟩ := hS
  obtain ⟨⟨hsz, hbs⟩, hcn, hmt, hhc, hhm, hsh, hfd⟩ := id h
  have hN := PR_wf hx.2.2
  have hN8 := hN.1
  cases c0 : inR a (nI 0) (nI 3) with
  | false =>
    refine ⟨-2, S, S, ?_, ?_, ⟨b, sz, ft, N, w, wy, lk, nd, hx, hB, h⟩⟩
    · refine Rn_of hp_X8_copy [some (.ref (gB G + 0)), some (.int a), some (.int i), some (.int c), some (.int j), some (.int n)] rfl (Nat.le_of_ble_eq_true rfl) (Nat.le_of_ble_eq_true rfl) ?_
      refine V_il1 d_X8_copy_0 ?_
      refine U_cs1 d_X8_copy_1 (c_X8_isSheet) rfl ?_
      refine V_eqB d_X8_copy_4 (fun h4 => ?_) (fun q => (bTF q (c0)).elim)
      refine V_ki d_X8_copy_14 ?_
      exact V_iret d_X8_copy_16 rfl (by first | rfl | simp_all) rfl
    · refine Rn_of hp_X9_copy [some (.ref (gB G + 22)), some (.int a), some (.int i), some (.int c), some (.int j), some (.int n), none] rfl (Nat.le_of_ble_eq_true rfl) (Nat.le_of_ble_eq_true rfl) ?_
      refine V_il1 d_X9_copy_0 ?_
      refine U_cs1 d_X9_copy_1 (c_X9_isSheet) rfl ?_
      refine V_eqB d_X9_copy_4 (fun h4 => ?_) (fun q => (bTF q (c0)).elim)
      refine V_ki d_X9_copy_14 ?_
      exact V_iret d_X9_copy_16 rfl (by first | rfl | simp_all) rfl
  | true =>
    cases c1 : inR c (nI 0) (nI 3) with
    | false =>
      refine ⟨-2, S, S, ?_, ?_, ⟨b, sz, ft, N, w, wy, lk, nd, hx, hB, h⟩⟩
      · refine Rn_of hp_X8_copy [some (.ref (gB G + 0)), some (.int a), some (.int i), some (.int c), some (.int j), some (.int n)] rfl (Nat.le_of_ble_eq_true rfl) (Nat.le_of_ble_eq_true rfl) ?_
        refine V_il1 d_X8_copy_0 ?_
        refine U_cs1 d_X8_copy_1 (c_X8_isSheet) rfl ?_
        refine V_eqB d_X8_copy_4 (fun q => (bTF (c0) q).elim) (fun h4 => ?_)
        refine V_il3 d_X8_copy_7 ?_
        refine U_cs1 d_X8_copy_8 (c_X8_isSheet) rfl ?_
        refine V_neB d_X8_copy_11 (fun q => (bTF q (c1)).elim) (fun h11 => ?_)
        refine V_ki d_X8_copy_14 ?_
        exact V_iret d_X8_copy_16 rfl (by first | rfl | simp_all) rfl
      · refine Rn_of hp_X9_copy [some (.ref (gB G + 22)), some (.int a), some (.int i), some (.int c), some (.int j), some (.int n), none] rfl (Nat.le_of_ble_eq_true rfl) (Nat.le_of_ble_eq_true rfl) ?_
        refine V_il1 d_X9_copy_0 ?_
        refine U_cs1 d_X9_copy_1 (c_X9_isSheet) rfl ?_
        refine V_eqB d_X9_copy_4 (fun q => (bTF (c0) q).elim) (fun h4 => ?_)
        refine V_il3 d_X9_copy_7 ?_
        refine U_cs1 d_X9_copy_8 (c_X9_isSheet) rfl ?_
        refine V_neB d_X9_copy_11 (fun q => (bTF q (c1)).elim) (fun h11 => ?_)
        refine V_ki d_X9_copy_14 ?_
        exact V_iret d_X9_copy_16 rfl (by first | rfl | simp_all) rfl
    | true =>
      obtain ⟨s, hs3, rfl⟩ := inR_ex (by decide) c0
      obtain ⟨t, ht3, rfl⟩ := inR_ex (by decide) c1
      have hLs := c_X5_isLost (G := G) (S := S) (s := s) (by omega)
      have hLt := c_X5_isLost (G := G) (S := S) (s := t) (by omega)
      rcases hsh s (by omega) with ⟨g1, g2⟩ | ⟨f, z, g1, g2, g3, g4, g5, g6, g7, g8⟩
      · rw [decide_eq_true g1] at hLs
        refine ⟨(-10 : Int32) - nI 1, sI S 17 4 (nI 1), sI (sI S 17 4 (nI 1)) 22 17 (nI 1), ?_, ?_, ⟨b, sz, ft, N, w, wy, lk, nd, hx, hB, ST_fd h⟩⟩
        · refine Rn_of hp_X8_copy [some (.ref (gB G + 0)), some (.int (nI s)), some (.int i), some (.int (nI t)), some (.int j), some (.int n)] rfl (Nat.le_of_ble_eq_true rfl) (Nat.le_of_ble_eq_true rfl) ?_
          refine V_il1 d_X8_copy_0 ?_
          refine U_cs1 d_X8_copy_1 (c_X8_isSheet) rfl ?_
          refine V_eqB d_X8_copy_4 (fun q => (bTF (c0) q).elim) (fun h4 => ?_)
          refine V_il3 d_X8_copy_7 ?_
          refine U_cs1 d_X8_copy_8 (c_X8_isSheet) rfl ?_
          refine V_neB d_X8_copy_11 (fun h11 => ?_) (fun q => (bTF (c1) q).elim)
          refine V_al0 d_X8_copy_17 ?_
          refine V_getR d_X8_copy_18 rfl rfl (by decide) rfl ?_
          refine V_il1 d_X8_copy_21 ?_
          refine U_cv1 d_X8_copy_22 (hLs) rfl rfl rfl ?_
          refine V_neB d_X8_copy_25 (fun h25 => ?_) (fun q => (bTF (rfl) q).elim)
          refine V_al0 d_X8_copy_39 ?_
          refine V_getR d_X8_copy_40 rfl rfl (by decide) rfl ?_
          refine V_ki d_X8_copy_43 ?_
          refine U_cv1 d_X8_copy_44 (c_X5_found) rfl rfl rfl ?_
          exact V_iret d_X8_copy_47 rfl (by first | rfl | simp_all) rfl
        · refine Rn_of hp_X9_copy [some (.ref (gB G + 22)), some (.int (nI s)), some (.int i), some (.int (nI t)), some (.int j), some (.int n), none] rfl (Nat.le_of_ble_eq_true rfl) (Nat.le_of_ble_eq_true rfl) ?_
          refine V_il1 d_X9_copy_0 ?_
          refine U_cs1 d_X9_copy_1 (c_X9_isSheet) rfl ?_
          refine V_eqB d_X9_copy_4 (fun q => (bTF (c0) q).elim) (fun h4 => ?_)
          refine V_il3 d_X9_copy_7 ?_
          refine U_cs1 d_X9_copy_8 (c_X9_isSheet) rfl ?_
          refine V_neB d_X9_copy_11 (fun h11 => ?_) (fun q => (bTF (c1) q).elim)
          refine V_al0 d_X9_copy_17 ?_
          refine V_getR d_X9_copy_18 rfl rfl (by decide) rfl ?_
          refine V_il1 d_X9_copy_21 ?_
          refine V_zald d_X9_copy_22 rfl (by decide) rfl (by omega) ?_
          refine V_topi (show (sI S 17 4 (nI 1)).1 30 s = nI 0 from g2) ?_
          refine V_if_eq d_X9_copy_23 (fun h23 => ?_) (fun q => absurd rfl q)
          refine V_al0 d_X9_copy_35 ?_
          refine V_ki d_X9_copy_36 ?_
          refine U_cv1 d_X9_copy_37 (c_X9_meets) rfl rfl rfl ?_
          exact V_iret d_X9_copy_40 rfl (by first | rfl | simp_all) rfl
      · rw [decide_eq_false (by rw [g3]; exact nI_m1 (by omega))] at hLs
        rcases hsh t (by omega) with ⟨k1, k2⟩ | ⟨f2, z2, k1, k2, k3, k4, k5, k6, k7, k8⟩
        · rw [decide_eq_true k1] at hLt
          refine ⟨(-10 : Int32) - nI 1, sI S 17 4 (nI 1), sI (sI S 17 4 (nI 1)) 22 17 (nI 1), ?_, ?_, ⟨b, sz, ft, N, w, wy, lk, nd, hx, hB, ST_fd h⟩⟩
          · refine Rn_of hp_X8_copy [some (.ref (gB G + 0)), some (.int (nI s)), some (.int i), some (.int (nI t)), some (.int j), some (.int n)] rfl (Nat.le_of_ble_eq_true rfl) (Nat.le_of_ble_eq_true rfl) ?_
            refine V_il1 d_X8_copy_0 ?_
            refine U_cs1 d_X8_copy_1 (c_X8_isSheet) rfl ?_
            refine V_eqB d_X8_copy_4 (fun q => (bTF (c0) q).elim) (fun h4 => ?_)
            refine V_il3 d_X8_copy_7 ?_
            refine U_cs1 d_X8_copy_8 (c_X8_isSheet) rfl ?_
            refine V_neB d_X8_copy_11 (fun h11 => ?_) (fun q => (bTF (c1) q).elim)
            refine V_al0 d_X8_copy_17 ?_
            refine V_getR d_X8_copy_18 rfl rfl (by decide) rfl ?_
            refine V_il1 d_X8_copy_21 ?_
            refine U_cv1 d_X8_copy_22 (hLs) rfl rfl rfl ?_
            refine V_neB d_X8_copy_25 (fun q => (bTF q (rfl)).elim) (fun h25 => ?_)
            refine V_al0 d_X8_copy_28 ?_
            refine V_getR d_X8_copy_29 rfl rfl (by decide) rfl ?_
            refine V_il3 d_X8_copy_32 ?_
            refine U_cv1 d_X8_copy_33 (hLt) rfl rfl rfl ?_
            refine V_eqB d_X8_copy_36 (fun q => (bTF (rfl) q).elim) (fun h36 => ?_)
            refine V_al0 d_X8_copy_39 ?_
            refine V_getR d_X8_copy_40 rfl rfl (by decide) rfl ?_
            refine V_ki d_X8_copy_43 ?_
            refine U_cv1 d_X8_copy_44 (c_X5_found) rfl rfl rfl ?_
            exact V_iret d_X8_copy_47 rfl (by first | rfl | simp_all) rfl
          · refine Rn_of hp_X9_copy [some (.ref (gB G + 22)), some (.int (nI s)), some (.int i), some (.int (nI t)), some (.int j), some (.int n), none] rfl (Nat.le_of_ble_eq_true rfl) (Nat.le_of_ble_eq_true rfl) ?_
            refine V_il1 d_X9_copy_0 ?_
            refine U_cs1 d_X9_copy_1 (c_X9_isSheet) rfl ?_
            refine V_eqB d_X9_copy_4 (fun q => (bTF (c0) q).elim) (fun h4 => ?_)
            refine V_il3 d_X9_copy_7 ?_
            refine U_cs1 d_X9_copy_8 (c_X9_isSheet) rfl ?_
            refine V_neB d_X9_copy_11 (fun h11 => ?_) (fun q => (bTF (c1) q).elim)
            refine V_al0 d_X9_copy_17 ?_
            refine V_getR d_X9_copy_18 rfl rfl (by decide) rfl ?_
            refine V_il1 d_X9_copy_21 ?_
            refine V_zald d_X9_copy_22 rfl (by decide) rfl (by omega) ?_
            refine V_topi (show (sI S 17 4 (nI 1)).1 30 s = nI 1 from g5) ?_
            refine V_if_eq d_X9_copy_23 (fun q => absurd q (by decide)) (fun h23 => ?_)
            refine V_al0 d_X9_copy_26 ?_
            refine V_getR d_X9_copy_27 rfl rfl (by decide) rfl ?_
            refine V_il3 d_X9_copy_30 ?_
            refine V_zald d_X9_copy_31 rfl (by decide) rfl (by omega) ?_
            refine V_topi (show (sI S 17 4 (nI 1)).1 30 t = nI 0 from k2) ?_
            refine V_if_ne d_X9_copy_32 (fun q => absurd rfl q) (fun h32 => ?_)
            refine V_al0 d_X9_copy_35 ?_
            refine V_ki d_X9_copy_36 ?_
            refine U_cv1 d_X9_copy_37 (c_X9_meets) rfl rfl rfl ?_
            exact V_iret d_X9_copy_40 rfl (by first | rfl | simp_all) rfl
        · rw [decide_eq_false (by rw [k3]; exact nI_m1 (by omega))] at hLt
          by_cases cf : f = f2
          · have hIs := c_X5_hasItems (G := G) (S := S) (s := s) (z := z) (i := i) (n := n) (by omega) g2 g6
            have hIt := c_X5_hasItems (G := G) (S := S) (s := t) (z := z2) (i := j) (n := n) (by omega) k2 k6
            obtain ⟨b1, u1, u2⟩ := hIs
            obtain ⟨b2, v1, v2⟩ := hIt
            by_cases ok : b1 = true ∧ b2 = true
            · obtain ⟨ok1, ok2⟩ := ok
              obtain ⟨i', n', ei, en, hz1⟩ := u2.mp ok1
              obtain ⟨j', n2, ej, en2, hz2⟩ := v2.mp ok2
              subst ei
              subst en
              subst ej
              have enn : n' = n2 := by
                have hh1 : n' < 2 ^ 31 := by omega
                have hh2 : n2 < 2 ^ 31 := by omega
                exact nI_inj hh1 hh2 en2
              rw [← enn] at hz2
              rw [ok1] at u1
              rw [ok2] at v1
              obtain ⟨SE, r1, r2, r3⟩ := c_X5_move (G := G) (S := S) (s := s) (i := i') (t := t) (j := j') (n := n') (f := f) (by omega) (by omega) (by omega) (by omega) g1 (by rw [k3, cf])
              have e33 : ∀ x, SE.1 33 x = S.1 33 x := fun x => r3.2 33 x rfl
              have loopA : ∀ (d k : Nat) (Z : ZT), k + d = n' → U G M_X9_copy Z 154 [some (.ref (gB G + 22)), some (.int (nI s)), some (.int (nI i')), some (.int (nI t)), some (.int (nI j')), some (.int (nI n')), some (.int (nI n'))] [] (wrT SE 34 0 (fun k => S.1 33 (48 * s + i' + k)) n') → U G M_X9_copy Z 120 [some (.ref (gB G + 22)), some (.int (nI s)), some (.int (nI i')), some (.int (nI t)), some (.int (nI j')), some (.int (nI n')), some (.int (nI k))] [] (wrT SE 34 0 (fun k => S.1 33 (48 * s + i' + k)) k) := by
                intro d
                induction d with
                | zero =>
                  intro k Z hk kz
                  rw [Nat.add_zero] at hk
                  subst hk
                  refine V_il6 d_X9_copy_120 ?_
                  refine V_il5 d_X9_copy_122 ?_
                  refine U_ic_geN d_X9_copy_124 (by omega) (by omega) (fun h124 => ?_) (fun q => absurd q (by omega))
                  exact kz
                | succ d ih =>
                  intro k Z hk kz
                  have q1 := ih (k + 1) Z (by omega) kz
                  rw [← wrT_s SE 34 0 (fun k => S.1 33 (48 * s + i' + k)) k, Nat.zero_add] at q1
                  have eL : (wrT SE 34 0 (fun k => S.1 33 (48 * s + i' + k)) k).1 33 (48 * s + i' + k) = S.1 33 (48 * s + i' + k) := e33 _
                  refine V_il6 d_X9_copy_120 ?_
                  refine V_il5 d_X9_copy_122 ?_
                  refine U_ic_geN d_X9_copy_124 (by omega) (by omega) (fun q => absurd q (by omega)) (fun h124 => ?_)
                  refine V_al0 d_X9_copy_127 ?_
                  refine V_getR d_X9_copy_128 rfl rfl (by decide) rfl ?_
                  refine V_il6 d_X9_copy_131 ?_
                  refine V_al0 d_X9_copy_133 ?_
                  refine V_getR d_X9_copy_134 rfl rfl (by decide) rfl ?_
                  refine V_ki d_X9_copy_137 ?_
                  refine V_il1 d_X9_copy_139 ?_
                  first | with_reducible refine V_imulN d_X9_copy_140 ?_ | refine V_imul d_X9_copy_140 ?_
                  refine V_il2 d_X9_copy_141 ?_
                  first | with_reducible refine V_iaddN d_X9_copy_142 ?_ | refine V_iadd d_X9_copy_142 ?_
                  refine V_il6 d_X9_copy_143 ?_
                  first | with_reducible refine V_iaddN d_X9_copy_145 ?_ | refine V_iadd d_X9_copy_145 ?_
                  refine V_ialdE d_X9_copy_146 rfl (by decide) rfl (show 48 * s + i' + k < 192 by omega) eL ?_
                  refine V_iast d_X9_copy_147 rfl (by decide) rfl (show k < 48 by omega) ?_
                  refine V_icN6 d_X9_copy_148 rfl ?_
                  refine V_goto d_X9_copy_151 ?_
                  exact q1
              have loopB : ∀ (d k : Nat), k + d = n' → U G M_X9_copy (Ze G (some (.int (nI 1))) (wrT (wrT SE 34 0 (fun k => S.1 33 (48 * s + i' + k)) n') 33 (48 * t + j') (fun k => S.1 33 (48 * s + i' + k)) n')) 157 [some (.ref (gB G + 22)), some (.int (nI s)), some (.int (nI i')), some (.int (nI t)), some (.int (nI j')), some (.int (nI n')), some (.int (nI k))] [] (wrT (wrT SE 34 0 (fun k => S.1 33 (48 * s + i' + k)) n') 33 (48 * t + j') (fun k => S.1 33 (48 * s + i' + k)) k) := by
                intro d
                induction d with
                | zero =>
                  intro k hk
                  rw [Nat.add_zero] at hk
                  subst hk
                  refine V_il6 d_X9_copy_157 ?_
                  refine V_il5 d_X9_copy_159 ?_
                  refine U_ic_geN d_X9_copy_161 (by omega) (by omega) (fun h161 => ?_) (fun q => absurd q (by omega))
                  refine V_ki d_X9_copy_192 ?_
                  exact V_iret d_X9_copy_193 rfl (by first | rfl | simp_all) rfl
                | succ d ih =>
                  intro k hk
                  have q1 := ih (k + 1) (by omega)
                  rw [← wrT_s (wrT SE 34 0 (fun k => S.1 33 (48 * s + i' + k)) n') 33 (48 * t + j') (fun k => S.1 33 (48 * s + i' + k)) k] at q1
                  have eL : (wrT (wrT SE 34 0 (fun k => S.1 33 (48 * s + i' + k)) n') 33 (48 * t + j') (fun k => S.1 33 (48 * s + i' + k)) k).1 34 k = S.1 33 (48 * s + i' + k) := by
                    show (wrT SE 34 0 (fun k => S.1 33 (48 * s + i' + k)) n').1 34 k = _
                    rw [wrT_1, if_pos ⟨rfl, Nat.zero_le _, by omega⟩, Nat.sub_zero]
                  refine V_il6 d_X9_copy_157 ?_
                  refine V_il5 d_X9_copy_159 ?_
                  refine U_ic_geN d_X9_copy_161 (by omega) (by omega) (fun q => absurd q (by omega)) (fun h161 => ?_)
                  refine V_al0 d_X9_copy_164 ?_
                  refine V_getR d_X9_copy_165 rfl rfl (by decide) rfl ?_
                  refine V_ki d_X9_copy_168 ?_
                  refine V_il3 d_X9_copy_170 ?_
                  first | with_reducible refine V_imulN d_X9_copy_171 ?_ | refine V_imul d_X9_copy_171 ?_
                  refine V_il4 d_X9_copy_172 ?_
                  first | with_reducible refine V_iaddN d_X9_copy_174 ?_ | refine V_iadd d_X9_copy_174 ?_
                  refine V_il6 d_X9_copy_175 ?_
                  first | with_reducible refine V_iaddN d_X9_copy_177 ?_ | refine V_iadd d_X9_copy_177 ?_
                  refine V_al0 d_X9_copy_178 ?_
                  refine V_getR d_X9_copy_179 rfl rfl (by decide) rfl ?_
                  refine V_il6 d_X9_copy_182 ?_
                  refine V_ialdE d_X9_copy_184 rfl (by decide) rfl (show k < 48 by omega) eL ?_
                  refine V_iast d_X9_copy_185 rfl (by decide) rfl (show 48 * t + j' + k < 192 by omega) ?_
                  refine V_icN6 d_X9_copy_186 rfl ?_
                  refine V_goto d_X9_copy_189 ?_
                  exact q1
              have la := loopA n' 0 (Ze G (some (.int (nI 1))) (wrT (wrT SE 34 0 (fun k => S.1 33 (48 * s + i' + k)) n') 33 (48 * t + j') (fun k => S.1 33 (48 * s + i' + k)) n')) (Nat.zero_add _)
              rw [wrT_0] at la
              have lb := loopB n' 0 (Nat.zero_add _)
              rw [wrT_0] at lb
              have hA : Ag PE S (wrT (wrT SE 34 0 (fun k => S.1 33 (48 * s + i' + k)) n') 33 (48 * t + j') (fun k => S.1 33 (48 * s + i' + k)) n') := ((r3.mono (fun a b q => by
                unfold PE at q
                simp only [Bool.or_eq_false_iff] at q
                show (a == 20 || a == 21) = false
                rw [q.1.1.1.1.1.1.1.1.2, q.1.1.1.1.1.1.1.2]; rfl)).wrT (fun _ => rfl)).wrT (fun _ => rfl)
              have hst : ST (wrT (wrT SE 34 0 (fun k => S.1 33 (48 * s + i' + k)) n') 33 (48 * t + j') (fun k => S.1 33 (48 * s + i' + k)) n') b sz ft N w wy lk nd := by
                refine ST_sh h hA (SHv_upd (s := t) hsh (fun s' h1 h2 => ⟨r3.2 18 s' rfl, r3.2 19 s' rfl, r3.2 30 s' rfl, r3.2 31 s' rfl, r3.2 32 s' rfl, fun x hxx => ⟨?_, ?_⟩⟩) (Or.inr ⟨f2, z2, k1, k2, (r3.2 18 t rfl).trans k3, (r3.2 31 t rfl).trans k4, (r3.2 30 t rfl).trans k5, (r3.2 19 t rfl).trans k6, (r3.2 32 t rfl).trans k7, fun x hxx => ?_⟩)) (((r3.2 17 4 rfl).trans hfd).trans (r3.2 22 17 rfl).symm)
                · show SE.1 20 (s' * 48 + x) = S.1 20 (s' * 48 + x)
                  rw [r2, if_neg (fun z => h2 (by omega))]
                · rw [wrT_1, if_neg (fun z => h2 (by omega))]
                  exact e33 _
                · show (wrT (wrT SE 34 0 (fun k => S.1 33 (48 * s + i' + k)) n') 33 (48 * t + j') (fun k => S.1 33 (48 * s + i' + k)) n').1 33 (48 * t + x) = SE.1 20 (t * 48 + x) ∧ nrI f2 (SE.1 20 (t * 48 + x)) = SE.1 20 (t * 48 + x)
                  by_cases e : j' ≤ x ∧ x < j' + n'
                  · have ix : i' + (x - j') < z := by omega
                    obtain ⟨p1, p2⟩ := g8 (i' + (x - j')) ix
                    rw [wrT_1, if_pos ⟨rfl, by omega, by omega⟩, r2, if_pos (by omega), show 48 * t + x - (48 * t + j') = x - j' by omega, show t * 48 + x - (t * 48 + j') = x - j' by omega, Nat.add_assoc (s * 48), p2]
                    show S.1 33 (48 * s + i' + (x - j')) = _ ∧ _
                    rw [Nat.add_assoc (48 * s), p1, ← cf, p2]
                    exact ⟨rfl, rfl⟩
                  · rw [wrT_1, if_neg (fun z => e (by omega)), r2, if_neg (fun z => e (by omega))]
                    refine ⟨(e33 _).trans (k8 x hxx).1, (k8 x hxx).2⟩
              refine ⟨nI 1, SE, wrT (wrT SE 34 0 (fun k => S.1 33 (48 * s + i' + k)) n') 33 (48 * t + j') (fun k => S.1 33 (48 * s + i' + k)) n', ?_, ?_, ⟨b, sz, ft, N, w, wy, lk, nd, hx, hB, hst⟩⟩
              · refine Rn_of hp_X8_copy [some (.ref (gB G + 0)), some (.int (nI s)), some (.int (nI i')), some (.int (nI t)), some (.int (nI j')), some (.int (nI n'))] rfl (Nat.le_of_ble_eq_true rfl) (Nat.le_of_ble_eq_true rfl) ?_
                refine V_il1 d_X8_copy_0 ?_
                refine U_cs1 d_X8_copy_1 (c_X8_isSheet) rfl ?_
                refine V_eqB d_X8_copy_4 (fun q => (bTF (c0) q).elim) (fun h4 => ?_)
                refine V_il3 d_X8_copy_7 ?_
                refine U_cs1 d_X8_copy_8 (c_X8_isSheet) rfl ?_
                refine V_neB d_X8_copy_11 (fun h11 => ?_) (fun q => (bTF (c1) q).elim)
                refine V_al0 d_X8_copy_17 ?_
                refine V_getR d_X8_copy_18 rfl rfl (by decide) rfl ?_
                refine V_il1 d_X8_copy_21 ?_
                refine U_cv1 d_X8_copy_22 (hLs) rfl rfl rfl ?_
                refine V_neB d_X8_copy_25 (fun q => (bTF q (rfl)).elim) (fun h25 => ?_)
                refine V_al0 d_X8_copy_28 ?_
                refine V_getR d_X8_copy_29 rfl rfl (by decide) rfl ?_
                refine V_il3 d_X8_copy_32 ?_
                refine U_cv1 d_X8_copy_33 (hLt) rfl rfl rfl ?_
                refine V_eqB d_X8_copy_36 (fun h36 => ?_) (fun q => (bTF q (rfl)).elim)
                refine V_al0 d_X8_copy_48 ?_
                refine V_getR d_X8_copy_49 rfl rfl (by decide) rfl ?_
                refine V_il1 d_X8_copy_52 ?_
                refine U_cv1 d_X8_copy_53 (c_X5_formOf (by omega)) rfl rfl rfl ?_
                refine V_topi g3 ?_
                refine V_al0 d_X8_copy_56 ?_
                refine V_getR d_X8_copy_57 rfl rfl (by decide) rfl ?_
                refine V_il3 d_X8_copy_60 ?_
                refine U_cv1 d_X8_copy_61 (c_X5_formOf (by omega)) rfl rfl rfl ?_
                refine V_topi k3 ?_
                refine U_ic_eqN d_X8_copy_64 (by omega) (by omega) (fun h64 => ?_) (fun q => absurd cf q)
                refine V_al0 d_X8_copy_76 ?_
                refine V_getR d_X8_copy_77 rfl rfl (by decide) rfl ?_
                refine V_il1 d_X8_copy_80 ?_
                refine V_il2 d_X8_copy_81 ?_
                refine V_il5 d_X8_copy_82 ?_
                refine U_cv3 d_X8_copy_84 (u1) rfl rfl rfl ?_
                refine V_eqB d_X8_copy_87 (fun q => (bTF (rfl) q).elim) (fun h87 => ?_)
                refine V_al0 d_X8_copy_90 ?_
                refine V_getR d_X8_copy_91 rfl rfl (by decide) rfl ?_
                refine V_il3 d_X8_copy_94 ?_
                refine V_il4 d_X8_copy_95 ?_
                refine V_il5 d_X8_copy_97 ?_
                refine U_cv3 d_X8_copy_99 (v1) rfl rfl rfl ?_
                refine V_neB d_X8_copy_102 (fun h102 => ?_) (fun q => (bTF (rfl) q).elim)
                refine V_al0 d_X8_copy_114 ?_
                refine V_getR d_X8_copy_115 rfl rfl (by decide) rfl ?_
                refine V_il1 d_X8_copy_118 ?_
                refine V_il2 d_X8_copy_119 ?_
                refine V_il3 d_X8_copy_120 ?_
                refine V_il4 d_X8_copy_121 ?_
                refine V_il5 d_X8_copy_123 ?_
                refine U_cv5v d_X8_copy_125 (r1) rfl rfl rfl ?_
                refine V_ki d_X8_copy_128 ?_
                exact V_iret d_X8_copy_129 rfl (by first | rfl | simp_all) rfl
              · refine Rn_of hp_X9_copy [some (.ref (gB G + 22)), some (.int (nI s)), some (.int (nI i')), some (.int (nI t)), some (.int (nI j')), some (.int (nI n')), none] rfl (Nat.le_of_ble_eq_true rfl) (Nat.le_of_ble_eq_true rfl) ?_
                refine V_il1 d_X9_copy_0 ?_
                refine U_cs1 d_X9_copy_1 (c_X9_isSheet) rfl ?_
                refine V_eqB d_X9_copy_4 (fun q => (bTF (c0) q).elim) (fun h4 => ?_)
                refine V_il3 d_X9_copy_7 ?_
                refine U_cs1 d_X9_copy_8 (c_X9_isSheet) rfl ?_
                refine V_neB d_X9_copy_11 (fun h11 => ?_) (fun q => (bTF (c1) q).elim)
                refine V_al0 d_X9_copy_17 ?_
                refine V_getR d_X9_copy_18 rfl rfl (by decide) rfl ?_
                refine V_il1 d_X9_copy_21 ?_
                refine V_zald d_X9_copy_22 rfl (by decide) rfl (by omega) ?_
                refine V_topi (show SE.1 30 s = nI 1 from (r3.2 30 s rfl).trans g5) ?_
                refine V_if_eq d_X9_copy_23 (fun q => absurd q (by decide)) (fun h23 => ?_)
                refine V_al0 d_X9_copy_26 ?_
                refine V_getR d_X9_copy_27 rfl rfl (by decide) rfl ?_
                refine V_il3 d_X9_copy_30 ?_
                refine V_zald d_X9_copy_31 rfl (by decide) rfl (by omega) ?_
                refine V_topi (show SE.1 30 t = nI 1 from (r3.2 30 t rfl).trans k5) ?_
                refine V_if_ne d_X9_copy_32 (fun h32 => ?_) (fun q => absurd q (by decide))
                refine V_al0 d_X9_copy_41 ?_
                refine V_getR d_X9_copy_42 rfl rfl (by decide) rfl ?_
                refine V_il1 d_X9_copy_45 ?_
                refine V_ialdE d_X9_copy_46 rfl (by decide) rfl (show s < 4 by omega) ((r3.2 31 s rfl).trans g4) ?_
                refine V_al0 d_X9_copy_47 ?_
                refine V_getR d_X9_copy_48 rfl rfl (by decide) rfl ?_
                refine V_il3 d_X9_copy_51 ?_
                refine V_ialdE d_X9_copy_52 rfl (by decide) rfl (show t < 4 by omega) ((r3.2 31 t rfl).trans k4) ?_
                refine U_ic_eqN d_X9_copy_53 (by omega) (by omega) (fun h53 => ?_) (fun q => absurd cf q)
                refine V_il2 d_X9_copy_62 ?_
                refine U_if_ltN d_X9_copy_63 (by omega) (fun q => absurd q (by omega)) (fun h63 => ?_)
                refine V_il4 d_X9_copy_66 ?_
                refine U_if_ltN d_X9_copy_68 (by omega) (fun q => absurd q (by omega)) (fun h68 => ?_)
                refine V_il5 d_X9_copy_71 ?_
                refine U_if_ltN d_X9_copy_73 (by omega) (fun q => absurd q (by omega)) (fun h73 => ?_)
                refine V_il2 d_X9_copy_76 ?_
                refine V_i2lN d_X9_copy_77 (by omega) ?_
                refine V_il5 d_X9_copy_78 ?_
                refine V_i2lN d_X9_copy_80 (by omega) ?_
                first | with_reducible refine V_laddN d_X9_copy_81 ?_ | refine V_ladd d_X9_copy_81 ?_
                refine V_al0 d_X9_copy_82 ?_
                refine V_getR d_X9_copy_83 rfl rfl (by decide) rfl ?_
                refine V_il1 d_X9_copy_86 ?_
                refine V_ialdE d_X9_copy_87 rfl (by decide) rfl (show s < 4 by omega) ((r3.2 32 s rfl).trans g7) ?_
                refine V_i2lN d_X9_copy_88 (by omega) ?_
                refine V_lcmp d_X9_copy_89 ?_
                refine V_if_gt d_X9_copy_90 (fun q => absurd ((pk_lLT (by omega) (by omega)).mp ((lg_cmp_gt _ _).mp q)) (by omega)) (fun h90 => ?_)
                refine V_il4 d_X9_copy_93 ?_
                refine V_i2lN d_X9_copy_95 (by omega) ?_
                refine V_il5 d_X9_copy_96 ?_
                refine V_i2lN d_X9_copy_98 (by omega) ?_
                first | with_reducible refine V_laddN d_X9_copy_99 ?_ | refine V_ladd d_X9_copy_99 ?_
                refine V_al0 d_X9_copy_100 ?_
                refine V_getR d_X9_copy_101 rfl rfl (by decide) rfl ?_
                refine V_il3 d_X9_copy_104 ?_
                refine V_ialdE d_X9_copy_105 rfl (by decide) rfl (show t < 4 by omega) ((r3.2 32 t rfl).trans k7) ?_
                refine V_i2lN d_X9_copy_106 (by omega) ?_
                refine V_lcmp d_X9_copy_107 ?_
                refine V_if_le d_X9_copy_108 (fun h108 => ?_) (fun q => absurd ((lg_cmp_le _ _).mpr ((pk_lLE (by omega) (by omega)).mpr hz2)) q)
                refine V_ki d_X9_copy_117 ?_
                refine V_is6 d_X9_copy_118 rfl ?_
                refine la ?_
                refine V_ki d_X9_copy_154 ?_
                refine V_is6 d_X9_copy_155 rfl ?_
                exact lb
            · skip
              have hc8 : Rm G M_X8_copy [.ref (gB G + 0), .int (nI s), .int i, .int (nI t), .int j, .int n] S (some (.int ((-10 : Int32) - nI 2))) (sI S 17 4 (nI 2)) := by
                refine Rn_of hp_X8_copy [some (.ref (gB G + 0)), some (.int (nI s)), some (.int i), some (.int (nI t)), some (.int j), some (.int n)] rfl (Nat.le_of_ble_eq_true rfl) (Nat.le_of_ble_eq_true rfl) ?_
                cases b1 with
                | false =>
                  refine V_il1 d_X8_copy_0 ?_
                  refine U_cs1 d_X8_copy_1 (c_X8_isSheet) rfl ?_
                  refine V_eqB d_X8_copy_4 (fun q => (bTF (c0) q).elim) (fun h4 => ?_)
                  refine V_il3 d_X8_copy_7 ?_
                  refine U_cs1 d_X8_copy_8 (c_X8_isSheet) rfl ?_
                  refine V_neB d_X8_copy_11 (fun h11 => ?_) (fun q => (bTF (c1) q).elim)
                  refine V_al0 d_X8_copy_17 ?_
                  refine V_getR d_X8_copy_18 rfl rfl (by decide) rfl ?_
                  refine V_il1 d_X8_copy_21 ?_
                  refine U_cv1 d_X8_copy_22 (hLs) rfl rfl rfl ?_
                  refine V_neB d_X8_copy_25 (fun q => (bTF q (rfl)).elim) (fun h25 => ?_)
                  refine V_al0 d_X8_copy_28 ?_
                  refine V_getR d_X8_copy_29 rfl rfl (by decide) rfl ?_
                  refine V_il3 d_X8_copy_32 ?_
                  refine U_cv1 d_X8_copy_33 (hLt) rfl rfl rfl ?_
                  refine V_eqB d_X8_copy_36 (fun h36 => ?_) (fun q => (bTF q (rfl)).elim)
                  refine V_al0 d_X8_copy_48 ?_
                  refine V_getR d_X8_copy_49 rfl rfl (by decide) rfl ?_
                  refine V_il1 d_X8_copy_52 ?_
                  refine U_cv1 d_X8_copy_53 (c_X5_formOf (by omega)) rfl rfl rfl ?_
                  refine V_topi g3 ?_
                  refine V_al0 d_X8_copy_56 ?_
                  refine V_getR d_X8_copy_57 rfl rfl (by decide) rfl ?_
                  refine V_il3 d_X8_copy_60 ?_
                  refine U_cv1 d_X8_copy_61 (c_X5_formOf (by omega)) rfl rfl rfl ?_
                  refine V_topi k3 ?_
                  refine U_ic_eqN d_X8_copy_64 (by omega) (by omega) (fun h64 => ?_) (fun q => absurd cf q)
                  refine V_al0 d_X8_copy_76 ?_
                  refine V_getR d_X8_copy_77 rfl rfl (by decide) rfl ?_
                  refine V_il1 d_X8_copy_80 ?_
                  refine V_il2 d_X8_copy_81 ?_
                  refine V_il5 d_X8_copy_82 ?_
                  refine U_cv3 d_X8_copy_84 (u1) rfl rfl rfl ?_
                  refine V_eqB d_X8_copy_87 (fun h87 => ?_) (fun q => (bTF q (rfl)).elim)
                  refine V_al0 d_X8_copy_105 ?_
                  refine V_getR d_X8_copy_106 rfl rfl (by decide) rfl ?_
                  refine V_ki d_X8_copy_109 ?_
                  refine U_cv1 d_X8_copy_110 (c_X5_found) rfl rfl rfl ?_
                  exact V_iret d_X8_copy_113 rfl (by first | rfl | simp_all) rfl
                | true =>
                  cases b2 with
                  | false =>
                    refine V_il1 d_X8_copy_0 ?_
                    refine U_cs1 d_X8_copy_1 (c_X8_isSheet) rfl ?_
                    refine V_eqB d_X8_copy_4 (fun q => (bTF (c0) q).elim) (fun h4 => ?_)
                    refine V_il3 d_X8_copy_7 ?_
                    refine U_cs1 d_X8_copy_8 (c_X8_isSheet) rfl ?_
                    refine V_neB d_X8_copy_11 (fun h11 => ?_) (fun q => (bTF (c1) q).elim)
                    refine V_al0 d_X8_copy_17 ?_
                    refine V_getR d_X8_copy_18 rfl rfl (by decide) rfl ?_
                    refine V_il1 d_X8_copy_21 ?_
                    refine U_cv1 d_X8_copy_22 (hLs) rfl rfl rfl ?_
                    refine V_neB d_X8_copy_25 (fun q => (bTF q (rfl)).elim) (fun h25 => ?_)
                    refine V_al0 d_X8_copy_28 ?_
                    refine V_getR d_X8_copy_29 rfl rfl (by decide) rfl ?_
                    refine V_il3 d_X8_copy_32 ?_
                    refine U_cv1 d_X8_copy_33 (hLt) rfl rfl rfl ?_
                    refine V_eqB d_X8_copy_36 (fun h36 => ?_) (fun q => (bTF q (rfl)).elim)
                    refine V_al0 d_X8_copy_48 ?_
                    refine V_getR d_X8_copy_49 rfl rfl (by decide) rfl ?_
                    refine V_il1 d_X8_copy_52 ?_
                    refine U_cv1 d_X8_copy_53 (c_X5_formOf (by omega)) rfl rfl rfl ?_
                    refine V_topi g3 ?_
                    refine V_al0 d_X8_copy_56 ?_
                    refine V_getR d_X8_copy_57 rfl rfl (by decide) rfl ?_
                    refine V_il3 d_X8_copy_60 ?_
                    refine U_cv1 d_X8_copy_61 (c_X5_formOf (by omega)) rfl rfl rfl ?_
                    refine V_topi k3 ?_
                    refine U_ic_eqN d_X8_copy_64 (by omega) (by omega) (fun h64 => ?_) (fun q => absurd cf q)
                    refine V_al0 d_X8_copy_76 ?_
                    refine V_getR d_X8_copy_77 rfl rfl (by decide) rfl ?_
                    refine V_il1 d_X8_copy_80 ?_
                    refine V_il2 d_X8_copy_81 ?_
                    refine V_il5 d_X8_copy_82 ?_
                    refine U_cv3 d_X8_copy_84 (u1) rfl rfl rfl ?_
                    refine V_eqB d_X8_copy_87 (fun q => (bTF (rfl) q).elim) (fun h87 => ?_)
                    refine V_al0 d_X8_copy_90 ?_
                    refine V_getR d_X8_copy_91 rfl rfl (by decide) rfl ?_
                    refine V_il3 d_X8_copy_94 ?_
                    refine V_il4 d_X8_copy_95 ?_
                    refine V_il5 d_X8_copy_97 ?_
                    refine U_cv3 d_X8_copy_99 (v1) rfl rfl rfl ?_
                    refine V_neB d_X8_copy_102 (fun q => (bTF q (rfl)).elim) (fun h102 => ?_)
                    refine V_al0 d_X8_copy_105 ?_
                    refine V_getR d_X8_copy_106 rfl rfl (by decide) rfl ?_
                    refine V_ki d_X8_copy_109 ?_
                    refine U_cv1 d_X8_copy_110 (c_X5_found) rfl rfl rfl ?_
                    exact V_iret d_X8_copy_113 rfl (by first | rfl | simp_all) rfl
                  | true => exact absurd ⟨rfl, rfl⟩ ok
              have m111 : U G M_X9_copy (Ze G (some (.int ((-10 : Int32) - nI 2))) (sI (sI S 17 4 (nI 2)) 22 17 (nI 2))) 111 [some (.ref (gB G + 22)), some (.int (nI s)), some (.int i), some (.int (nI t)), some (.int j), some (.int n), none] [] (sI S 17 4 (nI 2)) := by
                refine V_al0 d_X9_copy_111 ?_
                refine V_ki d_X9_copy_112 ?_
                refine U_cv1 d_X9_copy_113 (c_X9_meets) rfl rfl rfl ?_
                exact V_iret d_X9_copy_116 rfl (by first | rfl | simp_all) rfl
              have m62 : U G M_X9_copy (Ze G (some (.int ((-10 : Int32) - nI 2))) (sI (sI S 17 4 (nI 2)) 22 17 (nI 2))) 62 [some (.ref (gB G + 22)), some (.int (nI s)), some (.int i), some (.int (nI t)), some (.int j), some (.int n), none] [] (sI S 17 4 (nI 2)) := by
                by_cases hi : i < 0
                · refine V_il2 d_X9_copy_62 ?_
                  refine V_if_lt d_X9_copy_63 (fun h63 => ?_) (fun q => absurd hi q)
                  exact m111
                · by_cases hj : j < 0
                  · refine V_il2 d_X9_copy_62 ?_
                    refine V_if_lt d_X9_copy_63 (fun q => absurd q hi) (fun h63 => ?_)
                    refine V_il4 d_X9_copy_66 ?_
                    refine V_if_lt d_X9_copy_68 (fun h68 => ?_) (fun q => absurd hj q)
                    exact m111
                  · by_cases hnn : n < 0
                    · refine V_il2 d_X9_copy_62 ?_
                      refine V_if_lt d_X9_copy_63 (fun q => absurd q hi) (fun h63 => ?_)
                      refine V_il4 d_X9_copy_66 ?_
                      refine V_if_lt d_X9_copy_68 (fun q => absurd q hj) (fun h68 => ?_)
                      refine V_il5 d_X9_copy_71 ?_
                      refine V_if_lt d_X9_copy_73 (fun h73 => ?_) (fun q => absurd hnn q)
                      exact m111
                    · obtain ⟨i', hi', ei⟩ := nI_of hi
                      obtain ⟨j', hj', ej⟩ := nI_of hj
                      obtain ⟨n', hn', en⟩ := nI_of hnn
                      have q32s : (sI S 17 4 (nI 2)).1 32 s = nI z := g7
                      have q32t : (sI S 17 4 (nI 2)).1 32 t = nI z2 := k7
                      by_cases d1 : i' + n' ≤ z
                      · have d2 : z2 < j' + n' := by
                          rcases Nat.lt_or_ge z2 (j' + n') with g | g
                          · exact g
                          · exact absurd ⟨u2.mpr ⟨i', n', ei, en, d1⟩, v2.mpr ⟨j', n', ej, en, g⟩⟩ ok
                        rw [ei] at hi m111 ⊢
                        rw [ej] at hj m111 ⊢
                        rw [en] at hnn m111 ⊢
                        refine V_il2 d_X9_copy_62 ?_
                        refine V_if_lt d_X9_copy_63 (fun q => absurd q hi) (fun h63 => ?_)
                        refine V_il4 d_X9_copy_66 ?_
                        refine V_if_lt d_X9_copy_68 (fun q => absurd q hj) (fun h68 => ?_)
                        refine V_il5 d_X9_copy_71 ?_
                        refine V_if_lt d_X9_copy_73 (fun q => absurd q hnn) (fun h73 => ?_)
                        refine V_il2 d_X9_copy_76 ?_
                        refine V_i2lN d_X9_copy_77 (by omega) ?_
                        refine V_il5 d_X9_copy_78 ?_
                        refine V_i2lN d_X9_copy_80 (by omega) ?_
                        first | with_reducible refine V_laddN d_X9_copy_81 ?_ | refine V_ladd d_X9_copy_81 ?_
                        refine V_al0 d_X9_copy_82 ?_
                        refine V_getR d_X9_copy_83 rfl rfl (by decide) rfl ?_
                        refine V_il1 d_X9_copy_86 ?_
                        refine V_ialdE d_X9_copy_87 rfl (by decide) rfl (show s < 4 by omega) q32s ?_
                        refine V_i2lN d_X9_copy_88 (by omega) ?_
                        refine V_lcmp d_X9_copy_89 ?_
                        refine V_if_gt d_X9_copy_90 (fun q => absurd ((pk_lLT (by omega) (by omega)).mp ((lg_cmp_gt _ _).mp q)) (by omega)) (fun h90 => ?_)
                        refine V_il4 d_X9_copy_93 ?_
                        refine V_i2lN d_X9_copy_95 (by omega) ?_
                        refine V_il5 d_X9_copy_96 ?_
                        refine V_i2lN d_X9_copy_98 (by omega) ?_
                        first | with_reducible refine V_laddN d_X9_copy_99 ?_ | refine V_ladd d_X9_copy_99 ?_
                        refine V_al0 d_X9_copy_100 ?_
                        refine V_getR d_X9_copy_101 rfl rfl (by decide) rfl ?_
                        refine V_il3 d_X9_copy_104 ?_
                        refine V_ialdE d_X9_copy_105 rfl (by decide) rfl (show t < 4 by omega) q32t ?_
                        refine V_i2lN d_X9_copy_106 (by omega) ?_
                        refine V_lcmp d_X9_copy_107 ?_
                        refine V_if_le d_X9_copy_108 (fun q => absurd ((pk_lLE (by omega) (by omega)).mp ((lg_cmp_le _ _).mp q)) (by omega)) (fun h108 => ?_)
                        exact m111
                      · rw [ei] at hi m111 ⊢
                        rw [ej] at hj m111 ⊢
                        rw [en] at hnn m111 ⊢
                        refine V_il2 d_X9_copy_62 ?_
                        refine V_if_lt d_X9_copy_63 (fun q => absurd q hi) (fun h63 => ?_)
                        refine V_il4 d_X9_copy_66 ?_
                        refine V_if_lt d_X9_copy_68 (fun q => absurd q hj) (fun h68 => ?_)
                        refine V_il5 d_X9_copy_71 ?_
                        refine V_if_lt d_X9_copy_73 (fun q => absurd q hnn) (fun h73 => ?_)
                        refine V_il2 d_X9_copy_76 ?_
                        refine V_i2lN d_X9_copy_77 (by omega) ?_
                        refine V_il5 d_X9_copy_78 ?_
                        refine V_i2lN d_X9_copy_80 (by omega) ?_
                        first | with_reducible refine V_laddN d_X9_copy_81 ?_ | refine V_ladd d_X9_copy_81 ?_
                        refine V_al0 d_X9_copy_82 ?_
                        refine V_getR d_X9_copy_83 rfl rfl (by decide) rfl ?_
                        refine V_il1 d_X9_copy_86 ?_
                        refine V_ialdE d_X9_copy_87 rfl (by decide) rfl (show s < 4 by omega) q32s ?_
                        refine V_i2lN d_X9_copy_88 (by omega) ?_
                        refine V_lcmp d_X9_copy_89 ?_
                        refine V_if_gt d_X9_copy_90 (fun h90 => ?_) (fun q => absurd ((lg_cmp_gt _ _).mpr ((pk_lLT (by omega) (by omega)).mpr (by omega))) q)
                        exact m111
              refine ⟨(-10 : Int32) - nI 2, sI S 17 4 (nI 2), sI (sI S 17 4 (nI 2)) 22 17 (nI 2), hc8, ?_, ⟨b, sz, ft, N, w, wy, lk, nd, hx, hB, ST_fd h⟩⟩
              refine Rn_of hp_X9_copy [some (.ref (gB G + 22)), some (.int (nI s)), some (.int i), some (.int (nI t)), some (.int j), some (.int n), none] rfl (Nat.le_of_ble_eq_true rfl) (Nat.le_of_ble_eq_true rfl) ?_
              refine V_il1 d_X9_copy_0 ?_
              refine U_cs1 d_X9_copy_1 (c_X9_isSheet) rfl ?_
              refine V_eqB d_X9_copy_4 (fun q => (bTF (c0) q).elim) (fun h4 => ?_)
              refine V_il3 d_X9_copy_7 ?_
              refine U_cs1 d_X9_copy_8 (c_X9_isSheet) rfl ?_
              refine V_neB d_X9_copy_11 (fun h11 => ?_) (fun q => (bTF (c1) q).elim)
              refine V_al0 d_X9_copy_17 ?_
              refine V_getR d_X9_copy_18 rfl rfl (by decide) rfl ?_
              refine V_il1 d_X9_copy_21 ?_
              refine V_zald d_X9_copy_22 rfl (by decide) rfl (by omega) ?_
              refine V_topi (show (sI S 17 4 (nI 2)).1 30 s = nI 1 from g5) ?_
              refine V_if_eq d_X9_copy_23 (fun q => absurd q (by decide)) (fun h23 => ?_)
              refine V_al0 d_X9_copy_26 ?_
              refine V_getR d_X9_copy_27 rfl rfl (by decide) rfl ?_
              refine V_il3 d_X9_copy_30 ?_
              refine V_zald d_X9_copy_31 rfl (by decide) rfl (by omega) ?_
              refine V_topi (show (sI S 17 4 (nI 2)).1 30 t = nI 1 from k5) ?_
              refine V_if_ne d_X9_copy_32 (fun h32 => ?_) (fun q => absurd q (by decide))
              refine V_al0 d_X9_copy_41 ?_
              refine V_getR d_X9_copy_42 rfl rfl (by decide) rfl ?_
              refine V_il1 d_X9_copy_45 ?_
              refine V_ialdE d_X9_copy_46 rfl (by decide) rfl (show s < 4 by omega) (show (sI S 17 4 (nI 2)).1 31 s = nI f from g4) ?_
              refine V_al0 d_X9_copy_47 ?_
              refine V_getR d_X9_copy_48 rfl rfl (by decide) rfl ?_
              refine V_il3 d_X9_copy_51 ?_
              refine V_ialdE d_X9_copy_52 rfl (by decide) rfl (show t < 4 by omega) (show (sI S 17 4 (nI 2)).1 31 t = nI f2 from k4) ?_
              refine U_ic_eqN d_X9_copy_53 (by omega) (by omega) (fun h53 => ?_) (fun q => absurd cf q)
              exact m62
          · skip
            refine ⟨(-10 : Int32) - nI 4, sI S 17 4 (nI 4), sI (sI S 17 4 (nI 4)) 22 17 (nI 4), ?_, ?_, ⟨b, sz, ft, N, w, wy, lk, nd, hx, hB, ST_fd h⟩⟩
            · refine Rn_of hp_X8_copy [some (.ref (gB G + 0)), some (.int (nI s)), some (.int i), some (.int (nI t)), some (.int j), some (.int n)] rfl (Nat.le_of_ble_eq_true rfl) (Nat.le_of_ble_eq_true rfl) ?_
              refine V_il1 d_X8_copy_0 ?_
              refine U_cs1 d_X8_copy_1 (c_X8_isSheet) rfl ?_
              refine V_eqB d_X8_copy_4 (fun q => (bTF (c0) q).elim) (fun h4 => ?_)
              refine V_il3 d_X8_copy_7 ?_
              refine U_cs1 d_X8_copy_8 (c_X8_isSheet) rfl ?_
              refine V_neB d_X8_copy_11 (fun h11 => ?_) (fun q => (bTF (c1) q).elim)
              refine V_al0 d_X8_copy_17 ?_
              refine V_getR d_X8_copy_18 rfl rfl (by decide) rfl ?_
              refine V_il1 d_X8_copy_21 ?_
              refine U_cv1 d_X8_copy_22 (hLs) rfl rfl rfl ?_
              refine V_neB d_X8_copy_25 (fun q => (bTF q (rfl)).elim) (fun h25 => ?_)
              refine V_al0 d_X8_copy_28 ?_
              refine V_getR d_X8_copy_29 rfl rfl (by decide) rfl ?_
              refine V_il3 d_X8_copy_32 ?_
              refine U_cv1 d_X8_copy_33 (hLt) rfl rfl rfl ?_
              refine V_eqB d_X8_copy_36 (fun h36 => ?_) (fun q => (bTF q (rfl)).elim)
              refine V_al0 d_X8_copy_48 ?_
              refine V_getR d_X8_copy_49 rfl rfl (by decide) rfl ?_
              refine V_il1 d_X8_copy_52 ?_
              refine U_cv1 d_X8_copy_53 (c_X5_formOf (by omega)) rfl rfl rfl ?_
              refine V_topi g3 ?_
              refine V_al0 d_X8_copy_56 ?_
              refine V_getR d_X8_copy_57 rfl rfl (by decide) rfl ?_
              refine V_il3 d_X8_copy_60 ?_
              refine U_cv1 d_X8_copy_61 (c_X5_formOf (by omega)) rfl rfl rfl ?_
              refine V_topi k3 ?_
              refine U_ic_eqN d_X8_copy_64 (by omega) (by omega) (fun q => absurd q cf) (fun h64 => ?_)
              refine V_al0 d_X8_copy_67 ?_
              refine V_getR d_X8_copy_68 rfl rfl (by decide) rfl ?_
              refine V_ki d_X8_copy_71 ?_
              refine U_cv1 d_X8_copy_72 (c_X5_found) rfl rfl rfl ?_
              exact V_iret d_X8_copy_75 rfl (by first | rfl | simp_all) rfl
            · refine Rn_of hp_X9_copy [some (.ref (gB G + 22)), some (.int (nI s)), some (.int i), some (.int (nI t)), some (.int j), some (.int n), none] rfl (Nat.le_of_ble_eq_true rfl) (Nat.le_of_ble_eq_true rfl) ?_
              refine V_il1 d_X9_copy_0 ?_
              refine U_cs1 d_X9_copy_1 (c_X9_isSheet) rfl ?_
              refine V_eqB d_X9_copy_4 (fun q => (bTF (c0) q).elim) (fun h4 => ?_)
              refine V_il3 d_X9_copy_7 ?_
              refine U_cs1 d_X9_copy_8 (c_X9_isSheet) rfl ?_
              refine V_neB d_X9_copy_11 (fun h11 => ?_) (fun q => (bTF (c1) q).elim)
              refine V_al0 d_X9_copy_17 ?_
              refine V_getR d_X9_copy_18 rfl rfl (by decide) rfl ?_
              refine V_il1 d_X9_copy_21 ?_
              refine V_zald d_X9_copy_22 rfl (by decide) rfl (by omega) ?_
              refine V_topi (show (sI S 17 4 (nI 4)).1 30 s = nI 1 from g5) ?_
              refine V_if_eq d_X9_copy_23 (fun q => absurd q (by decide)) (fun h23 => ?_)
              refine V_al0 d_X9_copy_26 ?_
              refine V_getR d_X9_copy_27 rfl rfl (by decide) rfl ?_
              refine V_il3 d_X9_copy_30 ?_
              refine V_zald d_X9_copy_31 rfl (by decide) rfl (by omega) ?_
              refine V_topi (show (sI S 17 4 (nI 4)).1 30 t = nI 1 from k5) ?_
              refine V_if_ne d_X9_copy_32 (fun h32 => ?_) (fun q => absurd q (by decide))
              refine V_al0 d_X9_copy_41 ?_
              refine V_getR d_X9_copy_42 rfl rfl (by decide) rfl ?_
              refine V_il1 d_X9_copy_45 ?_
              refine V_ialdE d_X9_copy_46 rfl (by decide) rfl (show s < 4 by omega) (show (sI S 17 4 (nI 4)).1 31 s = nI f from g4) ?_
              refine V_al0 d_X9_copy_47 ?_
              refine V_getR d_X9_copy_48 rfl rfl (by decide) rfl ?_
              refine V_il3 d_X9_copy_51 ?_
              refine V_ialdE d_X9_copy_52 rfl (by decide) rfl (show t < 4 by omega) (show (sI S 17 4 (nI 4)).1 31 t = nI f2 from k4) ?_
              refine U_ic_eqN d_X9_copy_53 (by omega) (by omega) (fun q => absurd q cf) (fun h53 => ?_)
              refine V_al0 d_X9_copy_56 ?_
              refine V_ki d_X9_copy_57 ?_
              refine U_cv1 d_X9_copy_58 (c_X9_meets) rfl rfl rfl ?_
              exact V_iret d_X9_copy_61 rfl (by first | rfl | simp_all) rfl
