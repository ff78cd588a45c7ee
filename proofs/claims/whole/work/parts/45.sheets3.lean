/-! sheets: write, copy -/
def PEM (a b : Nat) : Bool := PE a b || PM a b
theorem PEM_E {S S1 : AS} (h : Ag PE S S1) : Ag PEM S S1 := h.mono (fun a b q => by
  unfold PEM at q
  simp only [Bool.or_eq_false_iff] at q
  exact q.1)
theorem PEM_M {S S1 : AS} (h : Ag PM S S1) : Ag PEM S S1 := h.mono (fun a b q => by
  unfold PEM at q
  simp only [Bool.or_eq_false_iff] at q
  exact q.2)
theorem ST_shM {S S2 : AS} {b : Nat → Nat} {sz : Nat} {ft : Int32} {N : List (List Nat)} {w wy : Nat → Nat} {lk nd : Nat} (h : ST S b sz ft N w wy lk nd) (hA : Ag PEM S S2) (hs : SHv S2) (hf : S2.1 17 4 = S2.1 22 17) : ST S2 b sz ft N w wy lk nd := by
  obtain ⟨⟨hsz, hbs⟩, hcn, hmt, hhc, hhm, -, -⟩ := h
  exact ⟨⟨(hA.2 4 3 rfl).trans hsz, fun i hi => (hA.2 5 i rfl).trans (hbs i hi)⟩, hcn.ag hA (fun _ => rfl) (fun _ => rfl) (fun _ => rfl), hmt.ag hA rfl (fun _ => rfl), hhc.ag hA (fun _ => rfl) (fun _ => rfl) (fun _ => rfl), hhm.ag hA (fun _ => rfl) (fun _ => rfl) rfl rfl, hs, hf⟩
set_option maxRecDepth 100000 in
theorem o_write {G : Gm} {a c : Int32} : OPI G M_X8_write M_X9_write [.int a, .int c] := by
  intro S hS
  obtain ⟨b, sz, ft, N, w, wy, lk, nd, hx, hB, h⟩ := hS
  obtain ⟨⟨hsz, hbs⟩, hcn, hmt, hhc, hhm, hsh, hfd⟩ := id h
  have hN := PR_wf hx.2.2
  have hN8 := hN.1
  obtain ⟨S0, m1, m2, m3⟩ := c_X9_isNight (G := G) (v := a) hmt hx
  have h0 : ST S0 b sz ft N w wy lk nd := h.ag (PQ_M m3)
  cases c0 : tolB a N.length with
  | false =>
    refine ⟨-2, S, S0, ?_, ?_, ⟨b, sz, ft, N, w, wy, lk, nd, hx, hB, h0⟩⟩
    · refine Rn_of hp_X8_write [some (.ref (gB G + 0)), some (.int a), some (.int c), none, none] rfl (Nat.le_of_ble_eq_true rfl) (Nat.le_of_ble_eq_true rfl) ?_
      refine V_al0 d_X8_write_0 ?_
      refine V_getR d_X8_write_1 rfl rfl (by decide) rfl ?_
      refine V_il1 d_X8_write_4 ?_
      refine U_cv1 d_X8_write_5 (c_X4_isTold hcn.2.1 hN8) rfl rfl rfl ?_
      refine V_eqB d_X8_write_8 (fun h8 => ?_) (fun q => (bTF q (c0)).elim)
      refine V_ki d_X8_write_18 ?_
      exact V_iret d_X8_write_20 rfl (by first | rfl | simp_all) rfl
    · refine Rn_of hp_X9_write [some (.ref (gB G + 22)), some (.int a), some (.int c), none] rfl (Nat.le_of_ble_eq_true rfl) (Nat.le_of_ble_eq_true rfl) ?_
      refine V_al0 d_X9_write_0 ?_
      refine V_il1 d_X9_write_1 ?_
      refine U_cv1 d_X9_write_2 (m1) rfl rfl rfl ?_
      refine V_eqB d_X9_write_5 (fun h5 => ?_) (fun q => (bTF q (c0)).elim)
      refine V_ki d_X9_write_15 ?_
      exact V_iret d_X9_write_17 rfl (by first | rfl | simp_all) rfl
  | true =>
    cases c1 : inR c (nI 0) (nI 3) with
    | false =>
      refine ⟨-2, S, S0, ?_, ?_, ⟨b, sz, ft, N, w, wy, lk, nd, hx, hB, h0⟩⟩
      · refine Rn_of hp_X8_write [some (.ref (gB G + 0)), some (.int a), some (.int c), none, none] rfl (Nat.le_of_ble_eq_true rfl) (Nat.le_of_ble_eq_true rfl) ?_
        refine V_al0 d_X8_write_0 ?_
        refine V_getR d_X8_write_1 rfl rfl (by decide) rfl ?_
        refine V_il1 d_X8_write_4 ?_
        refine U_cv1 d_X8_write_5 (c_X4_isTold hcn.2.1 hN8) rfl rfl rfl ?_
        refine V_eqB d_X8_write_8 (fun q => (bTF (c0) q).elim) (fun h8 => ?_)
        refine V_il2 d_X8_write_11 ?_
        refine U_cs1 d_X8_write_12 (c_X8_isSheet) rfl ?_
        refine V_neB d_X8_write_15 (fun q => (bTF q (c1)).elim) (fun h15 => ?_)
        refine V_ki d_X8_write_18 ?_
        exact V_iret d_X8_write_20 rfl (by first | rfl | simp_all) rfl
      · refine Rn_of hp_X9_write [some (.ref (gB G + 22)), some (.int a), some (.int c), none] rfl (Nat.le_of_ble_eq_true rfl) (Nat.le_of_ble_eq_true rfl) ?_
        refine V_al0 d_X9_write_0 ?_
        refine V_il1 d_X9_write_1 ?_
        refine U_cv1 d_X9_write_2 (m1) rfl rfl rfl ?_
        refine V_eqB d_X9_write_5 (fun q => (bTF (c0) q).elim) (fun h5 => ?_)
        refine V_il2 d_X9_write_8 ?_
        refine U_cs1 d_X9_write_9 (c_X9_isSheet) rfl ?_
        refine V_neB d_X9_write_12 (fun q => (bTF q (c1)).elim) (fun h12 => ?_)
        refine V_ki d_X9_write_15 ?_
        exact V_iret d_X9_write_17 rfl (by first | rfl | simp_all) rfl
    | true =>
      obtain ⟨s, hs3, rfl⟩ := inR_ex (by decide) c1
      obtain ⟨n, hn, rfl⟩ := tolB_ex (by omega) c0
      have hL := c_X5_isLost (G := G) (S := S) (s := s) (by omega)
      rcases hsh s (by omega) with ⟨g1, g2⟩ | ⟨f, z, g1, g2, g3, g4, g5, g6, g7, g8⟩
      · rw [decide_eq_true g1] at hL
        obtain ⟨S5, p1, p2, p3⟩ := c_X9_isNight (G := G) (S := sI S 17 4 (nI 1)) (v := nI n) (hmt.ag (Ag.rf.sI (P := PE) rfl) rfl (fun _ => rfl)) hx
        have hst : ST (sI S5 22 17 (nI 1)) b sz ft N w wy lk nd := by
          have hA : Ag PEM S (sI S5 22 17 (nI 1)) := (((PEM_E (Ag.rf.sI rfl)).tr (PEM_M p3)).sI rfl)
          refine ST_shM h hA (SHv.ag (P := PM) p3 (S := sI S 17 4 (nI 1)) hsh (fun _ => rfl) (fun _ => rfl) (fun _ => rfl) (fun _ => rfl) (fun _ => rfl) (fun _ => rfl) (fun _ => rfl)) ?_
          exact p3.2 17 4 rfl
        have g2' : S5.1 30 s = nI 0 := (p3.2 30 s rfl).trans g2
        refine ⟨(-10 : Int32) - nI 1, sI S 17 4 (nI 1), sI S5 22 17 (nI 1), ?_, ?_, ⟨b, sz, ft, N, w, wy, lk, nd, hx, hB, hst⟩⟩
        · refine Rn_of hp_X8_write [some (.ref (gB G + 0)), some (.int (nI n)), some (.int (nI s)), none, none] rfl (Nat.le_of_ble_eq_true rfl) (Nat.le_of_ble_eq_true rfl) ?_
          refine V_al0 d_X8_write_0 ?_
          refine V_getR d_X8_write_1 rfl rfl (by decide) rfl ?_
          refine V_il1 d_X8_write_4 ?_
          refine U_cv1 d_X8_write_5 (c_X4_isTold hcn.2.1 hN8) rfl rfl rfl ?_
          refine V_eqB d_X8_write_8 (fun q => (bTF (c0) q).elim) (fun h8 => ?_)
          refine V_il2 d_X8_write_11 ?_
          refine U_cs1 d_X8_write_12 (c_X8_isSheet) rfl ?_
          refine V_neB d_X8_write_15 (fun h15 => ?_) (fun q => (bTF (c1) q).elim)
          refine V_al0 d_X8_write_21 ?_
          refine V_getR d_X8_write_22 rfl rfl (by decide) rfl ?_
          refine V_il2 d_X8_write_25 ?_
          refine U_cv1 d_X8_write_26 (hL) rfl rfl rfl ?_
          refine V_eqB d_X8_write_29 (fun q => (bTF (rfl) q).elim) (fun h29 => ?_)
          refine V_al0 d_X8_write_32 ?_
          refine V_getR d_X8_write_33 rfl rfl (by decide) rfl ?_
          refine V_ki d_X8_write_36 ?_
          refine U_cv1 d_X8_write_37 (c_X5_found) rfl rfl rfl ?_
          exact V_iret d_X8_write_40 rfl (by first | rfl | simp_all) rfl
        · refine Rn_of hp_X9_write [some (.ref (gB G + 22)), some (.int (nI n)), some (.int (nI s)), none] rfl (Nat.le_of_ble_eq_true rfl) (Nat.le_of_ble_eq_true rfl) ?_
          refine V_al0 d_X9_write_0 ?_
          refine V_il1 d_X9_write_1 ?_
          refine U_cv1 d_X9_write_2 (p1) rfl rfl rfl ?_
          refine V_eqB d_X9_write_5 (fun q => (bTF (c0) q).elim) (fun h5 => ?_)
          refine V_il2 d_X9_write_8 ?_
          refine U_cs1 d_X9_write_9 (c_X9_isSheet) rfl ?_
          refine V_neB d_X9_write_12 (fun h12 => ?_) (fun q => (bTF (c1) q).elim)
          refine V_al0 d_X9_write_18 ?_
          refine V_getR d_X9_write_19 rfl rfl (by decide) rfl ?_
          refine V_il2 d_X9_write_22 ?_
          refine V_zald d_X9_write_23 rfl (by decide) rfl (by omega) ?_
          refine V_topi g2' ?_
          refine V_if_ne d_X9_write_24 (fun q => absurd rfl q) (fun h24 => ?_)
          refine V_al0 d_X9_write_27 ?_
          refine V_ki d_X9_write_28 ?_
          refine U_cv1 d_X9_write_29 (c_X9_meets) rfl rfl rfl ?_
          exact V_iret d_X9_write_32 rfl (by first | rfl | simp_all) rfl
      · rw [decide_eq_false (by rw [g3]; exact nI_m1 (by omega))] at hL
        have hz := c_X5_sizeOf (G := G) (S := S) (s := s) (by omega)
        rw [g6] at hz
        have hAg : ∀ i, Ag PE S (wrT S 20 (s * 48) (fun i => nrI f (atL wy lk (ni N n) 0 i)) i) := fun i => Ag.rf.wrT (fun _ => rfl)
        have loop8 : ∀ d i, i + d = z → U G M_X8_write (Ze G (some (.int (nI z))) (wrT S 20 (s * 48) (fun i => nrI f (atL wy lk (ni N n) 0 i)) z)) 53 [some (.ref (gB G + 0)), some (.int (nI n)), some (.int (nI s)), some (.int (nI z)), some (.int (nI i))] [] (wrT S 20 (s * 48) (fun i => nrI f (atL wy lk (ni N n) 0 i)) i) := by
          intro d
          induction d with
          | zero =>
            intro i hi
            rw [Nat.add_zero] at hi
            subst hi
            refine V_il4 d_X8_write_53 ?_
            refine V_il3 d_X8_write_55 ?_
            refine U_ic_geN d_X8_write_56 (by omega) (by omega) (fun h56 => ?_) (fun q => absurd q (by omega))
            refine V_il3 d_X8_write_85 ?_
            exact V_iret d_X8_write_86 rfl (by first | rfl | simp_all) rfl
          | succ d ih =>
            intro i hi
            have hsd := c_X7_shedIn (G := G) (m := i) (hhc.ag (hAg i) (fun _ => rfl) (fun _ => rfl) (fun _ => rfl)) hB (hcn.ag (hAg i) (fun _ => rfl) (fun _ => rfl) (fun _ => rfl)) hN hn (by omega)
            have hch := c_X5_change (G := G) (S := wrT S 20 (s * 48) (fun i => nrI f (atL wy lk (ni N n) 0 i)) i) (s := s) (i := i) (v := atL wy lk (ni N n) 0 i) (by omega) (by omega) g1 g3
            have r1 := ih (i + 1) (by omega)
            rw [← wrT_s S 20 (s * 48) (fun i => nrI f (atL wy lk (ni N n) 0 i)) i] at r1
            refine V_il4 d_X8_write_53 ?_
            refine V_il3 d_X8_write_55 ?_
            refine U_ic_geN d_X8_write_56 (by omega) (by omega) (fun q => absurd q (by omega)) (fun h56 => ?_)
            refine V_al0 d_X8_write_59 ?_
            refine V_getR d_X8_write_60 rfl rfl (by decide) rfl ?_
            refine V_il2 d_X8_write_63 ?_
            refine V_il4 d_X8_write_64 ?_
            refine V_al0 d_X8_write_66 ?_
            refine V_getR d_X8_write_67 rfl rfl (by decide) rfl ?_
            refine V_il1 d_X8_write_70 ?_
            refine V_il4 d_X8_write_71 ?_
            refine U_cv2 d_X8_write_73 (hsd) rfl rfl rfl ?_
            refine U_cv3v d_X8_write_76 (hch) rfl rfl rfl ?_
            refine V_icN4 d_X8_write_79 rfl ?_
            refine V_goto d_X8_write_82 ?_
            exact r1
        have l8 := loop8 z 0 (Nat.zero_add _)
        rw [wrT_0] at l8
        obtain ⟨S5, p1, p2, p3⟩ := c_X9_isNight (G := G) (S := wrT S 20 (s * 48) (fun i => nrI f (atL wy lk (ni N n) 0 i)) z) (v := nI n) (hmt.ag (hAg z) rfl (fun _ => rfl)) hx
        have hhm5 := (hhm.ag (hAg z) (fun _ => rfl) (fun _ => rfl) rfl rfl).ag p3 (fun _ => rfl) (fun _ => rfl) rfl rfl
        have q30 : S5.1 30 s = nI 1 := (p3.2 30 s rfl).trans g5
        have q31 : S5.1 31 s = nI f := (p3.2 31 s rfl).trans g4
        have q32 : S5.1 32 s = nI z := (p3.2 32 s rfl).trans g7
        have hBg : ∀ i, Ag PE S5 (wrT S5 33 (48 * s) (fun i => nrI f (atL wy lk (ni N n) 0 i)) i) := fun i => Ag.rf.wrT (fun _ => rfl)
        have loop9 : ∀ d i, i + d = z → U G M_X9_write (Ze G (some (.int (nI z))) (wrT S5 33 (48 * s) (fun i => nrI f (atL wy lk (ni N n) 0 i)) z)) 35 [some (.ref (gB G + 22)), some (.int (nI n)), some (.int (nI s)), some (.int (nI i))] [] (wrT S5 33 (48 * s) (fun i => nrI f (atL wy lk (ni N n) 0 i)) i) := by
          intro d
          induction d with
          | zero =>
            intro i hi
            rw [Nat.add_zero] at hi
            subst hi
            have q32' : (wrT S5 33 (48 * s) (fun i => nrI f (atL wy lk (ni N n) 0 i)) i).1 32 s = nI i := q32
            refine V_il3 d_X9_write_35 ?_
            refine V_al0 d_X9_write_36 ?_
            refine V_getR d_X9_write_37 rfl rfl (by decide) rfl ?_
            refine V_il2 d_X9_write_40 ?_
            refine V_ialdE d_X9_write_41 rfl (by decide) rfl (show s < 4 by omega) q32' ?_
            refine U_ic_geN d_X9_write_42 (by omega) (by omega) (fun h42 => ?_) (fun q => absurd q (by omega))
            refine V_al0 d_X9_write_63 ?_
            refine V_getR d_X9_write_64 rfl rfl (by decide) rfl ?_
            refine V_il2 d_X9_write_67 ?_
            refine V_ialdE d_X9_write_68 rfl (by decide) rfl (show s < 4 by omega) q32' ?_
            exact V_iret d_X9_write_69 rfl (by first | rfl | simp_all) rfl
          | succ d ih =>
            intro i hi
            have q32' : (wrT S5 33 (48 * s) (fun i => nrI f (atL wy lk (ni N n) 0 i)) i).1 32 s = nI z := q32
            have hat := c_X9_atOf (G := G) (m := i) (hhm5.ag (hBg i) (fun _ => rfl) (fun _ => rfl) rfl rfl) hB (p2.ag (hBg i) rfl (fun _ => rfl) (fun _ => rfl)) hN hn (by omega)
            have hk := c_X9_keep (G := G) (S := wrT S5 33 (48 * s) (fun i => nrI f (atL wy lk (ni N n) 0 i)) i) (s := s) (i := i) (v := atL wy lk (ni N n) 0 i) (by omega) (by omega) g1 q31
            have r1 := ih (i + 1) (by omega)
            rw [← wrT_s S5 33 (48 * s) (fun i => nrI f (atL wy lk (ni N n) 0 i)) i] at r1
            refine V_il3 d_X9_write_35 ?_
            refine V_al0 d_X9_write_36 ?_
            refine V_getR d_X9_write_37 rfl rfl (by decide) rfl ?_
            refine V_il2 d_X9_write_40 ?_
            refine V_ialdE d_X9_write_41 rfl (by decide) rfl (show s < 4 by omega) q32' ?_
            refine U_ic_geN d_X9_write_42 (by omega) (by omega) (fun q => absurd q (by omega)) (fun h42 => ?_)
            refine V_al0 d_X9_write_45 ?_
            refine V_il2 d_X9_write_46 ?_
            refine V_il3 d_X9_write_47 ?_
            refine V_al0 d_X9_write_48 ?_
            refine V_il1 d_X9_write_49 ?_
            refine V_il3 d_X9_write_50 ?_
            refine U_cv2 d_X9_write_51 (hat) rfl rfl rfl ?_
            refine U_cv3v d_X9_write_54 (hk) rfl rfl rfl ?_
            refine V_icN3 d_X9_write_57 rfl ?_
            refine V_goto d_X9_write_60 ?_
            exact r1
        have l9 := loop9 z 0 (Nat.zero_add _)
        rw [wrT_0] at l9
        have hst : ST (wrT S5 33 (48 * s) (fun i => nrI f (atL wy lk (ni N n) 0 i)) z) b sz ft N w wy lk nd := by
          refine ST_shM h (((PEM_E (hAg z)).tr (PEM_M p3)).tr (PEM_E (hBg z))) (SHv_upd (s := s) hsh (fun s' h1 h2 => ⟨p3.2 18 s' rfl, p3.2 19 s' rfl, p3.2 30 s' rfl, p3.2 31 s' rfl, p3.2 32 s' rfl, fun i hi => ⟨?_, ?_⟩⟩) (Or.inr ⟨f, z, g1, g2, (p3.2 18 s rfl).trans g3, q31, q30, (p3.2 19 s rfl).trans g6, q32, fun i hi => ?_⟩)) ?_
          · refine (p3.2 20 (s' * 48 + i) rfl).trans ?_
            rw [wrT_1, if_neg (fun z => h2 (by omega))]
          · rw [wrT_1, if_neg (fun z => h2 (by omega))]
            exact p3.2 33 (48 * s' + i) rfl
          · have e33 : (wrT S5 33 (48 * s) (fun i => nrI f (atL wy lk (ni N n) 0 i)) z).1 33 (48 * s + i) = nrI f (atL wy lk (ni N n) 0 i) := by
              rw [wrT_1, if_pos ⟨rfl, by omega, by omega⟩, Nat.add_sub_cancel_left]
            have e20 : (wrT S5 33 (48 * s) (fun i => nrI f (atL wy lk (ni N n) 0 i)) z).1 20 (s * 48 + i) = nrI f (atL wy lk (ni N n) 0 i) := by
              refine (p3.2 20 (s * 48 + i) rfl).trans ?_
              rw [wrT_1, if_pos ⟨rfl, by omega, by omega⟩, Nat.add_sub_cancel_left]
            rw [e33, e20]
            exact ⟨rfl, nrI_nr f _⟩
          · exact ((p3.2 17 4 rfl).trans hfd).trans (p3.2 22 17 rfl).symm
        refine ⟨nI z, wrT S 20 (s * 48) (fun i => nrI f (atL wy lk (ni N n) 0 i)) z, wrT S5 33 (48 * s) (fun i => nrI f (atL wy lk (ni N n) 0 i)) z, ?_, ?_, ⟨b, sz, ft, N, w, wy, lk, nd, hx, hB, hst⟩⟩
        · refine Rn_of hp_X8_write [some (.ref (gB G + 0)), some (.int (nI n)), some (.int (nI s)), none, none] rfl (Nat.le_of_ble_eq_true rfl) (Nat.le_of_ble_eq_true rfl) ?_
          refine V_al0 d_X8_write_0 ?_
          refine V_getR d_X8_write_1 rfl rfl (by decide) rfl ?_
          refine V_il1 d_X8_write_4 ?_
          refine U_cv1 d_X8_write_5 (c_X4_isTold hcn.2.1 hN8) rfl rfl rfl ?_
          refine V_eqB d_X8_write_8 (fun q => (bTF (c0) q).elim) (fun h8 => ?_)
          refine V_il2 d_X8_write_11 ?_
          refine U_cs1 d_X8_write_12 (c_X8_isSheet) rfl ?_
          refine V_neB d_X8_write_15 (fun h15 => ?_) (fun q => (bTF (c1) q).elim)
          refine V_al0 d_X8_write_21 ?_
          refine V_getR d_X8_write_22 rfl rfl (by decide) rfl ?_
          refine V_il2 d_X8_write_25 ?_
          refine U_cv1 d_X8_write_26 (hL) rfl rfl rfl ?_
          refine V_eqB d_X8_write_29 (fun h29 => ?_) (fun q => (bTF q (rfl)).elim)
          refine V_al0 d_X8_write_41 ?_
          refine V_getR d_X8_write_42 rfl rfl (by decide) rfl ?_
          refine V_il2 d_X8_write_45 ?_
          refine U_cv1 d_X8_write_46 (hz) rfl rfl rfl ?_
          refine V_is3 d_X8_write_49 rfl ?_
          refine V_ki d_X8_write_50 ?_
          refine V_is4 d_X8_write_51 rfl ?_
          exact l8
        · refine Rn_of hp_X9_write [some (.ref (gB G + 22)), some (.int (nI n)), some (.int (nI s)), none] rfl (Nat.le_of_ble_eq_true rfl) (Nat.le_of_ble_eq_true rfl) ?_
          refine V_al0 d_X9_write_0 ?_
          refine V_il1 d_X9_write_1 ?_
          refine U_cv1 d_X9_write_2 (p1) rfl rfl rfl ?_
          refine V_eqB d_X9_write_5 (fun q => (bTF (c0) q).elim) (fun h5 => ?_)
          refine V_il2 d_X9_write_8 ?_
          refine U_cs1 d_X9_write_9 (c_X9_isSheet) rfl ?_
          refine V_neB d_X9_write_12 (fun h12 => ?_) (fun q => (bTF (c1) q).elim)
          refine V_al0 d_X9_write_18 ?_
          refine V_getR d_X9_write_19 rfl rfl (by decide) rfl ?_
          refine V_il2 d_X9_write_22 ?_
          refine V_zald d_X9_write_23 rfl (by decide) rfl (by omega) ?_
          refine V_topi q30 ?_
          refine V_if_ne d_X9_write_24 (fun h24 => ?_) (fun q => absurd q (by decide))
          refine V_ki d_X9_write_33 ?_
          refine V_is3 d_X9_write_34 rfl ?_
          exact l9
