/-! the book -/
def pv (p : Nat) : Int32 := if p = 6 then -1 else nI p
def stL : List Nat → Nat → Nat → Nat → Nat
  | [], _, _, _ => 0
  | s :: t, p, a, b => (if p = a ∧ s = b then 1 else 0) + stL t s a b
def stN (N : List (List Nat)) : Nat → Nat → Nat → Nat
  | 0, _, _ => 0
  | k + 1, a, b => stN N k a b + stL (ni N k) 6 a b
def sumN (g : Nat → Nat) : Nat → Nat
  | 0 => 0
  | k + 1 => sumN g k + g k
theorem stL_le : ∀ (w : List Nat) (p a b : Nat), stL w p a b ≤ w.length
  | [], _, _, _ => Nat.le_refl _
  | s :: t, p, a, b => by
    have := stL_le t s a b
    rw [stL, List.length_cons]
    split <;> omega
theorem stN_le {N : List (List Nat)} (hN : WFN N) (a b : Nat) : ∀ k, k ≤ N.length → stN N k a b ≤ 6 * k
  | 0, _ => Nat.le_refl _
  | k + 1, h => by
    have h1 := stN_le hN a b k (by omega)
    have h2 := stL_le (ni N k) 6 a b
    have h3 := ni_le hN (show k < N.length by omega)
    rw [stN]
    omega
theorem stN_48 {N : List (List Nat)} (hN : WFN N) (a b k : Nat) (h : k ≤ N.length) : stN N k a b ≤ 48 := by
  have := stN_le hN a b k h
  have := hN.1
  omega
def BV (S : AS) (f : Nat → Nat → Nat) : Prop := ∀ a, a < 7 → ∀ b, b < 6 → S.1 10 (a * 6 + b) = nI (f a b)
theorem CNv.ag {P : Nat → Nat → Bool} {S S' : AS} {ft : Int32} {N : List (List Nat)} (h : Ag P S S') (hv : CNv S ft N) (h4 : ∀ b, P 4 b = false) (h6 : ∀ b, P 6 b = false) (h7 : ∀ b, P 7 b = false) : CNv S' ft N :=
  ⟨(h.2 4 5 (h4 5)).trans hv.1, (h.2 4 4 (h4 4)).trans hv.2.1, fun n hn => (h.2 7 n (h7 n)).trans (hv.2.2.1 n hn), fun n hn j hj => (h.2 6 _ (h6 _)).trans (hv.2.2.2 n hn j hj)⟩
theorem HVc.ag {P : Nat → Nat → Bool} {S S' : AS} {w wy : Nat → Nat} {lk nd : Nat} (h : Ag P S S') (hv : HVc S w wy lk nd) (h1 : ∀ b, P 1 b = false) (h2 : ∀ b, P 2 b = false) (h3 : ∀ b, P 3 b = false) : HVc S' w wy lk nd :=
  ⟨fun i hi => (h.2 2 i (h2 i)).trans (hv.1 i hi), fun i hi => (h.2 3 i (h3 i)).trans (hv.2.1 i hi), (h.2 1 2 (h1 2)).trans hv.2.2.1, (h.2 1 3 (h1 3)).trans hv.2.2.2⟩
abbrev P10 : Nat → Nat → Bool := fun a _ => a == 10
set_option maxRecDepth 100000 in
theorem c_X0_gone {G : Gm} {S : AS} {p b : Nat} (hp : p < 7) (hb : b < 6) : Rm G M_X0_gone [.ref (gB G + 9), .int (pv p), .int (nI b)] S (some (.int (S.1 10 (p * 6 + b)))) S := by
  refine Rn_of hp_X0_gone [some (.ref (gB G + 9)), some (.int (pv p)), some (.int (nI b)), none] rfl (Nat.le_of_ble_eq_true rfl) (Nat.le_of_ble_eq_true rfl) ?_
  by_cases h6 : p = 6
  · subst h6
    refine V_il1 d_X0_gone_0 ?_
    refine V_ki d_X0_gone_1 ?_
    refine V_ic_ne d_X0_gone_2 (fun q => absurd rfl q) (fun h2 => ?_)
    refine V_ki d_X0_gone_5 ?_
    refine V_goto d_X0_gone_7 ?_
    refine V_ki d_X0_gone_11 ?_
    first | with_reducible refine V_imulN d_X0_gone_13 ?_ | refine V_imul d_X0_gone_13 ?_
    refine V_il2 d_X0_gone_14 ?_
    first | with_reducible refine V_iaddN d_X0_gone_15 ?_ | refine V_iadd d_X0_gone_15 ?_
    refine V_is3 d_X0_gone_16 rfl ?_
    refine V_il3 d_X0_gone_17 ?_
    refine U_if_ltN d_X0_gone_18 (by omega) (fun q => absurd q (by omega)) (fun h18 => ?_)
    refine V_il3 d_X0_gone_21 ?_
    refine V_al0 d_X0_gone_22 ?_
    refine V_getR d_X0_gone_23 rfl rfl (by decide) rfl ?_
    refine V_alen d_X0_gone_26 rfl (by decide) ?_
    refine U_ic_geN d_X0_gone_27 (by omega) (by omega) (fun q => absurd q (by omega)) (fun h27 => ?_)
    refine V_al0 d_X0_gone_30 ?_
    refine V_getR d_X0_gone_31 rfl rfl (by decide) rfl ?_
    refine V_il3 d_X0_gone_34 ?_
    refine V_ialdN d_X0_gone_35 rfl (by decide) (by omega) ?_
    refine V_goto d_X0_gone_36 ?_
    exact V_iret d_X0_gone_40 rfl (by first | rfl | simp_all) rfl
  · have e : pv p = nI p := if_neg h6
    rw [e]
    refine V_il1 d_X0_gone_0 ?_
    refine V_ki d_X0_gone_1 ?_
    refine V_ic_ne d_X0_gone_2 (fun h2 => ?_) (fun q => (nI_m1 (by omega) q).elim)
    refine V_il1 d_X0_gone_10 ?_
    refine V_ki d_X0_gone_11 ?_
    first | with_reducible refine V_imulN d_X0_gone_13 ?_ | refine V_imul d_X0_gone_13 ?_
    refine V_il2 d_X0_gone_14 ?_
    first | with_reducible refine V_iaddN d_X0_gone_15 ?_ | refine V_iadd d_X0_gone_15 ?_
    refine V_is3 d_X0_gone_16 rfl ?_
    refine V_il3 d_X0_gone_17 ?_
    refine U_if_ltN d_X0_gone_18 (by omega) (fun q => absurd q (by omega)) (fun h18 => ?_)
    refine V_il3 d_X0_gone_21 ?_
    refine V_al0 d_X0_gone_22 ?_
    refine V_getR d_X0_gone_23 rfl rfl (by decide) rfl ?_
    refine V_alen d_X0_gone_26 rfl (by decide) ?_
    refine U_ic_geN d_X0_gone_27 (by omega) (by omega) (fun q => absurd q (by omega)) (fun h27 => ?_)
    refine V_al0 d_X0_gone_30 ?_
    refine V_getR d_X0_gone_31 rfl rfl (by decide) rfl ?_
    refine V_il3 d_X0_gone_34 ?_
    refine V_ialdN d_X0_gone_35 rfl (by decide) (by omega) ?_
    refine V_goto d_X0_gone_36 ?_
    exact V_iret d_X0_gone_40 rfl (by first | rfl | simp_all) rfl
set_option maxRecDepth 100000 in
theorem c_X0_go {G : Gm} {S : AS} {p b x : Nat} (hp : p < 7) (hb : b < 6) (hx : S.1 10 (p * 6 + b) = nI x) : Rm G M_X0_go [.ref (gB G + 9), .int (pv p), .int (nI b)] S none (sI S 10 (p * 6 + b) (nI (x + 1))) := by
  have hg := c_X0_gone (G := G) (S := S) hp hb
  rw [hx] at hg
  refine Rn_of hp_X0_go [some (.ref (gB G + 9)), some (.int (pv p)), some (.int (nI b))] rfl (Nat.le_of_ble_eq_true rfl) (Nat.le_of_ble_eq_true rfl) ?_
  by_cases h6 : p = 6
  · subst h6
    refine V_al0 d_X0_go_0 ?_
    refine V_getR d_X0_go_1 rfl rfl (by decide) rfl ?_
    refine V_il1 d_X0_go_4 ?_
    refine V_ki d_X0_go_5 ?_
    refine V_ic_ne d_X0_go_6 (fun q => absurd rfl q) (fun h6 => ?_)
    refine V_ki d_X0_go_9 ?_
    refine V_goto d_X0_go_11 ?_
    refine V_ki d_X0_go_15 ?_
    first | with_reducible refine V_imulN d_X0_go_17 ?_ | refine V_imul d_X0_go_17 ?_
    refine V_il2 d_X0_go_18 ?_
    first | with_reducible refine V_iaddN d_X0_go_19 ?_ | refine V_iadd d_X0_go_19 ?_
    refine V_al0 d_X0_go_20 ?_
    refine V_il1 d_X0_go_21 ?_
    refine V_il2 d_X0_go_22 ?_
    refine U_cv2 d_X0_go_23 (hg) rfl rfl rfl ?_
    refine V_ki d_X0_go_26 ?_
    first | with_reducible refine V_iaddN d_X0_go_27 ?_ | refine V_iadd d_X0_go_27 ?_
    refine U_cs3v d_X0_go_28 (c_X8_keep (j := 6 * 6 + b) rfl (by decide) rfl (by omega)) rfl ?_
    exact V_vret d_X0_go_31 rfl rfl rfl
  · have e : pv p = nI p := if_neg h6
    rw [e] at hg ⊢
    refine V_al0 d_X0_go_0 ?_
    refine V_getR d_X0_go_1 rfl rfl (by decide) rfl ?_
    refine V_il1 d_X0_go_4 ?_
    refine V_ki d_X0_go_5 ?_
    refine V_ic_ne d_X0_go_6 (fun h6 => ?_) (fun q => (nI_m1 (by omega) q).elim)
    refine V_il1 d_X0_go_14 ?_
    refine V_ki d_X0_go_15 ?_
    first | with_reducible refine V_imulN d_X0_go_17 ?_ | refine V_imul d_X0_go_17 ?_
    refine V_il2 d_X0_go_18 ?_
    first | with_reducible refine V_iaddN d_X0_go_19 ?_ | refine V_iadd d_X0_go_19 ?_
    refine V_al0 d_X0_go_20 ?_
    refine V_il1 d_X0_go_21 ?_
    refine V_il2 d_X0_go_22 ?_
    refine U_cv2 d_X0_go_23 (hg) rfl rfl rfl ?_
    refine V_ki d_X0_go_26 ?_
    first | with_reducible refine V_iaddN d_X0_go_27 ?_ | refine V_iadd d_X0_go_27 ?_
    refine U_cs3v d_X0_go_28 (c_X8_keep (j := p * 6 + b) rfl (by decide) rfl (by omega)) rfl ?_
    exact V_vret d_X0_go_31 rfl rfl rfl
theorem BV_go {S : AS} {f : Nat → Nat → Nat} {p b : Nat} (h : BV S f) (hb : b < 6) : BV (sI S 10 (p * 6 + b) (nI (f p b + 1))) (fun a c => f a c + (if p = a ∧ b = c then 1 else 0)) := by
  intro a ha c hc
  rw [sI_1]
  by_cases e : p = a ∧ b = c
  · obtain ⟨rfl, rfl⟩ := e
    show _ = nI (f p b + if p = p ∧ b = b then 1 else 0)
    rw [if_pos ⟨rfl, rfl⟩, if_pos ⟨rfl, rfl⟩]
  · show _ = nI (f a c + if p = a ∧ b = c then 1 else 0)
    rw [if_neg (fun z => e (by omega)), if_neg e]
    exact h a ha c hc
theorem sh_pv {w : List Nat} {i : Nat} (hw : WFc w) (hi : i < w.length) : sh w i = pv w[i] := by
  have := hw.2 _ (List.getElem_mem hi)
  rw [sh_in hi, pv, if_neg (by omega)]
set_option maxRecDepth 100000 in
theorem c_X0_tell {G : Gm} {S : AS} {ft : Int32} {N : List (List Nat)} {k : Nat} (hv : CNv S ft N) (hN : WFN N) (hk : k ≤ N.length) : ∃ SE, Rm G M_X0_tell [.ref (gB G + 9), .int (nI k)] S none SE ∧ BV SE (stN N k) ∧ Ag P10 S SE := by
  have h8 := hN.1
  have inner : ∀ (n : Nat), n < N.length → ∀ (d i p : Nat) (S1 : AS) (f : Nat → Nat → Nat), i + d = (ni N n).length → p < 7 → (0 < i → ∃ h : i - 1 < (ni N n).length, (ni N n)[i - 1] = p) → (i = 0 → p = 6) → CNv S1 ft N → BV S1 f →
      ∃ S2, Ag P10 S1 S2 ∧ BV S2 (fun a b => f a b + stL ((ni N n).drop i) p a b) ∧ ∀ Z, U G M_X0_tell Z 65 [some (.ref (gB G + 9)), some (.int (nI k)), some (.int (nI n)), some (.int (nI (ni N n).length))] [] S2 → U G M_X0_tell Z 23 [some (.ref (gB G + 9)), some (.int (nI k)), some (.int (nI n)), some (.int (nI i))] [] S1 := by
    intro n hn d
    have h6 := ni_le hN hn
    have hw := (ni_wf hN hn).2
    induction d with
    | zero =>
      intro i p S1 f hi hp hpi hp0 hv1 hb1
      rw [Nat.add_zero] at hi
      subst hi
      refine ⟨S1, Ag.rf, fun a ha b hb => ?_, fun Z kz => ?_⟩
      · rw [List.drop_eq_nil_of_le (Nat.le_refl _)]
        exact hb1 a ha b hb
      · refine V_il3 d_X0_tell_23 ?_
        refine V_al0 d_X0_tell_24 ?_
        refine V_getR d_X0_tell_25 rfl rfl (by decide) rfl ?_
        refine V_il2 d_X0_tell_28 ?_
        refine U_cv1 d_X0_tell_29 (c_X4_lengthOf hv1 hN hn) rfl rfl rfl ?_
        refine U_ic_geN d_X0_tell_32 (by omega) (by omega) (fun h32 => ?_) (fun q => absurd q (by omega))
        exact kz
    | succ d ih =>
      intro i p S1 f hi hp hpi hp0 hv1 hb1
      have hl : i < (ni N n).length := by omega
      have hs : (ni N n)[i] < 6 := hw.2 _ (List.getElem_mem hl)
      have hgo := c_X0_go (G := G) hp hs (hb1 p hp _ hs)
      have hb2 := BV_go (p := p) hb1 hs
      have ha2 : Ag P10 S1 (sI S1 10 (p * 6 + (ni N n)[i]) (nI (f p (ni N n)[i] + 1))) := Ag.rf.sI rfl
      obtain ⟨S2, r1, r2, r3⟩ := ih (i + 1) (ni N n)[i] _ _ (by omega) (by omega) (fun _ => ⟨by omega, rfl⟩) (fun z => by omega) (hv1.ag ha2 (fun _ => rfl) (fun _ => rfl) (fun _ => rfl)) hb2
      refine ⟨S2, ha2.tr r1, fun a ha b hb => ?_, fun Z kz => ?_⟩
      · have h2 : S2.1 10 (a * 6 + b) = nI ((f a b + if p = a ∧ (ni N n)[i] = b then 1 else 0) + stL ((ni N n).drop (i + 1)) (ni N n)[i] a b) := r2 a ha b hb
        rw [h2, drop_cons hl, Nat.add_assoc]
        rfl
      · have hsp : ∃ v : Int32, Rm G M_X4_shedOf [.ref (gB G + 4), .int (nI n), .int (nI i - nI 1)] S1 (some (.int (pv p))) S1 := by
          rcases Nat.eq_zero_or_pos i with g | g
          · have e := hp0 g
            subst g; subst e
            exact ⟨0, c_X4_shedOf_m1 hv1 hN hn⟩
          · obtain ⟨g1, g2⟩ := hpi g
            have h := c_X4_shedOf (G := G) (j := i - 1) hv1 hN hn (by omega)
            rw [sh_pv hw g1, g2] at h
            rw [pk_sub g]
            exact ⟨0, h⟩
        obtain ⟨-, hsp⟩ := hsp
        have hsi := c_X4_shedOf (G := G) (j := i) hv1 hN hn (by omega)
        rw [sh_in hl] at hsi
        refine V_il3 d_X0_tell_23 ?_
        refine V_al0 d_X0_tell_24 ?_
        refine V_getR d_X0_tell_25 rfl rfl (by decide) rfl ?_
        refine V_il2 d_X0_tell_28 ?_
        refine U_cv1 d_X0_tell_29 (c_X4_lengthOf hv1 hN hn) rfl rfl rfl ?_
        refine U_ic_geN d_X0_tell_32 (by omega) (by omega) (fun q => absurd q (by omega)) (fun h32 => ?_)
        refine V_al0 d_X0_tell_35 ?_
        refine V_al0 d_X0_tell_36 ?_
        refine V_getR d_X0_tell_37 rfl rfl (by decide) rfl ?_
        refine V_il2 d_X0_tell_40 ?_
        refine V_il3 d_X0_tell_41 ?_
        refine V_ki d_X0_tell_42 ?_
        refine V_isub d_X0_tell_43 ?_
        refine U_cv2 d_X0_tell_44 (hsp) rfl rfl rfl ?_
        refine V_al0 d_X0_tell_47 ?_
        refine V_getR d_X0_tell_48 rfl rfl (by decide) rfl ?_
        refine V_il2 d_X0_tell_51 ?_
        refine V_il3 d_X0_tell_52 ?_
        refine U_cv2 d_X0_tell_53 (hsi) rfl rfl rfl ?_
        refine U_cv2v d_X0_tell_56 (hgo) rfl rfl rfl ?_
        refine V_icN3 d_X0_tell_59 rfl ?_
        refine V_goto d_X0_tell_62 ?_
        exact r3 Z kz
  have outer : ∀ (d n : Nat) (S1 : AS) (x3 : Option Value), n + d = k → CNv S1 ft N → BV S1 (stN N n) → ∃ S2, Ag P10 S1 S2 ∧ BV S2 (stN N k) ∧ U G M_X0_tell (Ze G none S2) 10 [some (.ref (gB G + 9)), some (.int (nI k)), some (.int (nI n)), x3] [] S1 := by
    intro d
    induction d with
    | zero =>
      intro n S1 x3 hn hv1 hb1
      rw [Nat.add_zero] at hn
      subst hn
      refine ⟨S1, Ag.rf, hb1, ?_⟩
      refine V_il2 d_X0_tell_10 ?_
      refine V_il1 d_X0_tell_11 ?_
      refine U_ic_geN d_X0_tell_12 (by omega) (by omega) (fun h12 => ?_) (fun q => absurd q (by omega))
      exact V_vret d_X0_tell_71 rfl rfl rfl
    | succ d ih =>
      intro n S1 x3 hn hv1 hb1
      obtain ⟨S2, r1, r2, r3⟩ := inner n (by omega) _ 0 6 S1 _ (Nat.zero_add _) (by omega) (fun z => absurd z (Nat.lt_irrefl 0)) (fun _ => rfl) hv1 hb1
      obtain ⟨S3, q1, q2, q3⟩ := ih (n + 1) S2 (some (.int (nI (ni N n).length))) (by omega) (hv1.ag r1 (fun _ => rfl) (fun _ => rfl) (fun _ => rfl)) (fun a ha b hb => by rw [r2 a ha b hb, List.drop_zero, stN])
      refine ⟨S3, r1.tr q1, q2, ?_⟩
      refine V_il2 d_X0_tell_10 ?_
      refine V_il1 d_X0_tell_11 ?_
      refine U_ic_geN d_X0_tell_12 (by omega) (by omega) (fun q => absurd q (by omega)) (fun h12 => ?_)
      refine V_il2 d_X0_tell_15 ?_
      refine V_ki d_X0_tell_16 ?_
      refine U_ic_geN d_X0_tell_18 (by omega) (by omega) (fun q => absurd q (by omega)) (fun h18 => ?_)
      refine V_ki d_X0_tell_21 ?_
      refine V_is3 d_X0_tell_22 rfl ?_
      refine r3 _ ?_
      refine V_icN2 d_X0_tell_65 rfl ?_
      refine V_goto d_X0_tell_68 ?_
      exact q3
  have ha0 : Ag P10 S (fillS S 10 42 (nI 0)) := Ag.rf.fill (fun _ _ => rfl)
  obtain ⟨S2, r1, r2, r3⟩ := outer k 0 (fillS S 10 42 (nI 0)) none (by omega) (hv.ag ha0 (fun _ => rfl) (fun _ => rfl) (fun _ => rfl)) (fun a ha b hb => by
    show (if 10 = 10 ∧ a * 6 + b < 42 then nI 0 else _) = _
    rw [if_pos ⟨rfl, by omega⟩]; rfl)
  refine ⟨S2, ?_, r2, ha0.tr r1⟩
  refine Rn_of hp_X0_tell [some (.ref (gB G + 9)), some (.int (nI k)), none, none] rfl (Nat.le_of_ble_eq_true rfl) (Nat.le_of_ble_eq_true rfl) ?_
  refine V_al0 d_X0_tell_0 ?_
  refine V_getR d_X0_tell_1 rfl rfl (by decide) rfl ?_
  refine V_ki d_X0_tell_4 ?_
  refine U_cs2v d_X0_tell_5 (c_X8_fill (len := 42) rfl (by decide)) rfl ?_
  refine V_ki d_X0_tell_8 ?_
  refine V_is2 d_X0_tell_9 rfl ?_
  exact r3
