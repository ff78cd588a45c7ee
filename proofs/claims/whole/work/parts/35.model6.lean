/-! the reference: lots -/
def PX (a b : Nat) : Bool := PM a b || a == 28 || a == 29 || (a == 22 && b == 11)
theorem PX_M {S S1 : AS} (h : Ag PM S S1) : Ag PX S S1 := h.mono (fun a b q => by
  unfold PX at q
  simp only [Bool.or_eq_false_iff] at q
  exact q.1.1.1)
theorem PX_28 {S S1 : AS} (h : Ag P28 S S1) : Ag PX S S1 := h.mono (fun a b q => by
  unfold PX at q
  simp only [Bool.or_eq_false_iff] at q
  show (a == 28 || a == 29) = false
  rw [q.1.1.2, q.1.2]; rfl)
theorem PX_22 {S S1 : AS} (h : Ag P22b S S1) : Ag PX S S1 := h.mono (fun a b q => by
  unfold PX at q
  simp only [Bool.or_eq_false_iff] at q
  exact q.2)
def slc (B : Nat × Nat) (j : Nat) : Nat := if j = 0 then B.1 / 60 else if j = 1 then B.1 % 60 else B.2 - 1
theorem mI_pos {v : Nat} (h : 0 < v) : mI v = nI (v - 1) := by rw [mI, if_neg (by omega)]
theorem nI_l6 : ∀ x, x < 6 → (nI x = (-1 : Int32) ↔ x = 6) := fun x hx => ⟨fun q => absurd q (nI_m1 (by omega)), fun q => by omega⟩
theorem nI_lx {y : Nat} (hy : y < 6) : ∀ x, x < 6 → (nI x = nI y ↔ x = y) := fun x hx => nI_eq (by omega) (by omega)
set_option maxRecDepth 100000 in
theorem c_X9_areNights {G : Gm} {S : AS} {b : Nat → Nat} {sz : Nat} {ft v v' : Int32} {N : List (List Nat)} (hv : MTv S b sz) (hx : TXT b sz ft N) : ∃ SE, Rm G M_X9_areNights [.ref (gB G + 22), .int v, .int v'] S (some (.int (bI (tolB v N.length && tolB v' N.length)))) SE ∧ MNv SE N ∧ Ag PM S SE := by
  obtain ⟨S1, r1, r2, r3⟩ := c_X9_isNight (G := G) (v := v) hv hx
  have hv1 := hv.ag r3 rfl (fun _ => rfl)
  obtain ⟨S2, q1, q2, q3⟩ := c_X9_isNight (G := G) (v := v') hv1 hx
  cases c : tolB v N.length with
  | false =>
    rw [c] at r1
    refine ⟨S1, ?_, r2, r3⟩
    refine Rn_of hp_X9_areNights [some (.ref (gB G + 22)), some (.int v), some (.int v')] rfl (Nat.le_of_ble_eq_true rfl) (Nat.le_of_ble_eq_true rfl) ?_
    refine V_al0 d_X9_areNights_0 ?_
    refine V_il1 d_X9_areNights_1 ?_
    refine U_cv1 d_X9_areNights_2 (r1) rfl rfl rfl ?_
    refine V_eqB d_X9_areNights_5 (fun h5 => ?_) (fun q => (bTF q rfl).elim)
    refine V_ki d_X9_areNights_20 ?_
    exact V_zret d_X9_areNights_21 rfl rfl (by first | rfl | simp_all) rfl
  | true =>
    rw [c] at r1
    refine ⟨S2, ?_, q2, r3.tr q3⟩
    cases c' : tolB v' N.length with
    | false =>
      rw [c'] at q1
      refine Rn_of hp_X9_areNights [some (.ref (gB G + 22)), some (.int v), some (.int v')] rfl (Nat.le_of_ble_eq_true rfl) (Nat.le_of_ble_eq_true rfl) ?_
      refine V_al0 d_X9_areNights_0 ?_
      refine V_il1 d_X9_areNights_1 ?_
      refine U_cv1 d_X9_areNights_2 (r1) rfl rfl rfl ?_
      refine V_eqB d_X9_areNights_5 (fun q => (bTF rfl q).elim) (fun h5 => ?_)
      refine V_al0 d_X9_areNights_8 ?_
      refine V_il2 d_X9_areNights_9 ?_
      refine U_cv1 d_X9_areNights_10 (q1) rfl rfl rfl ?_
      refine V_eqB d_X9_areNights_13 (fun h13 => ?_) (fun q => (bTF q rfl).elim)
      refine V_ki d_X9_areNights_20 ?_
      exact V_zret d_X9_areNights_21 rfl rfl (by first | rfl | simp_all) rfl
    | true =>
      rw [c'] at q1
      refine Rn_of hp_X9_areNights [some (.ref (gB G + 22)), some (.int v), some (.int v')] rfl (Nat.le_of_ble_eq_true rfl) (Nat.le_of_ble_eq_true rfl) ?_
      refine V_al0 d_X9_areNights_0 ?_
      refine V_il1 d_X9_areNights_1 ?_
      refine U_cv1 d_X9_areNights_2 (r1) rfl rfl rfl ?_
      refine V_eqB d_X9_areNights_5 (fun q => (bTF rfl q).elim) (fun h5 => ?_)
      refine V_al0 d_X9_areNights_8 ?_
      refine V_il2 d_X9_areNights_9 ?_
      refine U_cv1 d_X9_areNights_10 (q1) rfl rfl rfl ?_
      refine V_eqB d_X9_areNights_13 (fun q => (bTF rfl q).elim) (fun h13 => ?_)
      refine V_ki d_X9_areNights_16 ?_
      refine V_goto d_X9_areNights_17 ?_
      exact V_zret d_X9_areNights_21 rfl rfl (by first | rfl | simp_all) rfl
set_option maxRecDepth 100000 in
theorem c_X9_breaksOf {G : Gm} {S : AS} {w wy : Nat → Nat} {lk nd : Nat} {N : List (List Nat)} {a b p j : Nat} (hH : HVm S w wy lk nd) (hB : HB w wy lk nd) (hv : MNv S N) (hN : WFN N) (ha : a < N.length) (hb : b < N.length) (hp : p ≤ 16) (hj : j ≤ 2) :
    ∃ SE, Rm G M_X9_breaksOf [.ref (gB G + 22), .int (nI a), .int (nI b), .int (nI p), .int (nI j)] S (some (.int (nI (slc (best (fun x m => p * hh w wy lk nd (ni N a) x m + (16 - p) * hh w wy lk nd (ni N b) x m) (61 - nd - 0) 0 6) j)))) SE ∧ Ag PX S SE := by
  obtain ⟨n1, n2⟩ := hB.2.2.2
  have h8 := hN.1
  obtain ⟨S1, t1, t2, t3⟩ := c_X9_lays (G := G) hH hB hv hN ha hb
  have hn1 : S1.1 22 8 = nI nd := (t3.2 22 8 rfl).trans hH.2.2.2
  obtain ⟨S2, q1, q2, q3⟩ := c_X9_most (G := G) (pa := p) (pb := 16 - p) (m0 := 0) (lamp := 6) (lI := -1) (g := fun x m => p * hh w wy lk nd (ni N a) x m + (16 - p) * hh w wy lk nd (ni N b) x m) t2 hn1 n1 n2 (hh_le hB _) (hh_le hB _) (fun _ _ => rfl) (by omega) (by omega) (by omega) nI_l6
  have hpos := best_pos (g := fun x m => p * hh w wy lk nd (ni N a) x m + (16 - p) * hh w wy lk nd (ni N b) x m) (k := 61 - nd - 0) (m0 := 0) (lamp := 6) (by omega)
  have hin := best_in (g := fun x m => p * hh w wy lk nd (ni N a) x m + (16 - p) * hh w wy lk nd (ni N b) x m) (k := 61 - nd - 0) (m0 := 0) (lamp := 6) (M := 61 - nd) (by omega) (by omega) (by omega)
  rw [mI_pos hpos] at q1
  refine ⟨S2, ?_, (PX_28 t3).tr (PX_22 q3)⟩
  generalize best (fun x m => p * hh w wy lk nd (ni N a) x m + (16 - p) * hh w wy lk nd (ni N b) x m) (61 - nd - 0) 0 6 = B at hpos hin q1 q2 ⊢
  have hB3 : B.1 < 360 := by
    rcases hin with q | q
    · rw [q] at hpos; exact absurd hpos (Nat.lt_irrefl 0)
    · omega
  unfold slc
  refine Rn_of hp_X9_breaksOf [some (.ref (gB G + 22)), some (.int (nI a)), some (.int (nI b)), some (.int (nI p)), some (.int (nI j)), none] rfl (Nat.le_of_ble_eq_true rfl) (Nat.le_of_ble_eq_true rfl) ?_
  refine V_al0 d_X9_breaksOf_0 ?_
  refine V_il1 d_X9_breaksOf_1 ?_
  refine V_il2 d_X9_breaksOf_2 ?_
  refine U_cv2v d_X9_breaksOf_3 (t1) rfl rfl rfl ?_
  refine V_al0 d_X9_breaksOf_6 ?_
  refine V_il3 d_X9_breaksOf_7 ?_
  refine V_ki d_X9_breaksOf_8 ?_
  refine V_il3 d_X9_breaksOf_10 ?_
  refine V_isubN d_X9_breaksOf_11 (hp) ?_
  refine V_ki d_X9_breaksOf_12 ?_
  refine V_ki d_X9_breaksOf_13 ?_
  refine U_cv4 d_X9_breaksOf_14 (q1) rfl rfl rfl ?_
  refine V_is5 d_X9_breaksOf_17 rfl ?_
  refine V_il4 d_X9_breaksOf_19 ?_
  refine U_if_neN d_X9_breaksOf_21 (by omega) (fun h21 => ?_) (fun h21 => ?_)
  · refine V_il4 d_X9_breaksOf_34 ?_
    refine V_ki d_X9_breaksOf_36 ?_
    refine U_ic_neN d_X9_breaksOf_37 (by omega) (by omega) (fun h37 => ?_) (fun h37 => ?_)
    · refine V_il5 d_X9_breaksOf_50 ?_
      exact V_iret d_X9_breaksOf_52 rfl (by first | rw [if_pos h21] | rw [if_neg h21, if_pos h37] | rw [if_neg h21, if_neg h37]) rfl
    · refine V_al0 d_X9_breaksOf_40 ?_
      refine V_getIe d_X9_breaksOf_41 rfl rfl (by decide) (q2) ?_
      refine V_ki d_X9_breaksOf_44 ?_
      refine V_irem d_X9_breaksOf_46 (by decide) ?_
      rw [pk_rem (by omega) (by decide) (by decide)]
      refine V_goto d_X9_breaksOf_47 ?_
      exact V_iret d_X9_breaksOf_52 rfl (by first | rw [if_pos h21] | rw [if_neg h21, if_pos h37] | rw [if_neg h21, if_neg h37]) rfl
  · refine V_al0 d_X9_breaksOf_24 ?_
    refine V_getIe d_X9_breaksOf_25 rfl rfl (by decide) (q2) ?_
    refine V_ki d_X9_breaksOf_28 ?_
    refine V_idiv d_X9_breaksOf_30 (by decide) ?_
    rw [pk_div (by omega) (by decide) (by decide)]
    refine V_goto d_X9_breaksOf_31 ?_
    exact V_iret d_X9_breaksOf_52 rfl (by first | rw [if_pos h21] | rw [if_neg h21, if_pos h37] | rw [if_neg h21, if_neg h37]) rfl
def sA (N : List (List Nat)) (a x p : Nat) : Nat := if sh (ni N a) 0 = nI x then p else 0
def snV (N : List (List Nat)) (ga gb : Nat → Nat → Nat) (nd a b p x j : Nat) : Int32 := if sA N a x p + sA N b x (16 - p) = 0 then -3 else nI (slc (best (fun x' m => sA N a x p * ga x' m + sA N b x (16 - p) * gb x' m) (61 - nd - 1) 1 6) j)
set_option maxRecDepth 100000 in
theorem c_X9_seenOf {G : Gm} {S : AS} {w wy : Nat → Nat} {lk nd : Nat} {N : List (List Nat)} {a b p x j : Nat} (hH : HVm S w wy lk nd) (hB : HB w wy lk nd) (hv : MNv S N) (hN : WFN N) (ha : a < N.length) (hb : b < N.length) (hp : p ≤ 16) (hx : x < 6) (hj : j ≤ 2) :
    ∃ SE, Rm G M_X9_seenOf [.ref (gB G + 22), .int (nI a), .int (nI b), .int (nI p), .int (nI x), .int (nI j)] S (some (.int (snV N (hh w wy lk nd (ni N a)) (hh w wy lk nd (ni N b)) nd a b p x j))) SE ∧ Ag PX S SE := by
  obtain ⟨n1, n2⟩ := hB.2.2.2
  have h8 := hN.1
  have pa0 := hv.2.2 a ha 0 (by have := (ni_wf hN ha).1; exact List.length_pos_iff.mpr this)
  have pb0 := hv.2.2 b hb 0 (by have := (ni_wf hN hb).1; exact List.length_pos_iff.mpr this)
  rw [Nat.add_zero] at pa0 pb0
  have sa16 : sA N a x p ≤ 16 := by unfold sA; split <;> omega
  have sb16 : sA N b x (16 - p) ≤ 16 := by unfold sA; split <;> omega
  have start : ∀ {r : Int32} {SE : AS}, U G M_X9_seenOf (Ze G (some (.int r)) SE) 45 [some (.ref (gB G + 22)), some (.int (nI a)), some (.int (nI b)), some (.int (nI p)), some (.int (nI x)), some (.int (nI j)), some (.int (nI (sA N a x p))), some (.int (nI (sA N b x (16 - p)))), none] [] S → Rm G M_X9_seenOf [.ref (gB G + 22), .int (nI a), .int (nI b), .int (nI p), .int (nI x), .int (nI j)] S (some (.int r)) SE := by
    intro r SE hk
    refine Rn_of hp_X9_seenOf [some (.ref (gB G + 22)), some (.int (nI a)), some (.int (nI b)), some (.int (nI p)), some (.int (nI x)), some (.int (nI j)), none, none, none] rfl (Nat.le_of_ble_eq_true rfl) (Nat.le_of_ble_eq_true rfl) ?_
    by_cases c1 : sh (ni N a) 0 = nI x
    · by_cases c2 : sh (ni N b) 0 = nI x
      · rw [show sA N a x p = p by rw [sA, if_pos c1], show sA N b x (16 - p) = 16 - p by rw [sA, if_pos c2]] at hk
        refine V_al0 d_X9_seenOf_0 ?_
        refine V_getR d_X9_seenOf_1 rfl rfl (by decide) rfl ?_
        refine V_ki d_X9_seenOf_4 ?_
        refine V_il1 d_X9_seenOf_6 ?_
        first | with_reducible refine V_imulN d_X9_seenOf_7 ?_ | refine V_imul d_X9_seenOf_7 ?_
        refine V_ialdE d_X9_seenOf_8 rfl (by decide) rfl (show 6 * a < 54 by omega) pa0 ?_
        refine V_il4 d_X9_seenOf_9 ?_
        refine V_ic_ne d_X9_seenOf_11 (fun q => absurd c1 q) (fun h11 => ?_)
        refine V_il3 d_X9_seenOf_14 ?_
        refine V_goto d_X9_seenOf_15 ?_
        refine V_is6 d_X9_seenOf_19 rfl ?_
        refine V_al0 d_X9_seenOf_21 ?_
        refine V_getR d_X9_seenOf_22 rfl rfl (by decide) rfl ?_
        refine V_ki d_X9_seenOf_25 ?_
        refine V_il2 d_X9_seenOf_27 ?_
        first | with_reducible refine V_imulN d_X9_seenOf_28 ?_ | refine V_imul d_X9_seenOf_28 ?_
        refine V_ialdE d_X9_seenOf_29 rfl (by decide) rfl (show 6 * b < 54 by omega) pb0 ?_
        refine V_il4 d_X9_seenOf_30 ?_
        refine V_ic_ne d_X9_seenOf_32 (fun q => absurd c2 q) (fun h32 => ?_)
        refine V_ki d_X9_seenOf_35 ?_
        refine V_il3 d_X9_seenOf_37 ?_
        refine V_isubN d_X9_seenOf_38 (hp) ?_
        refine V_goto d_X9_seenOf_39 ?_
        refine V_is7 d_X9_seenOf_43 rfl ?_
        exact hk
      · rw [show sA N a x p = p by rw [sA, if_pos c1], show sA N b x (16 - p) = 0 by rw [sA, if_neg c2]] at hk
        refine V_al0 d_X9_seenOf_0 ?_
        refine V_getR d_X9_seenOf_1 rfl rfl (by decide) rfl ?_
        refine V_ki d_X9_seenOf_4 ?_
        refine V_il1 d_X9_seenOf_6 ?_
        first | with_reducible refine V_imulN d_X9_seenOf_7 ?_ | refine V_imul d_X9_seenOf_7 ?_
        refine V_ialdE d_X9_seenOf_8 rfl (by decide) rfl (show 6 * a < 54 by omega) pa0 ?_
        refine V_il4 d_X9_seenOf_9 ?_
        refine V_ic_ne d_X9_seenOf_11 (fun q => absurd c1 q) (fun h11 => ?_)
        refine V_il3 d_X9_seenOf_14 ?_
        refine V_goto d_X9_seenOf_15 ?_
        refine V_is6 d_X9_seenOf_19 rfl ?_
        refine V_al0 d_X9_seenOf_21 ?_
        refine V_getR d_X9_seenOf_22 rfl rfl (by decide) rfl ?_
        refine V_ki d_X9_seenOf_25 ?_
        refine V_il2 d_X9_seenOf_27 ?_
        first | with_reducible refine V_imulN d_X9_seenOf_28 ?_ | refine V_imul d_X9_seenOf_28 ?_
        refine V_ialdE d_X9_seenOf_29 rfl (by decide) rfl (show 6 * b < 54 by omega) pb0 ?_
        refine V_il4 d_X9_seenOf_30 ?_
        refine V_ic_ne d_X9_seenOf_32 (fun h32 => ?_) (fun q => absurd q c2)
        refine V_ki d_X9_seenOf_42 ?_
        refine V_is7 d_X9_seenOf_43 rfl ?_
        exact hk
    · by_cases c2 : sh (ni N b) 0 = nI x
      · rw [show sA N a x p = 0 by rw [sA, if_neg c1], show sA N b x (16 - p) = 16 - p by rw [sA, if_pos c2]] at hk
        refine V_al0 d_X9_seenOf_0 ?_
        refine V_getR d_X9_seenOf_1 rfl rfl (by decide) rfl ?_
        refine V_ki d_X9_seenOf_4 ?_
        refine V_il1 d_X9_seenOf_6 ?_
        first | with_reducible refine V_imulN d_X9_seenOf_7 ?_ | refine V_imul d_X9_seenOf_7 ?_
        refine V_ialdE d_X9_seenOf_8 rfl (by decide) rfl (show 6 * a < 54 by omega) pa0 ?_
        refine V_il4 d_X9_seenOf_9 ?_
        refine V_ic_ne d_X9_seenOf_11 (fun h11 => ?_) (fun q => absurd q c1)
        refine V_ki d_X9_seenOf_18 ?_
        refine V_is6 d_X9_seenOf_19 rfl ?_
        refine V_al0 d_X9_seenOf_21 ?_
        refine V_getR d_X9_seenOf_22 rfl rfl (by decide) rfl ?_
        refine V_ki d_X9_seenOf_25 ?_
        refine V_il2 d_X9_seenOf_27 ?_
        first | with_reducible refine V_imulN d_X9_seenOf_28 ?_ | refine V_imul d_X9_seenOf_28 ?_
        refine V_ialdE d_X9_seenOf_29 rfl (by decide) rfl (show 6 * b < 54 by omega) pb0 ?_
        refine V_il4 d_X9_seenOf_30 ?_
        refine V_ic_ne d_X9_seenOf_32 (fun q => absurd c2 q) (fun h32 => ?_)
        refine V_ki d_X9_seenOf_35 ?_
        refine V_il3 d_X9_seenOf_37 ?_
        refine V_isubN d_X9_seenOf_38 (hp) ?_
        refine V_goto d_X9_seenOf_39 ?_
        refine V_is7 d_X9_seenOf_43 rfl ?_
        exact hk
      · rw [show sA N a x p = 0 by rw [sA, if_neg c1], show sA N b x (16 - p) = 0 by rw [sA, if_neg c2]] at hk
        refine V_al0 d_X9_seenOf_0 ?_
        refine V_getR d_X9_seenOf_1 rfl rfl (by decide) rfl ?_
        refine V_ki d_X9_seenOf_4 ?_
        refine V_il1 d_X9_seenOf_6 ?_
        first | with_reducible refine V_imulN d_X9_seenOf_7 ?_ | refine V_imul d_X9_seenOf_7 ?_
        refine V_ialdE d_X9_seenOf_8 rfl (by decide) rfl (show 6 * a < 54 by omega) pa0 ?_
        refine V_il4 d_X9_seenOf_9 ?_
        refine V_ic_ne d_X9_seenOf_11 (fun h11 => ?_) (fun q => absurd q c1)
        refine V_ki d_X9_seenOf_18 ?_
        refine V_is6 d_X9_seenOf_19 rfl ?_
        refine V_al0 d_X9_seenOf_21 ?_
        refine V_getR d_X9_seenOf_22 rfl rfl (by decide) rfl ?_
        refine V_ki d_X9_seenOf_25 ?_
        refine V_il2 d_X9_seenOf_27 ?_
        first | with_reducible refine V_imulN d_X9_seenOf_28 ?_ | refine V_imul d_X9_seenOf_28 ?_
        refine V_ialdE d_X9_seenOf_29 rfl (by decide) rfl (show 6 * b < 54 by omega) pb0 ?_
        refine V_il4 d_X9_seenOf_30 ?_
        refine V_ic_ne d_X9_seenOf_32 (fun h32 => ?_) (fun q => absurd q c2)
        refine V_ki d_X9_seenOf_42 ?_
        refine V_is7 d_X9_seenOf_43 rfl ?_
        exact hk
  unfold snV
  by_cases c0 : sA N a x p + sA N b x (16 - p) = 0
  · rw [if_pos c0]
    refine ⟨S, start ?_, Ag.rf⟩
    refine V_il6 d_X9_seenOf_45 ?_
    refine V_il7 d_X9_seenOf_47 ?_
    first | with_reducible refine V_iaddN d_X9_seenOf_49 ?_ | refine V_iadd d_X9_seenOf_49 ?_
    refine U_if_neN d_X9_seenOf_50 (by omega) (fun q => absurd c0 q) (fun h50 => ?_)
    refine V_ki d_X9_seenOf_53 ?_
    exact V_iret d_X9_seenOf_55 rfl (by first | rfl | simp_all) rfl
  · rw [if_neg c0]
    obtain ⟨S1, t1, t2, t3⟩ := c_X9_lays (G := G) hH hB hv hN ha hb
    have hn1 : S1.1 22 8 = nI nd := (t3.2 22 8 rfl).trans hH.2.2.2
    obtain ⟨S2, q1, q2, q3⟩ := c_X9_most (G := G) (pa := sA N a x p) (pb := sA N b x (16 - p)) (m0 := 1) (lamp := 6) (lI := -1) (g := fun x' m => sA N a x p * hh w wy lk nd (ni N a) x' m + sA N b x (16 - p) * hh w wy lk nd (ni N b) x' m) t2 hn1 n1 n2 (hh_le hB _) (hh_le hB _) (fun _ _ => rfl) (by omega) (by omega) (by omega) nI_l6
    have hpos := best_pos (g := fun x' m => sA N a x p * hh w wy lk nd (ni N a) x' m + sA N b x (16 - p) * hh w wy lk nd (ni N b) x' m) (k := 61 - nd - 1) (m0 := 1) (lamp := 6) (by omega)
    have hin := best_in (g := fun x' m => sA N a x p * hh w wy lk nd (ni N a) x' m + sA N b x (16 - p) * hh w wy lk nd (ni N b) x' m) (k := 61 - nd - 1) (m0 := 1) (lamp := 6) (M := 61 - nd) (by omega) (by omega) (by omega)
    rw [mI_pos hpos] at q1
    refine ⟨S2, start ?_, (PX_28 t3).tr (PX_22 q3)⟩
    generalize best (fun x' m => sA N a x p * hh w wy lk nd (ni N a) x' m + sA N b x (16 - p) * hh w wy lk nd (ni N b) x' m) (61 - nd - 1) 1 6 = B at hpos hin q1 q2 ⊢
    have hB3 : B.1 < 360 := by
      rcases hin with q | q
      · rw [q] at hpos; exact absurd hpos (Nat.lt_irrefl 0)
      · omega
    unfold slc
    refine V_il6 d_X9_seenOf_45 ?_
    refine V_il7 d_X9_seenOf_47 ?_
    first | with_reducible refine V_iaddN d_X9_seenOf_49 ?_ | refine V_iadd d_X9_seenOf_49 ?_
    refine U_if_neN d_X9_seenOf_50 (by omega) (fun h50 => ?_) (fun q => absurd q c0)
    refine V_al0 d_X9_seenOf_56 ?_
    refine V_il1 d_X9_seenOf_57 ?_
    refine V_il2 d_X9_seenOf_58 ?_
    refine U_cv2v d_X9_seenOf_59 (t1) rfl rfl rfl ?_
    refine V_al0 d_X9_seenOf_62 ?_
    refine V_il6 d_X9_seenOf_63 ?_
    refine V_il7 d_X9_seenOf_65 ?_
    refine V_ki d_X9_seenOf_67 ?_
    refine V_ki d_X9_seenOf_68 ?_
    refine U_cv4 d_X9_seenOf_69 (q1) rfl rfl rfl ?_
    refine V_is8 d_X9_seenOf_72 rfl ?_
    refine V_il5 d_X9_seenOf_74 ?_
    refine U_if_neN d_X9_seenOf_76 (by omega) (fun h76 => ?_) (fun h76 => ?_)
    · refine V_il5 d_X9_seenOf_89 ?_
      refine V_ki d_X9_seenOf_91 ?_
      refine U_ic_neN d_X9_seenOf_92 (by omega) (by omega) (fun h92 => ?_) (fun h92 => ?_)
      · refine V_il8 d_X9_seenOf_105 ?_
        exact V_iret d_X9_seenOf_107 rfl (by first | rw [if_pos h76] | rw [if_neg h76, if_pos h92] | rw [if_neg h76, if_neg h92]) rfl
      · refine V_al0 d_X9_seenOf_95 ?_
        refine V_getIe d_X9_seenOf_96 rfl rfl (by decide) (q2) ?_
        refine V_ki d_X9_seenOf_99 ?_
        refine V_irem d_X9_seenOf_101 (by decide) ?_
        rw [pk_rem (by omega) (by decide) (by decide)]
        refine V_goto d_X9_seenOf_102 ?_
        exact V_iret d_X9_seenOf_107 rfl (by first | rw [if_pos h76] | rw [if_neg h76, if_pos h92] | rw [if_neg h76, if_neg h92]) rfl
    · refine V_al0 d_X9_seenOf_79 ?_
      refine V_getIe d_X9_seenOf_80 rfl rfl (by decide) (q2) ?_
      refine V_ki d_X9_seenOf_83 ?_
      refine V_idiv d_X9_seenOf_85 (by decide) ?_
      rw [pk_div (by omega) (by decide) (by decide)]
      refine V_goto d_X9_seenOf_86 ?_
      exact V_iret d_X9_seenOf_107 rfl (by first | rw [if_pos h76] | rw [if_neg h76, if_pos h92] | rw [if_neg h76, if_neg h92]) rfl
set_option maxRecDepth 100000 in
theorem c_X9_lampOf {G : Gm} {S : AS} {w wy : Nat → Nat} {lk nd : Nat} {N : List (List Nat)} {a b p x : Nat} (hH : HVm S w wy lk nd) (hB : HB w wy lk nd) (hv : MNv S N) (hN : WFN N) (ha : a < N.length) (hb : b < N.length) (hp : p ≤ 16) (hx : x < 6) :
    ∃ SE, Rm G M_X9_lampOf [.ref (gB G + 22), .int (nI a), .int (nI b), .int (nI p), .int (nI x)] S (some (.int (nI ((best (fun x m => p * hh w wy lk nd (ni N a) x m + (16 - p) * hh w wy lk nd (ni N b) x m) (61 - nd - 0) 0 6).2 - 1) - nI ((best (fun x m => p * hh w wy lk nd (ni N a) x m + (16 - p) * hh w wy lk nd (ni N b) x m) (61 - nd - 0) 0 x).2 - 1)))) SE ∧ Ag PX S SE := by
  obtain ⟨n1, n2⟩ := hB.2.2.2
  have h8 := hN.1
  obtain ⟨S1, t1, t2, t3⟩ := c_X9_lays (G := G) hH hB hv hN ha hb
  have hn1 : S1.1 22 8 = nI nd := (t3.2 22 8 rfl).trans hH.2.2.2
  obtain ⟨S2, q1, q2, q3⟩ := c_X9_most (G := G) (pa := p) (pb := 16 - p) (m0 := 0) (lamp := 6) (lI := -1) (g := fun x m => p * hh w wy lk nd (ni N a) x m + (16 - p) * hh w wy lk nd (ni N b) x m) t2 hn1 n1 n2 (hh_le hB _) (hh_le hB _) (fun _ _ => rfl) (by omega) (by omega) (by omega) nI_l6
  have hpos := best_pos (g := fun x m => p * hh w wy lk nd (ni N a) x m + (16 - p) * hh w wy lk nd (ni N b) x m) (k := 61 - nd - 0) (m0 := 0) (lamp := 6) (by omega)
  have hn2 : S2.1 22 8 = nI nd := (q3.2 22 8 rfl).trans hn1
  have t4 := t2.ag q3 (fun _ => rfl) (fun _ => rfl)
  obtain ⟨S3, u1, u2, u3⟩ := c_X9_most (G := G) (pa := p) (pb := 16 - p) (m0 := 0) (lamp := x) (lI := nI x) (g := fun x m => p * hh w wy lk nd (ni N a) x m + (16 - p) * hh w wy lk nd (ni N b) x m) t4 hn2 n1 n2 (hh_le hB _) (hh_le hB _) (fun _ _ => rfl) (by omega) (by omega) (by omega) (nI_lx hx)
  have hpos2 := best_pos (g := fun x m => p * hh w wy lk nd (ni N a) x m + (16 - p) * hh w wy lk nd (ni N b) x m) (k := 61 - nd - 0) (m0 := 0) (lamp := x) (by omega)
  rw [mI_pos hpos] at q1
  rw [mI_pos hpos2] at u1
  refine ⟨S3, ?_, ((PX_28 t3).tr (PX_22 q3)).tr (PX_22 u3)⟩
  refine Rn_of hp_X9_lampOf [some (.ref (gB G + 22)), some (.int (nI a)), some (.int (nI b)), some (.int (nI p)), some (.int (nI x))] rfl (Nat.le_of_ble_eq_true rfl) (Nat.le_of_ble_eq_true rfl) ?_
  refine V_al0 d_X9_lampOf_0 ?_
  refine V_il1 d_X9_lampOf_1 ?_
  refine V_il2 d_X9_lampOf_2 ?_
  refine U_cv2v d_X9_lampOf_3 (t1) rfl rfl rfl ?_
  refine V_al0 d_X9_lampOf_6 ?_
  refine V_il3 d_X9_lampOf_7 ?_
  refine V_ki d_X9_lampOf_8 ?_
  refine V_il3 d_X9_lampOf_10 ?_
  refine V_isubN d_X9_lampOf_11 (hp) ?_
  refine V_ki d_X9_lampOf_12 ?_
  refine V_ki d_X9_lampOf_13 ?_
  refine U_cv4 d_X9_lampOf_14 (q1) rfl rfl rfl ?_
  refine V_al0 d_X9_lampOf_17 ?_
  refine V_il3 d_X9_lampOf_18 ?_
  refine V_ki d_X9_lampOf_19 ?_
  refine V_il3 d_X9_lampOf_21 ?_
  refine V_isubN d_X9_lampOf_22 (hp) ?_
  refine V_ki d_X9_lampOf_23 ?_
  refine V_il4 d_X9_lampOf_24 ?_
  refine U_cv4 d_X9_lampOf_26 (u1) rfl rfl rfl ?_
  refine V_isub d_X9_lampOf_29 ?_
  exact V_iret d_X9_lampOf_30 rfl (by first | rfl | simp_all) rfl
/-! the least lot, from all that a break has -/
theorem V_ll12 {G : Gm} {M : MT} {n0 nE : Nat} {Z : ZT} {n : Nat} {ρ : Rho} {pc pc' : Nat} {st : List Value} {S : AS} {a0 a1 a2 a3 a4 a5 a6 a7 a8 a9 a10 a11 : Option Value} {t : List (Option Value)} {x : Int64} (h : Dc M pc (.lload 12) 2 pc') (k : V G M n0 nE Z n ρ pc' (a0 :: a1 :: a2 :: a3 :: a4 :: a5 :: a6 :: a7 :: a8 :: a9 :: a10 :: a11 :: some (.long x) :: t) (.long x :: st) S) : V G M n0 nE Z n ρ pc (a0 :: a1 :: a2 :: a3 :: a4 :: a5 :: a6 :: a7 :: a8 :: a9 :: a10 :: a11 :: some (.long x) :: t) st S := V_lload h rfl k
theorem V_ls12 {G : Gm} {M : MT} {n0 nE : Nat} {Z : ZT} {n : Nat} {ρ : Rho} {pc pc' : Nat} {st : List Value} {S : AS} {a0 a1 a2 a3 a4 a5 a6 a7 a8 a9 a10 a11 : Option Value} {b b2 : Option Value} {t : List (Option Value)} {x : Int64} (h : Dc M pc (.lstore 12) 2 pc') (hc : nl2 a11 = true) (k : V G M n0 nE Z n ρ pc' (a0 :: a1 :: a2 :: a3 :: a4 :: a5 :: a6 :: a7 :: a8 :: a9 :: a10 :: a11 :: some (.long x) :: none :: t) st S) : V G M n0 nE Z n ρ pc (a0 :: a1 :: a2 :: a3 :: a4 :: a5 :: a6 :: a7 :: a8 :: a9 :: a10 :: a11 :: b :: b2 :: t) (.long x :: st) S := V_lstore h (Nat.le_add_left 14 t.length) hc k
theorem V_ll14 {G : Gm} {M : MT} {n0 nE : Nat} {Z : ZT} {n : Nat} {ρ : Rho} {pc pc' : Nat} {st : List Value} {S : AS} {a0 a1 a2 a3 a4 a5 a6 a7 a8 a9 a10 a11 a12 a13 : Option Value} {t : List (Option Value)} {x : Int64} (h : Dc M pc (.lload 14) 2 pc') (k : V G M n0 nE Z n ρ pc' (a0 :: a1 :: a2 :: a3 :: a4 :: a5 :: a6 :: a7 :: a8 :: a9 :: a10 :: a11 :: a12 :: a13 :: some (.long x) :: t) (.long x :: st) S) : V G M n0 nE Z n ρ pc (a0 :: a1 :: a2 :: a3 :: a4 :: a5 :: a6 :: a7 :: a8 :: a9 :: a10 :: a11 :: a12 :: a13 :: some (.long x) :: t) st S := V_lload h rfl k
theorem V_ls14 {G : Gm} {M : MT} {n0 nE : Nat} {Z : ZT} {n : Nat} {ρ : Rho} {pc pc' : Nat} {st : List Value} {S : AS} {a0 a1 a2 a3 a4 a5 a6 a7 a8 a9 a10 a11 a12 a13 : Option Value} {b b2 : Option Value} {t : List (Option Value)} {x : Int64} (h : Dc M pc (.lstore 14) 2 pc') (hc : nl2 a13 = true) (k : V G M n0 nE Z n ρ pc' (a0 :: a1 :: a2 :: a3 :: a4 :: a5 :: a6 :: a7 :: a8 :: a9 :: a10 :: a11 :: a12 :: a13 :: some (.long x) :: none :: t) st S) : V G M n0 nE Z n ρ pc (a0 :: a1 :: a2 :: a3 :: a4 :: a5 :: a6 :: a7 :: a8 :: a9 :: a10 :: a11 :: a12 :: a13 :: b :: b2 :: t) (.long x :: st) S := V_lstore h (Nat.le_add_left 16 t.length) hc k
def lsS (u v : Nat) (st : Nat × Nat × Nat) : Nat × Nat × Nat := (max st.1 (min u v), max st.2.1 u, max st.2.2 v)
def lsI (ga gb : Nat → Nat → Nat) (k x : Nat) (st : Nat × Nat × Nat) : Nat × Nat × Nat := lp (fun m st => lsS (ga x m) (gb x m) st) k 0 st
def lsF (ga gb : Nat → Nat → Nat) (k : Nat) : Nat × Nat × Nat := lp (fun x st => lsI ga gb k x st) 6 0 (0, 0, 0)
def lsR (a c : Nat × Nat × Nat) : Prop := a = (c.1, max c.1 c.2.1, max c.1 c.2.2)
theorem lsS_R {u v wt : Nat} {a c : Nat × Nat × Nat} (hu : u = 0 ∨ u = wt) (hv : v = 0 ∨ v = wt) (h : lsR a c) : lsR (lsS u v a) (wgS u v c) := by
  unfold lsR at h ⊢
  subst h
  unfold lsS wgS
  by_cases q : 0 < u ∧ 0 < v
  · rw [if_pos q]
    have e : u = v := by omega
    subst e
    refine Prod.ext ?_ (Prod.ext ?_ ?_)
    · show max c.1 (min u u) = max c.1 u
      rw [Nat.min_self]
    · show max (max c.1 c.2.1) u = max (max c.1 u) c.2.1
      omega
    · show max (max c.1 c.2.2) u = max (max c.1 u) c.2.2
      omega
  · rw [if_neg q]
    have e : min u v = 0 := by omega
    refine Prod.ext ?_ (Prod.ext ?_ ?_)
    · show max c.1 (min u v) = c.1
      omega
    · show max (max c.1 c.2.1) u = max c.1 (max c.2.1 u)
      omega
    · show max (max c.1 c.2.2) v = max c.1 (max c.2.2 v)
      omega
theorem lp_R {α β : Type} {R : α → β → Prop} {f : Nat → α → α} {g : Nat → β → β} (h : ∀ i a b, R a b → R (f i a) (g i b)) : ∀ k i a b, R a b → R (lp f k i a) (lp g k i b)
  | 0, _, _, _, q => q
  | k + 1, i, a, b, q => lp_R h k (i + 1) (f i a) (g i b) (h i a b q)
theorem lsF_R {ga gb : Nat → Nat → Nat} {wt : Nat → Nat} (ha : ∀ x m, ga x m = 0 ∨ ga x m = wt x) (hb : ∀ x m, gb x m = 0 ∨ gb x m = wt x) (k : Nat) : lsR (lsF ga gb k) (wgF ga gb k) := by
  unfold lsF wgF
  refine lp_R (R := lsR) (f := fun x st => lsI ga gb k x st) (g := fun x st => wgI ga gb k x st) (fun x a c q => ?_) 6 0 (0, 0, 0) (0, 0, 0) rfl
  exact lp_R (R := lsR) (f := fun m st => lsS (ga x m) (gb x m) st) (g := fun m st => wgS (ga x m) (gb x m) st) (fun m a c q' => lsS_R (ha x m) (hb x m) q') k 0 a c q
theorem hh_or (w wy : Nat → Nat) (lk nd : Nat) (q : List Nat) (x m : Nat) : hh w wy lk nd q x m = 0 ∨ hh w wy lk nd q x m = w x := by
  unfold hh hlN
  split
  · split
    · exact Or.inl rfl
    · exact Or.inr rfl
  · exact Or.inr rfl
theorem meets_R {a c : Nat × Nat × Nat} (h : lsR a c) : (a.1 * (a.2.1 + a.2.2) < a.2.1 * a.2.2 ↔ c.1 * (c.2.1 + c.2.2) < c.2.1 * c.2.2) ∧ (c.1 * (c.2.1 + c.2.2) < c.2.1 * c.2.2 → c.1 < c.2.1 ∧ c.1 < c.2.2) := by
  unfold lsR at h
  subst h
  obtain ⟨o, f, s⟩ := c
  have key : ∀ f s, o * (f + s) < f * s → o < f ∧ o < s := by
    intro f s q
    constructor
    · rcases Nat.lt_or_ge o f with g | g
      · exact g
      · have h1 := Nat.mul_le_mul_right s g
        have h2 : o * (f + s) = o * f + o * s := Nat.mul_add _ _ _
        omega
    · rcases Nat.lt_or_ge o s with g | g
      · exact g
      · have h1 := Nat.mul_le_mul_left f g
        have h2 : o * (f + s) = o * f + o * s := Nat.mul_add _ _ _
        have h3 : f * o = o * f := Nat.mul_comm _ _
        omega
  refine ⟨⟨fun q => ?_, fun q => ?_⟩, fun q => key f s q⟩
  · show o * (f + s) < f * s
    have q' : o * (max o f + max o s) < max o f * max o s := q
    obtain ⟨g1, g2⟩ := key _ _ q'
    have e1 : max o f = f := by omega
    have e2 : max o s = s := by omega
    rw [e1, e2] at q'
    exact q'
  · obtain ⟨g1, g2⟩ := key f s q
    show o * (max o f + max o s) < max o f * max o s
    have e1 : max o f = f := by omega
    have e2 : max o s = s := by omega
    rw [e1, e2]
    exact q
theorem lsA_R {a c : Nat × Nat × Nat} (h : lsR a c) : lsA a = lsA c ∧ lsM a = lsM c := by
  obtain ⟨h1, h2⟩ := meets_R h
  unfold lsR at h
  by_cases q : c.1 * (c.2.1 + c.2.2) < c.2.1 * c.2.2
  · obtain ⟨g1, g2⟩ := h2 q
    have q' := h1.mpr q
    have e : a = c := by rw [h]; refine Prod.ext rfl (Prod.ext ?_ ?_); (show max c.1 c.2.1 = c.2.1; omega); (show max c.1 c.2.2 = c.2.2; omega)
    rw [e]; exact ⟨rfl, rfl⟩
  · have q' : ¬ a.1 * (a.2.1 + a.2.2) < a.2.1 * a.2.2 := fun z => q (h1.mp z)
    unfold lsA lsM
    rw [if_neg q, if_neg q', if_neg q, if_neg q', h]
    refine ⟨?_, rfl⟩
    show (if c.1 < max c.1 c.2.2 then (max c.1 c.2.2 - c.1, max c.1 c.2.2) else (0, 1)) = (if c.1 < c.2.2 then (c.2.2 - c.1, c.2.2) else (0, 1))
    by_cases z : c.1 < c.2.2
    · rw [if_pos z, if_pos (by omega), show max c.1 c.2.2 = c.2.2 by omega]
    · rw [if_neg z, if_neg (by omega)]
theorem lsS_99 {u v : Nat} {st : Nat × Nat × Nat} (hu : u ≤ 99) (hv : v ≤ 99) (hs : W99 st) : W99 (lsS u v st) := by
  obtain ⟨h1, h2, h3⟩ := hs
  refine ⟨?_, ?_, ?_⟩
  · show max st.1 (min u v) ≤ 99
    omega
  · show max st.2.1 u ≤ 99
    omega
  · show max st.2.2 v ≤ 99
    omega
def lsV (ga gb : Nat → Nat → Nat) (K j : Nat) : Nat := if j < 2 then fr (lsA (wgF ga gb K)).1 (lsA (wgF ga gb K)).2 j else fr (lsM (wgF ga gb K)).1 (lsM (wgF ga gb K)).2 (j - 2)
set_option maxRecDepth 100000 in
theorem c_X9_leastOf {G : Gm} {S : AS} {w wy : Nat → Nat} {lk nd : Nat} {N : List (List Nat)} {a b j : Nat} (hH : HVm S w wy lk nd) (hB : HB w wy lk nd) (hv : MNv S N) (hN : WFN N) (ha : a < N.length) (hb : b < N.length) (hj : j ≤ 3) :
    ∃ SE, Rm G M_X9_leastOf [.ref (gB G + 22), .int (nI a), .int (nI b), .int (nI j)] S (some (.long (lN (lsV (hh w wy lk nd (ni N a)) (hh w wy lk nd (ni N b)) (61 - nd) j)))) SE ∧ Ag PX S SE := by
  obtain ⟨n1, n2⟩ := hB.2.2.2
  have h8 := hN.1
  obtain ⟨S1, t1, t2, t3⟩ := c_X9_lays (G := G) hH hB hv hN ha hb
  have hn1 : S1.1 22 8 = nI nd := (t3.2 22 8 rfl).trans hH.2.2.2
  have hga := hh_le hB (ni N a)
  have hgb := hh_le hB (ni N b)
  have hR := lsF_R (hh_or w wy lk nd (ni N a)) (hh_or w wy lk nd (ni N b)) (61 - nd)
  unfold lsV
  generalize hh w wy lk nd (ni N a) = ga at hga t2 hR ⊢
  generalize hh w wy lk nd (ni N b) = gb at hgb t2 hR ⊢
  obtain ⟨e1, e2⟩ := lsA_R hR
  rw [← e1, ← e2]
  refine ⟨S1, ?_, PX_28 t3⟩
  have fin : ∀ (st : Nat × Nat × Nat), W99 st → ∀ (y7 y8 y9 y10 y11 : Option Value), U G M_X9_leastOf (Ze G (some (.long (lN (if j < 2 then fr (lsA st).1 (lsA st).2 j else fr (lsM st).1 (lsM st).2 (j - 2))))) S1) 146 [some (.ref (gB G + 22)), some (.int (nI a)), some (.int (nI b)), some (.int (nI j)), some (.int (nI st.1)), some (.int (nI st.2.1)), some (.int (nI st.2.2)), y7, y8, y9, y10, y11, none, none, none, none] [] S1 := by
    intro st hs y7 y8 y9 y10 y11
    obtain ⟨s1, s2, s3⟩ := hs
    have m1 : st.1 * (st.2.1 + st.2.2) ≤ 99 * 198 := Nat.mul_le_mul s1 (by omega)
    have m2 : st.2.1 * st.2.2 ≤ 99 * 99 := Nat.mul_le_mul s2 s3
    by_cases c1 : st.1 * (st.2.1 + st.2.2) < st.2.1 * st.2.2
    · have hp := ls_sum c1
      rw [show lsA st = (st.2.2, st.2.1 + st.2.2) by rw [lsA, if_pos c1], show lsM st = (st.2.1 * st.2.2, st.2.1 + st.2.2) by rw [lsM, if_pos c1]]
      by_cases c3 : j < 2
      · rw [if_pos c3]
        refine V_il4 d_X9_leastOf_146 ?_
        refine V_il5 d_X9_leastOf_148 ?_
        refine V_il6 d_X9_leastOf_150 ?_
        first | with_reducible refine V_iaddN d_X9_leastOf_152 ?_ | refine V_iadd d_X9_leastOf_152 ?_
        first | with_reducible refine V_imulN d_X9_leastOf_153 ?_ | refine V_imul d_X9_leastOf_153 ?_
        refine V_il5 d_X9_leastOf_154 ?_
        refine V_il6 d_X9_leastOf_156 ?_
        first | with_reducible refine V_imulN d_X9_leastOf_158 ?_ | refine V_imul d_X9_leastOf_158 ?_
        refine U_ic_geN d_X9_leastOf_159 (by omega) (by omega) (fun q => absurd q (by omega)) (fun h159 => ?_)
        refine V_ki d_X9_leastOf_162 ?_
        refine V_goto d_X9_leastOf_163 ?_
        refine V_is7 d_X9_leastOf_167 rfl ?_
        refine V_il7 d_X9_leastOf_169 ?_
        refine V_if_eq d_X9_leastOf_171 (fun q => absurd q (by decide)) (fun h171 => ?_)
        refine V_il5 d_X9_leastOf_174 ?_
        refine V_i2lN d_X9_leastOf_176 (by omega) ?_
        refine V_il6 d_X9_leastOf_177 ?_
        refine V_i2lN d_X9_leastOf_179 (by omega) ?_
        first | with_reducible refine V_lmulN d_X9_leastOf_180 ?_ | refine V_lmul d_X9_leastOf_180 ?_
        refine V_goto d_X9_leastOf_181 ?_
        refine V_ls8 d_X9_leastOf_187 rfl ?_
        refine V_il7 d_X9_leastOf_189 ?_
        refine V_if_eq d_X9_leastOf_191 (fun q => absurd q (by decide)) (fun h191 => ?_)
        refine V_il5 d_X9_leastOf_194 ?_
        refine V_il6 d_X9_leastOf_196 ?_
        first | with_reducible refine V_iaddN d_X9_leastOf_198 ?_ | refine V_iadd d_X9_leastOf_198 ?_
        refine V_i2lN d_X9_leastOf_199 (by omega) ?_
        refine V_goto d_X9_leastOf_200 ?_
        refine V_ls10 d_X9_leastOf_204 rfl ?_
        refine V_il7 d_X9_leastOf_206 ?_
        refine V_if_eq d_X9_leastOf_208 (fun q => absurd q (by decide)) (fun h208 => ?_)
        refine V_il6 d_X9_leastOf_211 ?_
        refine V_i2lN d_X9_leastOf_213 (by omega) ?_
        refine V_goto d_X9_leastOf_214 ?_
        refine V_ls12 d_X9_leastOf_234 rfl ?_
        refine V_il7 d_X9_leastOf_236 ?_
        refine V_if_eq d_X9_leastOf_238 (fun q => absurd q (by decide)) (fun h238 => ?_)
        refine V_il5 d_X9_leastOf_241 ?_
        refine V_il6 d_X9_leastOf_243 ?_
        first | with_reducible refine V_iaddN d_X9_leastOf_245 ?_ | refine V_iadd d_X9_leastOf_245 ?_
        refine V_i2lN d_X9_leastOf_246 (by omega) ?_
        refine V_goto d_X9_leastOf_247 ?_
        refine V_ls14 d_X9_leastOf_264 rfl ?_
        refine V_il3 d_X9_leastOf_266 ?_
        refine V_ki d_X9_leastOf_267 ?_
        refine U_ic_geN d_X9_leastOf_268 (by omega) (by omega) (fun q => absurd q (by omega)) (fun h268 => ?_)
        refine V_ll12 d_X9_leastOf_271 ?_
        refine V_ll14 d_X9_leastOf_273 ?_
        refine V_il3 d_X9_leastOf_275 ?_
        refine U_cs3 d_X9_leastOf_276 (c_X9_lowest (a := st.2.2) (b := st.2.1 + st.2.2) (by omega) (by omega) hp (by omega)) rfl ?_
        refine V_goto d_X9_leastOf_279 ?_
        exact V_lret d_X9_leastOf_292 rfl (by first | rfl | simp_all) rfl
      · rw [if_neg c3]
        refine V_il4 d_X9_leastOf_146 ?_
        refine V_il5 d_X9_leastOf_148 ?_
        refine V_il6 d_X9_leastOf_150 ?_
        first | with_reducible refine V_iaddN d_X9_leastOf_152 ?_ | refine V_iadd d_X9_leastOf_152 ?_
        first | with_reducible refine V_imulN d_X9_leastOf_153 ?_ | refine V_imul d_X9_leastOf_153 ?_
        refine V_il5 d_X9_leastOf_154 ?_
        refine V_il6 d_X9_leastOf_156 ?_
        first | with_reducible refine V_imulN d_X9_leastOf_158 ?_ | refine V_imul d_X9_leastOf_158 ?_
        refine U_ic_geN d_X9_leastOf_159 (by omega) (by omega) (fun q => absurd q (by omega)) (fun h159 => ?_)
        refine V_ki d_X9_leastOf_162 ?_
        refine V_goto d_X9_leastOf_163 ?_
        refine V_is7 d_X9_leastOf_167 rfl ?_
        refine V_il7 d_X9_leastOf_169 ?_
        refine V_if_eq d_X9_leastOf_171 (fun q => absurd q (by decide)) (fun h171 => ?_)
        refine V_il5 d_X9_leastOf_174 ?_
        refine V_i2lN d_X9_leastOf_176 (by omega) ?_
        refine V_il6 d_X9_leastOf_177 ?_
        refine V_i2lN d_X9_leastOf_179 (by omega) ?_
        first | with_reducible refine V_lmulN d_X9_leastOf_180 ?_ | refine V_lmul d_X9_leastOf_180 ?_
        refine V_goto d_X9_leastOf_181 ?_
        refine V_ls8 d_X9_leastOf_187 rfl ?_
        refine V_il7 d_X9_leastOf_189 ?_
        refine V_if_eq d_X9_leastOf_191 (fun q => absurd q (by decide)) (fun h191 => ?_)
        refine V_il5 d_X9_leastOf_194 ?_
        refine V_il6 d_X9_leastOf_196 ?_
        first | with_reducible refine V_iaddN d_X9_leastOf_198 ?_ | refine V_iadd d_X9_leastOf_198 ?_
        refine V_i2lN d_X9_leastOf_199 (by omega) ?_
        refine V_goto d_X9_leastOf_200 ?_
        refine V_ls10 d_X9_leastOf_204 rfl ?_
        refine V_il7 d_X9_leastOf_206 ?_
        refine V_if_eq d_X9_leastOf_208 (fun q => absurd q (by decide)) (fun h208 => ?_)
        refine V_il6 d_X9_leastOf_211 ?_
        refine V_i2lN d_X9_leastOf_213 (by omega) ?_
        refine V_goto d_X9_leastOf_214 ?_
        refine V_ls12 d_X9_leastOf_234 rfl ?_
        refine V_il7 d_X9_leastOf_236 ?_
        refine V_if_eq d_X9_leastOf_238 (fun q => absurd q (by decide)) (fun h238 => ?_)
        refine V_il5 d_X9_leastOf_241 ?_
        refine V_il6 d_X9_leastOf_243 ?_
        first | with_reducible refine V_iaddN d_X9_leastOf_245 ?_ | refine V_iadd d_X9_leastOf_245 ?_
        refine V_i2lN d_X9_leastOf_246 (by omega) ?_
        refine V_goto d_X9_leastOf_247 ?_
        refine V_ls14 d_X9_leastOf_264 rfl ?_
        refine V_il3 d_X9_leastOf_266 ?_
        refine V_ki d_X9_leastOf_267 ?_
        refine U_ic_geN d_X9_leastOf_268 (by omega) (by omega) (fun h268 => ?_) (fun q => absurd q (by omega))
        refine V_ll8 d_X9_leastOf_282 ?_
        refine V_ll10 d_X9_leastOf_284 ?_
        refine V_il3 d_X9_leastOf_286 ?_
        refine V_ki d_X9_leastOf_287 ?_
        refine V_isubN d_X9_leastOf_288 (by omega) ?_
        refine U_cs3 d_X9_leastOf_289 (c_X9_lowest (a := st.2.1 * st.2.2) (b := st.2.1 + st.2.2) (by omega) (by omega) hp (by omega)) rfl ?_
        exact V_lret d_X9_leastOf_292 rfl (by first | rfl | simp_all) rfl
    · by_cases c2 : st.1 < st.2.2
      · rw [show lsA st = (st.2.2 - st.1, st.2.2) by rw [lsA, if_neg c1, if_pos c2], show lsM st = (st.1, 1) by rw [lsM, if_neg c1]]
        by_cases c3 : j < 2
        · rw [if_pos c3]
          refine V_il4 d_X9_leastOf_146 ?_
          refine V_il5 d_X9_leastOf_148 ?_
          refine V_il6 d_X9_leastOf_150 ?_
          first | with_reducible refine V_iaddN d_X9_leastOf_152 ?_ | refine V_iadd d_X9_leastOf_152 ?_
          first | with_reducible refine V_imulN d_X9_leastOf_153 ?_ | refine V_imul d_X9_leastOf_153 ?_
          refine V_il5 d_X9_leastOf_154 ?_
          refine V_il6 d_X9_leastOf_156 ?_
          first | with_reducible refine V_imulN d_X9_leastOf_158 ?_ | refine V_imul d_X9_leastOf_158 ?_
          refine U_ic_geN d_X9_leastOf_159 (by omega) (by omega) (fun h159 => ?_) (fun q => absurd q (by omega))
          refine V_ki d_X9_leastOf_166 ?_
          refine V_is7 d_X9_leastOf_167 rfl ?_
          refine V_il7 d_X9_leastOf_169 ?_
          refine V_if_eq d_X9_leastOf_171 (fun h171 => ?_) (fun q => absurd rfl q)
          refine V_il4 d_X9_leastOf_184 ?_
          refine V_i2lN d_X9_leastOf_186 (by omega) ?_
          refine V_ls8 d_X9_leastOf_187 rfl ?_
          refine V_il7 d_X9_leastOf_189 ?_
          refine V_if_eq d_X9_leastOf_191 (fun h191 => ?_) (fun q => absurd rfl q)
          refine V_lconst (v := lN 1) d_X9_leastOf_203 rfl ?_
          refine V_ls10 d_X9_leastOf_204 rfl ?_
          refine V_il7 d_X9_leastOf_206 ?_
          refine V_if_eq d_X9_leastOf_208 (fun h208 => ?_) (fun q => absurd rfl q)
          refine V_il6 d_X9_leastOf_217 ?_
          refine V_il4 d_X9_leastOf_219 ?_
          refine U_ic_leN d_X9_leastOf_221 (by omega) (by omega) (fun q => absurd q (by omega)) (fun h221 => ?_)
          refine V_il6 d_X9_leastOf_224 ?_
          refine V_il4 d_X9_leastOf_226 ?_
          refine V_isubN d_X9_leastOf_228 (by omega) ?_
          refine V_i2lN d_X9_leastOf_229 (by omega) ?_
          refine V_goto d_X9_leastOf_230 ?_
          refine V_ls12 d_X9_leastOf_234 rfl ?_
          refine V_il7 d_X9_leastOf_236 ?_
          refine V_if_eq d_X9_leastOf_238 (fun h238 => ?_) (fun q => absurd rfl q)
          refine V_il6 d_X9_leastOf_250 ?_
          refine V_il4 d_X9_leastOf_252 ?_
          refine U_ic_leN d_X9_leastOf_254 (by omega) (by omega) (fun q => absurd q (by omega)) (fun h254 => ?_)
          refine V_il6 d_X9_leastOf_257 ?_
          refine V_i2lN d_X9_leastOf_259 (by omega) ?_
          refine V_goto d_X9_leastOf_260 ?_
          refine V_ls14 d_X9_leastOf_264 rfl ?_
          refine V_il3 d_X9_leastOf_266 ?_
          refine V_ki d_X9_leastOf_267 ?_
          refine U_ic_geN d_X9_leastOf_268 (by omega) (by omega) (fun q => absurd q (by omega)) (fun h268 => ?_)
          refine V_ll12 d_X9_leastOf_271 ?_
          refine V_ll14 d_X9_leastOf_273 ?_
          refine V_il3 d_X9_leastOf_275 ?_
          refine U_cs3 d_X9_leastOf_276 (c_X9_lowest (a := st.2.2 - st.1) (b := st.2.2) (by omega) (by omega) (by omega) (by omega)) rfl ?_
          refine V_goto d_X9_leastOf_279 ?_
          exact V_lret d_X9_leastOf_292 rfl (by first | rfl | simp_all) rfl
        · rw [if_neg c3]
          refine V_il4 d_X9_leastOf_146 ?_
          refine V_il5 d_X9_leastOf_148 ?_
          refine V_il6 d_X9_leastOf_150 ?_
          first | with_reducible refine V_iaddN d_X9_leastOf_152 ?_ | refine V_iadd d_X9_leastOf_152 ?_
          first | with_reducible refine V_imulN d_X9_leastOf_153 ?_ | refine V_imul d_X9_leastOf_153 ?_
          refine V_il5 d_X9_leastOf_154 ?_
          refine V_il6 d_X9_leastOf_156 ?_
          first | with_reducible refine V_imulN d_X9_leastOf_158 ?_ | refine V_imul d_X9_leastOf_158 ?_
          refine U_ic_geN d_X9_leastOf_159 (by omega) (by omega) (fun h159 => ?_) (fun q => absurd q (by omega))
          refine V_ki d_X9_leastOf_166 ?_
          refine V_is7 d_X9_leastOf_167 rfl ?_
          refine V_il7 d_X9_leastOf_169 ?_
          refine V_if_eq d_X9_leastOf_171 (fun h171 => ?_) (fun q => absurd rfl q)
          refine V_il4 d_X9_leastOf_184 ?_
          refine V_i2lN d_X9_leastOf_186 (by omega) ?_
          refine V_ls8 d_X9_leastOf_187 rfl ?_
          refine V_il7 d_X9_leastOf_189 ?_
          refine V_if_eq d_X9_leastOf_191 (fun h191 => ?_) (fun q => absurd rfl q)
          refine V_lconst (v := lN 1) d_X9_leastOf_203 rfl ?_
          refine V_ls10 d_X9_leastOf_204 rfl ?_
          refine V_il7 d_X9_leastOf_206 ?_
          refine V_if_eq d_X9_leastOf_208 (fun h208 => ?_) (fun q => absurd rfl q)
          refine V_il6 d_X9_leastOf_217 ?_
          refine V_il4 d_X9_leastOf_219 ?_
          refine U_ic_leN d_X9_leastOf_221 (by omega) (by omega) (fun q => absurd q (by omega)) (fun h221 => ?_)
          refine V_il6 d_X9_leastOf_224 ?_
          refine V_il4 d_X9_leastOf_226 ?_
          refine V_isubN d_X9_leastOf_228 (by omega) ?_
          refine V_i2lN d_X9_leastOf_229 (by omega) ?_
          refine V_goto d_X9_leastOf_230 ?_
          refine V_ls12 d_X9_leastOf_234 rfl ?_
          refine V_il7 d_X9_leastOf_236 ?_
          refine V_if_eq d_X9_leastOf_238 (fun h238 => ?_) (fun q => absurd rfl q)
          refine V_il6 d_X9_leastOf_250 ?_
          refine V_il4 d_X9_leastOf_252 ?_
          refine U_ic_leN d_X9_leastOf_254 (by omega) (by omega) (fun q => absurd q (by omega)) (fun h254 => ?_)
          refine V_il6 d_X9_leastOf_257 ?_
          refine V_i2lN d_X9_leastOf_259 (by omega) ?_
          refine V_goto d_X9_leastOf_260 ?_
          refine V_ls14 d_X9_leastOf_264 rfl ?_
          refine V_il3 d_X9_leastOf_266 ?_
          refine V_ki d_X9_leastOf_267 ?_
          refine U_ic_geN d_X9_leastOf_268 (by omega) (by omega) (fun h268 => ?_) (fun q => absurd q (by omega))
          refine V_ll8 d_X9_leastOf_282 ?_
          refine V_ll10 d_X9_leastOf_284 ?_
          refine V_il3 d_X9_leastOf_286 ?_
          refine V_ki d_X9_leastOf_287 ?_
          refine V_isubN d_X9_leastOf_288 (by omega) ?_
          refine U_cs3 d_X9_leastOf_289 (c_X9_lowest (a := st.1) (b := 1) (by omega) (by omega) (by omega) (by omega)) rfl ?_
          exact V_lret d_X9_leastOf_292 rfl (by first | rfl | simp_all) rfl
      · rw [show lsA st = (0, 1) by rw [lsA, if_neg c1, if_neg c2], show lsM st = (st.1, 1) by rw [lsM, if_neg c1]]
        by_cases c3 : j < 2
        · rw [if_pos c3]
          refine V_il4 d_X9_leastOf_146 ?_
          refine V_il5 d_X9_leastOf_148 ?_
          refine V_il6 d_X9_leastOf_150 ?_
          first | with_reducible refine V_iaddN d_X9_leastOf_152 ?_ | refine V_iadd d_X9_leastOf_152 ?_
          first | with_reducible refine V_imulN d_X9_leastOf_153 ?_ | refine V_imul d_X9_leastOf_153 ?_
          refine V_il5 d_X9_leastOf_154 ?_
          refine V_il6 d_X9_leastOf_156 ?_
          first | with_reducible refine V_imulN d_X9_leastOf_158 ?_ | refine V_imul d_X9_leastOf_158 ?_
          refine U_ic_geN d_X9_leastOf_159 (by omega) (by omega) (fun h159 => ?_) (fun q => absurd q (by omega))
          refine V_ki d_X9_leastOf_166 ?_
          refine V_is7 d_X9_leastOf_167 rfl ?_
          refine V_il7 d_X9_leastOf_169 ?_
          refine V_if_eq d_X9_leastOf_171 (fun h171 => ?_) (fun q => absurd rfl q)
          refine V_il4 d_X9_leastOf_184 ?_
          refine V_i2lN d_X9_leastOf_186 (by omega) ?_
          refine V_ls8 d_X9_leastOf_187 rfl ?_
          refine V_il7 d_X9_leastOf_189 ?_
          refine V_if_eq d_X9_leastOf_191 (fun h191 => ?_) (fun q => absurd rfl q)
          refine V_lconst (v := lN 1) d_X9_leastOf_203 rfl ?_
          refine V_ls10 d_X9_leastOf_204 rfl ?_
          refine V_il7 d_X9_leastOf_206 ?_
          refine V_if_eq d_X9_leastOf_208 (fun h208 => ?_) (fun q => absurd rfl q)
          refine V_il6 d_X9_leastOf_217 ?_
          refine V_il4 d_X9_leastOf_219 ?_
          refine U_ic_leN d_X9_leastOf_221 (by omega) (by omega) (fun h221 => ?_) (fun q => absurd q (by omega))
          refine V_lconst (v := lN 0) d_X9_leastOf_233 rfl ?_
          refine V_ls12 d_X9_leastOf_234 rfl ?_
          refine V_il7 d_X9_leastOf_236 ?_
          refine V_if_eq d_X9_leastOf_238 (fun h238 => ?_) (fun q => absurd rfl q)
          refine V_il6 d_X9_leastOf_250 ?_
          refine V_il4 d_X9_leastOf_252 ?_
          refine U_ic_leN d_X9_leastOf_254 (by omega) (by omega) (fun h254 => ?_) (fun q => absurd q (by omega))
          refine V_lconst (v := lN 1) d_X9_leastOf_263 rfl ?_
          refine V_ls14 d_X9_leastOf_264 rfl ?_
          refine V_il3 d_X9_leastOf_266 ?_
          refine V_ki d_X9_leastOf_267 ?_
          refine U_ic_geN d_X9_leastOf_268 (by omega) (by omega) (fun q => absurd q (by omega)) (fun h268 => ?_)
          refine V_ll12 d_X9_leastOf_271 ?_
          refine V_ll14 d_X9_leastOf_273 ?_
          refine V_il3 d_X9_leastOf_275 ?_
          refine U_cs3 d_X9_leastOf_276 (c_X9_lowest (a := 0) (b := 1) (by omega) (by omega) (by omega) (by omega)) rfl ?_
          refine V_goto d_X9_leastOf_279 ?_
          exact V_lret d_X9_leastOf_292 rfl (by first | rfl | simp_all) rfl
        · rw [if_neg c3]
          refine V_il4 d_X9_leastOf_146 ?_
          refine V_il5 d_X9_leastOf_148 ?_
          refine V_il6 d_X9_leastOf_150 ?_
          first | with_reducible refine V_iaddN d_X9_leastOf_152 ?_ | refine V_iadd d_X9_leastOf_152 ?_
          first | with_reducible refine V_imulN d_X9_leastOf_153 ?_ | refine V_imul d_X9_leastOf_153 ?_
          refine V_il5 d_X9_leastOf_154 ?_
          refine V_il6 d_X9_leastOf_156 ?_
          first | with_reducible refine V_imulN d_X9_leastOf_158 ?_ | refine V_imul d_X9_leastOf_158 ?_
          refine U_ic_geN d_X9_leastOf_159 (by omega) (by omega) (fun h159 => ?_) (fun q => absurd q (by omega))
          refine V_ki d_X9_leastOf_166 ?_
          refine V_is7 d_X9_leastOf_167 rfl ?_
          refine V_il7 d_X9_leastOf_169 ?_
          refine V_if_eq d_X9_leastOf_171 (fun h171 => ?_) (fun q => absurd rfl q)
          refine V_il4 d_X9_leastOf_184 ?_
          refine V_i2lN d_X9_leastOf_186 (by omega) ?_
          refine V_ls8 d_X9_leastOf_187 rfl ?_
          refine V_il7 d_X9_leastOf_189 ?_
          refine V_if_eq d_X9_leastOf_191 (fun h191 => ?_) (fun q => absurd rfl q)
          refine V_lconst (v := lN 1) d_X9_leastOf_203 rfl ?_
          refine V_ls10 d_X9_leastOf_204 rfl ?_
          refine V_il7 d_X9_leastOf_206 ?_
          refine V_if_eq d_X9_leastOf_208 (fun h208 => ?_) (fun q => absurd rfl q)
          refine V_il6 d_X9_leastOf_217 ?_
          refine V_il4 d_X9_leastOf_219 ?_
          refine U_ic_leN d_X9_leastOf_221 (by omega) (by omega) (fun h221 => ?_) (fun q => absurd q (by omega))
          refine V_lconst (v := lN 0) d_X9_leastOf_233 rfl ?_
          refine V_ls12 d_X9_leastOf_234 rfl ?_
          refine V_il7 d_X9_leastOf_236 ?_
          refine V_if_eq d_X9_leastOf_238 (fun h238 => ?_) (fun q => absurd rfl q)
          refine V_il6 d_X9_leastOf_250 ?_
          refine V_il4 d_X9_leastOf_252 ?_
          refine U_ic_leN d_X9_leastOf_254 (by omega) (by omega) (fun h254 => ?_) (fun q => absurd q (by omega))
          refine V_lconst (v := lN 1) d_X9_leastOf_263 rfl ?_
          refine V_ls14 d_X9_leastOf_264 rfl ?_
          refine V_il3 d_X9_leastOf_266 ?_
          refine V_ki d_X9_leastOf_267 ?_
          refine U_ic_geN d_X9_leastOf_268 (by omega) (by omega) (fun h268 => ?_) (fun q => absurd q (by omega))
          refine V_ll8 d_X9_leastOf_282 ?_
          refine V_ll10 d_X9_leastOf_284 ?_
          refine V_il3 d_X9_leastOf_286 ?_
          refine V_ki d_X9_leastOf_287 ?_
          refine V_isubN d_X9_leastOf_288 (by omega) ?_
          refine U_cs3 d_X9_leastOf_289 (c_X9_lowest (a := st.1) (b := 1) (by omega) (by omega) (by omega) (by omega)) rfl ?_
          exact V_lret d_X9_leastOf_292 rfl (by first | rfl | simp_all) rfl
  have inner : ∀ (r : Int64) (x : Nat), x < 6 → ∀ (d m : Nat) (st : Nat × Nat × Nat) (y9 y10 y11 : Option Value), m + d = 61 - nd → W99 st →
      (W99 (lp (fun m st => lsS (ga x m) (gb x m) st) d m st) → ∀ y9 y10 y11 : Option Value, U G M_X9_leastOf (Ze G (some (.long r)) S1) 140 [some (.ref (gB G + 22)), some (.int (nI a)), some (.int (nI b)), some (.int (nI j)), some (.int (nI (lp (fun m st => lsS (ga x m) (gb x m) st) d m st).1)), some (.int (nI (lp (fun m st => lsS (ga x m) (gb x m) st) d m st).2.1)), some (.int (nI (lp (fun m st => lsS (ga x m) (gb x m) st) d m st).2.2)), some (.int (nI x)), some (.int (nI (61 - nd))), y9, y10, y11, none, none, none, none] [] S1) →
      U G M_X9_leastOf (Ze G (some (.long r)) S1) 28 [some (.ref (gB G + 22)), some (.int (nI a)), some (.int (nI b)), some (.int (nI j)), some (.int (nI st.1)), some (.int (nI st.2.1)), some (.int (nI st.2.2)), some (.int (nI x)), some (.int (nI m)), y9, y10, y11, none, none, none, none] [] S1 := by
    intro r x hx d
    induction d with
    | zero =>
      intro m st y9 y10 y11 hm hs kz
      rw [Nat.add_zero] at hm
      subst hm
      refine V_il8 d_X9_leastOf_28 ?_
      refine V_ki d_X9_leastOf_30 ?_
      refine V_al0 d_X9_leastOf_32 ?_
      refine V_getIe d_X9_leastOf_33 rfl rfl (by decide) (hn1) ?_
      refine V_isubN d_X9_leastOf_36 (by omega) ?_
      refine U_ic_gtN d_X9_leastOf_37 (by omega) (by omega) (fun h37 => ?_) (fun q => absurd q (by omega))
      exact kz hs _ _ _
    | succ d ih =>
      intro m st y9 y10 y11 hm hs kz
      have l1 := (t2 x m (by omega) (by omega)).1
      have l2 := (t2 x m (by omega) (by omega)).2
      have u9 := hga x m
      have v9 := hgb x m
      obtain ⟨s1, s2, s3⟩ := hs
      have r5 : ∀ p q r', p = max st.1 (min (ga x m) (gb x m)) → q = max st.2.1 (ga x m) → r' = max st.2.2 (gb x m) → ∀ y9 y10 y11 : Option Value, U G M_X9_leastOf (Ze G (some (.long r)) S1) 28 [some (.ref (gB G + 22)), some (.int (nI a)), some (.int (nI b)), some (.int (nI j)), some (.int (nI p)), some (.int (nI q)), some (.int (nI r')), some (.int (nI x)), some (.int (nI (m + 1))), y9, y10, y11, none, none, none, none] [] S1 := by
        intro p q r' hp hq hr y9 y10 y11
        subst hp; subst hq; subst hr
        exact ih (m + 1) (lsS (ga x m) (gb x m) st) y9 y10 y11 (by omega) (lsS_99 u9 v9 ⟨s1, s2, s3⟩) kz
      refine V_il8 d_X9_leastOf_28 ?_
      refine V_ki d_X9_leastOf_30 ?_
      refine V_al0 d_X9_leastOf_32 ?_
      refine V_getIe d_X9_leastOf_33 rfl rfl (by decide) (hn1) ?_
      refine V_isubN d_X9_leastOf_36 (by omega) ?_
      refine U_ic_gtN d_X9_leastOf_37 (by omega) (by omega) (fun q => absurd q (by omega)) (fun h37 => ?_)
      refine V_al0 d_X9_leastOf_40 ?_
      refine V_getR d_X9_leastOf_41 rfl rfl (by decide) rfl ?_
      refine V_ki d_X9_leastOf_44 ?_
      refine V_il7 d_X9_leastOf_46 ?_
      first | with_reducible refine V_imulN d_X9_leastOf_48 ?_ | refine V_imul d_X9_leastOf_48 ?_
      refine V_il8 d_X9_leastOf_49 ?_
      first | with_reducible refine V_iaddN d_X9_leastOf_51 ?_ | refine V_iadd d_X9_leastOf_51 ?_
      refine V_ialdE d_X9_leastOf_52 rfl (by decide) rfl (show 60 * x + m < 360 by omega) l1 ?_
      refine V_is9 d_X9_leastOf_53 rfl ?_
      refine V_al0 d_X9_leastOf_55 ?_
      refine V_getR d_X9_leastOf_56 rfl rfl (by decide) rfl ?_
      refine V_ki d_X9_leastOf_59 ?_
      refine V_il7 d_X9_leastOf_61 ?_
      first | with_reducible refine V_imulN d_X9_leastOf_63 ?_ | refine V_imul d_X9_leastOf_63 ?_
      refine V_il8 d_X9_leastOf_64 ?_
      first | with_reducible refine V_iaddN d_X9_leastOf_66 ?_ | refine V_iadd d_X9_leastOf_66 ?_
      refine V_ialdE d_X9_leastOf_67 rfl (by decide) rfl (show 60 * x + m < 360 by omega) l2 ?_
      refine V_is10 d_X9_leastOf_68 rfl ?_
      refine V_il9 d_X9_leastOf_70 ?_
      refine V_il10 d_X9_leastOf_72 ?_
      refine U_ic_geN d_X9_leastOf_74 (by omega) (by omega) (fun h74 => ?_) (fun h74 => ?_)
      · refine V_il10 d_X9_leastOf_82 ?_
        refine V_is11 d_X9_leastOf_84 rfl ?_
        refine V_il11 d_X9_leastOf_86 ?_
        refine V_il4 d_X9_leastOf_88 ?_
        refine U_ic_leN d_X9_leastOf_90 (by omega) (by omega) (fun h90 => ?_) (fun h90 => ?_)
        · refine V_il4 d_X9_leastOf_98 ?_
          refine V_is4 d_X9_leastOf_100 rfl ?_
          refine V_il9 d_X9_leastOf_102 ?_
          refine V_il5 d_X9_leastOf_104 ?_
          refine U_ic_leN d_X9_leastOf_106 (by omega) (by omega) (fun h106 => ?_) (fun h106 => ?_)
          · refine V_il5 d_X9_leastOf_114 ?_
            refine V_is5 d_X9_leastOf_116 rfl ?_
            refine V_il10 d_X9_leastOf_118 ?_
            refine V_il6 d_X9_leastOf_120 ?_
            refine U_ic_leN d_X9_leastOf_122 (by omega) (by omega) (fun h122 => ?_) (fun h122 => ?_)
            · refine V_il6 d_X9_leastOf_130 ?_
              refine V_is6 d_X9_leastOf_132 rfl ?_
              refine V_icN8 d_X9_leastOf_134 rfl ?_
              refine V_goto d_X9_leastOf_137 ?_
              exact r5 _ _ _ (by omega) (by omega) (by omega) _ _ _
            · refine V_il10 d_X9_leastOf_125 ?_
              refine V_goto d_X9_leastOf_127 ?_
              refine V_is6 d_X9_leastOf_132 rfl ?_
              refine V_icN8 d_X9_leastOf_134 rfl ?_
              refine V_goto d_X9_leastOf_137 ?_
              exact r5 _ _ _ (by omega) (by omega) (by omega) _ _ _
          · refine V_il9 d_X9_leastOf_109 ?_
            refine V_goto d_X9_leastOf_111 ?_
            refine V_is5 d_X9_leastOf_116 rfl ?_
            refine V_il10 d_X9_leastOf_118 ?_
            refine V_il6 d_X9_leastOf_120 ?_
            refine U_ic_leN d_X9_leastOf_122 (by omega) (by omega) (fun h122 => ?_) (fun h122 => ?_)
            · refine V_il6 d_X9_leastOf_130 ?_
              refine V_is6 d_X9_leastOf_132 rfl ?_
              refine V_icN8 d_X9_leastOf_134 rfl ?_
              refine V_goto d_X9_leastOf_137 ?_
              exact r5 _ _ _ (by omega) (by omega) (by omega) _ _ _
            · refine V_il10 d_X9_leastOf_125 ?_
              refine V_goto d_X9_leastOf_127 ?_
              refine V_is6 d_X9_leastOf_132 rfl ?_
              refine V_icN8 d_X9_leastOf_134 rfl ?_
              refine V_goto d_X9_leastOf_137 ?_
              exact r5 _ _ _ (by omega) (by omega) (by omega) _ _ _
        · refine V_il11 d_X9_leastOf_93 ?_
          refine V_goto d_X9_leastOf_95 ?_
          refine V_is4 d_X9_leastOf_100 rfl ?_
          refine V_il9 d_X9_leastOf_102 ?_
          refine V_il5 d_X9_leastOf_104 ?_
          refine U_ic_leN d_X9_leastOf_106 (by omega) (by omega) (fun h106 => ?_) (fun h106 => ?_)
          · refine V_il5 d_X9_leastOf_114 ?_
            refine V_is5 d_X9_leastOf_116 rfl ?_
            refine V_il10 d_X9_leastOf_118 ?_
            refine V_il6 d_X9_leastOf_120 ?_
            refine U_ic_leN d_X9_leastOf_122 (by omega) (by omega) (fun h122 => ?_) (fun h122 => ?_)
            · refine V_il6 d_X9_leastOf_130 ?_
              refine V_is6 d_X9_leastOf_132 rfl ?_
              refine V_icN8 d_X9_leastOf_134 rfl ?_
              refine V_goto d_X9_leastOf_137 ?_
              exact r5 _ _ _ (by omega) (by omega) (by omega) _ _ _
            · refine V_il10 d_X9_leastOf_125 ?_
              refine V_goto d_X9_leastOf_127 ?_
              refine V_is6 d_X9_leastOf_132 rfl ?_
              refine V_icN8 d_X9_leastOf_134 rfl ?_
              refine V_goto d_X9_leastOf_137 ?_
              exact r5 _ _ _ (by omega) (by omega) (by omega) _ _ _
          · refine V_il9 d_X9_leastOf_109 ?_
            refine V_goto d_X9_leastOf_111 ?_
            refine V_is5 d_X9_leastOf_116 rfl ?_
            refine V_il10 d_X9_leastOf_118 ?_
            refine V_il6 d_X9_leastOf_120 ?_
            refine U_ic_leN d_X9_leastOf_122 (by omega) (by omega) (fun h122 => ?_) (fun h122 => ?_)
            · refine V_il6 d_X9_leastOf_130 ?_
              refine V_is6 d_X9_leastOf_132 rfl ?_
              refine V_icN8 d_X9_leastOf_134 rfl ?_
              refine V_goto d_X9_leastOf_137 ?_
              exact r5 _ _ _ (by omega) (by omega) (by omega) _ _ _
            · refine V_il10 d_X9_leastOf_125 ?_
              refine V_goto d_X9_leastOf_127 ?_
              refine V_is6 d_X9_leastOf_132 rfl ?_
              refine V_icN8 d_X9_leastOf_134 rfl ?_
              refine V_goto d_X9_leastOf_137 ?_
              exact r5 _ _ _ (by omega) (by omega) (by omega) _ _ _
      · refine V_il9 d_X9_leastOf_77 ?_
        refine V_goto d_X9_leastOf_79 ?_
        refine V_is11 d_X9_leastOf_84 rfl ?_
        refine V_il11 d_X9_leastOf_86 ?_
        refine V_il4 d_X9_leastOf_88 ?_
        refine U_ic_leN d_X9_leastOf_90 (by omega) (by omega) (fun h90 => ?_) (fun h90 => ?_)
        · refine V_il4 d_X9_leastOf_98 ?_
          refine V_is4 d_X9_leastOf_100 rfl ?_
          refine V_il9 d_X9_leastOf_102 ?_
          refine V_il5 d_X9_leastOf_104 ?_
          refine U_ic_leN d_X9_leastOf_106 (by omega) (by omega) (fun h106 => ?_) (fun h106 => ?_)
          · refine V_il5 d_X9_leastOf_114 ?_
            refine V_is5 d_X9_leastOf_116 rfl ?_
            refine V_il10 d_X9_leastOf_118 ?_
            refine V_il6 d_X9_leastOf_120 ?_
            refine U_ic_leN d_X9_leastOf_122 (by omega) (by omega) (fun h122 => ?_) (fun h122 => ?_)
            · refine V_il6 d_X9_leastOf_130 ?_
              refine V_is6 d_X9_leastOf_132 rfl ?_
              refine V_icN8 d_X9_leastOf_134 rfl ?_
              refine V_goto d_X9_leastOf_137 ?_
              exact r5 _ _ _ (by omega) (by omega) (by omega) _ _ _
            · refine V_il10 d_X9_leastOf_125 ?_
              refine V_goto d_X9_leastOf_127 ?_
              refine V_is6 d_X9_leastOf_132 rfl ?_
              refine V_icN8 d_X9_leastOf_134 rfl ?_
              refine V_goto d_X9_leastOf_137 ?_
              exact r5 _ _ _ (by omega) (by omega) (by omega) _ _ _
          · refine V_il9 d_X9_leastOf_109 ?_
            refine V_goto d_X9_leastOf_111 ?_
            refine V_is5 d_X9_leastOf_116 rfl ?_
            refine V_il10 d_X9_leastOf_118 ?_
            refine V_il6 d_X9_leastOf_120 ?_
            refine U_ic_leN d_X9_leastOf_122 (by omega) (by omega) (fun h122 => ?_) (fun h122 => ?_)
            · refine V_il6 d_X9_leastOf_130 ?_
              refine V_is6 d_X9_leastOf_132 rfl ?_
              refine V_icN8 d_X9_leastOf_134 rfl ?_
              refine V_goto d_X9_leastOf_137 ?_
              exact r5 _ _ _ (by omega) (by omega) (by omega) _ _ _
            · refine V_il10 d_X9_leastOf_125 ?_
              refine V_goto d_X9_leastOf_127 ?_
              refine V_is6 d_X9_leastOf_132 rfl ?_
              refine V_icN8 d_X9_leastOf_134 rfl ?_
              refine V_goto d_X9_leastOf_137 ?_
              exact r5 _ _ _ (by omega) (by omega) (by omega) _ _ _
        · refine V_il11 d_X9_leastOf_93 ?_
          refine V_goto d_X9_leastOf_95 ?_
          refine V_is4 d_X9_leastOf_100 rfl ?_
          refine V_il9 d_X9_leastOf_102 ?_
          refine V_il5 d_X9_leastOf_104 ?_
          refine U_ic_leN d_X9_leastOf_106 (by omega) (by omega) (fun h106 => ?_) (fun h106 => ?_)
          · refine V_il5 d_X9_leastOf_114 ?_
            refine V_is5 d_X9_leastOf_116 rfl ?_
            refine V_il10 d_X9_leastOf_118 ?_
            refine V_il6 d_X9_leastOf_120 ?_
            refine U_ic_leN d_X9_leastOf_122 (by omega) (by omega) (fun h122 => ?_) (fun h122 => ?_)
            · refine V_il6 d_X9_leastOf_130 ?_
              refine V_is6 d_X9_leastOf_132 rfl ?_
              refine V_icN8 d_X9_leastOf_134 rfl ?_
              refine V_goto d_X9_leastOf_137 ?_
              exact r5 _ _ _ (by omega) (by omega) (by omega) _ _ _
            · refine V_il10 d_X9_leastOf_125 ?_
              refine V_goto d_X9_leastOf_127 ?_
              refine V_is6 d_X9_leastOf_132 rfl ?_
              refine V_icN8 d_X9_leastOf_134 rfl ?_
              refine V_goto d_X9_leastOf_137 ?_
              exact r5 _ _ _ (by omega) (by omega) (by omega) _ _ _
          · refine V_il9 d_X9_leastOf_109 ?_
            refine V_goto d_X9_leastOf_111 ?_
            refine V_is5 d_X9_leastOf_116 rfl ?_
            refine V_il10 d_X9_leastOf_118 ?_
            refine V_il6 d_X9_leastOf_120 ?_
            refine U_ic_leN d_X9_leastOf_122 (by omega) (by omega) (fun h122 => ?_) (fun h122 => ?_)
            · refine V_il6 d_X9_leastOf_130 ?_
              refine V_is6 d_X9_leastOf_132 rfl ?_
              refine V_icN8 d_X9_leastOf_134 rfl ?_
              refine V_goto d_X9_leastOf_137 ?_
              exact r5 _ _ _ (by omega) (by omega) (by omega) _ _ _
            · refine V_il10 d_X9_leastOf_125 ?_
              refine V_goto d_X9_leastOf_127 ?_
              refine V_is6 d_X9_leastOf_132 rfl ?_
              refine V_icN8 d_X9_leastOf_134 rfl ?_
              refine V_goto d_X9_leastOf_137 ?_
              exact r5 _ _ _ (by omega) (by omega) (by omega) _ _ _
  have outer : ∀ (d x : Nat) (st : Nat × Nat × Nat) (y8 y9 y10 y11 : Option Value), x + d = 6 → W99 st → U G M_X9_leastOf (Ze G (some (.long (lN (if j < 2 then fr (lsA (lp (fun x st => lsI ga gb (61 - nd) x st) d x st)).1 (lsA (lp (fun x st => lsI ga gb (61 - nd) x st) d x st)).2 j else fr (lsM (lp (fun x st => lsI ga gb (61 - nd) x st) d x st)).1 (lsM (lp (fun x st => lsI ga gb (61 - nd) x st) d x st)).2 (j - 2))))) S1) 18 [some (.ref (gB G + 22)), some (.int (nI a)), some (.int (nI b)), some (.int (nI j)), some (.int (nI st.1)), some (.int (nI st.2.1)), some (.int (nI st.2.2)), some (.int (nI x)), y8, y9, y10, y11, none, none, none, none] [] S1 := by
    intro d
    induction d with
    | zero =>
      intro x st y8 y9 y10 y11 hx hs
      rw [Nat.add_zero] at hx
      subst hx
      refine V_il7 d_X9_leastOf_18 ?_
      refine V_ki d_X9_leastOf_20 ?_
      refine U_ic_geN d_X9_leastOf_22 (by omega) (by omega) (fun h22 => ?_) (fun q => absurd q (by omega))
      exact fin st hs _ _ _ _ _
    | succ d ih =>
      intro x st y8 y9 y10 y11 hx hs
      refine V_il7 d_X9_leastOf_18 ?_
      refine V_ki d_X9_leastOf_20 ?_
      refine U_ic_geN d_X9_leastOf_22 (by omega) (by omega) (fun q => absurd q (by omega)) (fun h22 => ?_)
      refine V_ki d_X9_leastOf_25 ?_
      refine V_is8 d_X9_leastOf_26 rfl ?_
      refine inner _ x (by omega) (61 - nd) 0 st _ _ _ (by omega) hs (fun hs' y9 y10 y11 => ?_)
      refine V_icN7 d_X9_leastOf_140 rfl ?_
      refine V_goto d_X9_leastOf_143 ?_
      exact ih (x + 1) (lsI ga gb (61 - nd) x st) _ _ _ _ (by omega) hs'
  refine Rn_of hp_X9_leastOf [some (.ref (gB G + 22)), some (.int (nI a)), some (.int (nI b)), some (.int (nI j)), none, none, none, none, none, none, none, none, none, none, none, none] rfl (Nat.le_of_ble_eq_true rfl) (Nat.le_of_ble_eq_true rfl) ?_
  refine V_al0 d_X9_leastOf_0 ?_
  refine V_il1 d_X9_leastOf_1 ?_
  refine V_il2 d_X9_leastOf_2 ?_
  refine U_cv2v d_X9_leastOf_3 (t1) rfl rfl rfl ?_
  refine V_ki d_X9_leastOf_6 ?_
  refine V_is4 d_X9_leastOf_7 rfl ?_
  refine V_ki d_X9_leastOf_9 ?_
  refine V_is5 d_X9_leastOf_10 rfl ?_
  refine V_ki d_X9_leastOf_12 ?_
  refine V_is6 d_X9_leastOf_13 rfl ?_
  refine V_ki d_X9_leastOf_15 ?_
  refine V_is7 d_X9_leastOf_16 rfl ?_
  exact outer 6 0 (0, 0, 0) none none none none rfl ⟨Nat.zero_le _, Nat.zero_le _, Nat.zero_le _⟩
set_option maxRecDepth 100000 in
theorem c_X9_learnOf {G : Gm} {S : AS} {w wy : Nat → Nat} {lk nd : Nat} {N : List (List Nat)} {a b n j : Nat} (hH : HVm S w wy lk nd) (hB : HB w wy lk nd) (hv : MNv S N) (hN : WFN N) (ha : a < N.length) (hb : b < N.length) (hn : n ≤ 99) (hj : j ≤ 1) :
    ∃ SE, Rm G M_X9_learnOf [.ref (gB G + 22), .int (nI a), .int (nI b), .int (nI n), .int (nI j)] S (some (.int (nI (if j = 0 then (lnF (hh w wy lk nd (ni N a)) (hh w wy lk nd (ni N b)) (61 - nd) n).1 else (lnF (hh w wy lk nd (ni N a)) (hh w wy lk nd (ni N b)) (61 - nd) n).2.1)))) SE ∧ Ag PX S SE := by
  obtain ⟨n1, n2⟩ := hB.2.2.2
  have h8 := hN.1
  obtain ⟨S0, t1, t2, t3⟩ := c_X9_lays (G := G) hH hB hv hN ha hb
  have hn0 : S0.1 22 8 = nI nd := (t3.2 22 8 rfl).trans hH.2.2.2
  have hga := hh_le hB (ni N a)
  have hgb := hh_le hB (ni N b)
  unfold lnF
  generalize hh w wy lk nd (ni N a) = ga at hga t2 ⊢
  generalize hh w wy lk nd (ni N b) = gb at hgb t2 ⊢
  have loop : ∀ (d k : Nat) (st : Nat × Nat × Nat × Nat) (S1 : AS) (y10 y11 : Option Value), k + d = n → st.1 ≤ k → st.2.1 ≤ 99 * k → st.2.2.1 ≤ 99 * k → st.2.2.2 ≤ 99 * k → Ag P22b S0 S1 →
      ∃ S2, Ag P22b S0 S2 ∧ U G M_X9_learnOf (Ze G (some (.int (nI (if j = 0 then (lp (fun k st => lnS ga gb (61 - nd) k st) d k st).1 else (lp (fun k st => lnS ga gb (61 - nd) k st) d k st).2.1)))) S2) 21 [some (.ref (gB G + 22)), some (.int (nI a)), some (.int (nI b)), some (.int (nI n)), some (.int (nI j)), some (.int (nI st.1)), some (.int (nI st.2.2.1)), some (.int (nI st.2.2.2)), some (.int (nI st.2.1)), some (.int (nI k)), y10, y11] [] S1 := by
    intro d
    induction d with
    | zero =>
      intro k st S1 y10 y11 hk b1 b2 b3 b4 hA
      rw [Nat.add_zero] at hk
      subst hk
      refine ⟨S1, hA, ?_⟩
      refine V_il9 d_X9_learnOf_21 ?_
      refine V_il3 d_X9_learnOf_23 ?_
      refine U_ic_geN d_X9_learnOf_24 (by omega) (by omega) (fun h24 => ?_) (fun q => absurd q (by omega))
      refine V_il4 d_X9_learnOf_136 ?_
      refine U_if_neN d_X9_learnOf_138 (by omega) (fun h138 => ?_) (fun h138 => ?_)
      · refine V_il8 d_X9_learnOf_146 ?_
        exact V_iret d_X9_learnOf_148 rfl (by first | (rw [if_pos h138]; rfl) | (rw [if_neg h138]; rfl)) rfl
      · refine V_il5 d_X9_learnOf_141 ?_
        refine V_goto d_X9_learnOf_143 ?_
        exact V_iret d_X9_learnOf_148 rfl (by first | (rw [if_pos h138]; rfl) | (rw [if_neg h138]; rfl)) rfl
    | succ d ih =>
      intro k st S1 y10 y11 hk b1 b2 b3 b4 hA
      have hn1 : S1.1 22 8 = nI nd := (hA.2 22 8 rfl).trans hn0
      have tL1 := t2.ag hA (fun _ => rfl) (fun _ => rfl)
      obtain ⟨S2, q1, q2, q3⟩ := c_X9_most (G := G) (pa := st.1) (pb := k - st.1) (m0 := 0) (lamp := 6) (lI := -1) (g := fun x m => st.1 * ga x m + (k - st.1) * gb x m) tL1 hn1 n1 n2 hga hgb (fun _ _ => rfl) (by omega) (by omega) (by omega) nI_l6
      have hpos := best_pos (g := fun x m => st.1 * ga x m + (k - st.1) * gb x m) (k := 61 - nd - 0) (m0 := 0) (lamp := 6) (by omega)
      have hin := best_in (g := fun x m => st.1 * ga x m + (k - st.1) * gb x m) (k := 61 - nd - 0) (m0 := 0) (lamp := 6) (M := 61 - nd) (by omega) (by omega) (by omega)
      have tL2 := tL1.ag q3 (fun _ => rfl) (fun _ => rfl)
      have hl : lnS ga gb (61 - nd) k st = (st.1 + (if st.2.2.1 ≤ st.2.2.2 then 1 else 0), st.2.1 + (if st.2.2.1 ≤ st.2.2.2 then ga ((best (fun x m => st.1 * ga x m + (k - st.1) * gb x m) (61 - nd - 0) 0 6).1 / 60) ((best (fun x m => st.1 * ga x m + (k - st.1) * gb x m) (61 - nd - 0) 0 6).1 % 60) else gb ((best (fun x m => st.1 * ga x m + (k - st.1) * gb x m) (61 - nd - 0) 0 6).1 / 60) ((best (fun x m => st.1 * ga x m + (k - st.1) * gb x m) (61 - nd - 0) 0 6).1 % 60)), st.2.2.1 + ga ((best (fun x m => st.1 * ga x m + (k - st.1) * gb x m) (61 - nd - 0) 0 6).1 / 60) ((best (fun x m => st.1 * ga x m + (k - st.1) * gb x m) (61 - nd - 0) 0 6).1 % 60), st.2.2.2 + gb ((best (fun x m => st.1 * ga x m + (k - st.1) * gb x m) (61 - nd - 0) 0 6).1 / 60) ((best (fun x m => st.1 * ga x m + (k - st.1) * gb x m) (61 - nd - 0) 0 6).1 % 60)) := rfl
      rw [lp, hl]
      clear hl
      generalize best (fun x m => st.1 * ga x m + (k - st.1) * gb x m) (61 - nd - 0) 0 6 = B at hpos hin q1 q2 ⊢
      obtain ⟨i1, i2⟩ : B.1 / 60 < 6 ∧ B.1 % 60 < 61 - nd := by
        rcases hin with q | q
        · rw [q] at hpos; exact absurd hpos (Nat.lt_irrefl 0)
        · exact q
      have ll := tL2 (B.1 / 60) (B.1 % 60) i2 (by omega)
      rw [show 60 * (B.1 / 60) + B.1 % 60 = B.1 by omega] at ll
      obtain ⟨l1, l2⟩ := ll
      have hB3 : B.1 < 360 := by omega
      have ua := hga (B.1 / 60) (B.1 % 60)
      have ub := hgb (B.1 / 60) (B.1 % 60)
      generalize ga (B.1 / 60) (B.1 % 60) = va at ua l1 ⊢
      generalize gb (B.1 / 60) (B.1 % 60) = vb at ub l2 ⊢
      by_cases cl : st.2.2.1 ≤ st.2.2.2
      · rw [if_pos cl, if_pos cl]
        obtain ⟨S3, r1, r2⟩ := ih (k + 1) (st.1 + 1, st.2.1 + va, st.2.2.1 + va, st.2.2.2 + vb) S2 (some (.int (nI 1))) (some (.int (mI B.2))) (by omega) (by show st.1 + 1 ≤ k + 1; omega) (by show st.2.1 + va ≤ 99 * (k + 1); omega) (by show st.2.2.1 + va ≤ 99 * (k + 1); omega) (by show st.2.2.2 + vb ≤ 99 * (k + 1); omega) (hA.tr q3)
        refine ⟨S3, r1, ?_⟩
        refine V_il9 d_X9_learnOf_21 ?_
        refine V_il3 d_X9_learnOf_23 ?_
        refine U_ic_geN d_X9_learnOf_24 (by omega) (by omega) (fun q => absurd q (by omega)) (fun h24 => ?_)
        refine V_il6 d_X9_learnOf_27 ?_
        refine V_il7 d_X9_learnOf_29 ?_
        refine U_ic_gtN d_X9_learnOf_31 (by omega) (by omega) (fun q => absurd q (by omega)) (fun h31 => ?_)
        refine V_ki d_X9_learnOf_34 ?_
        refine V_goto d_X9_learnOf_35 ?_
        refine V_is10 d_X9_learnOf_39 rfl ?_
        refine V_al0 d_X9_learnOf_41 ?_
        refine V_il5 d_X9_learnOf_42 ?_
        refine V_il9 d_X9_learnOf_44 ?_
        refine V_il5 d_X9_learnOf_46 ?_
        refine V_isubN d_X9_learnOf_48 (b1) ?_
        refine V_ki d_X9_learnOf_49 ?_
        refine V_ki d_X9_learnOf_50 ?_
        refine U_cv4 d_X9_learnOf_51 (q1) rfl rfl rfl ?_
        refine V_is11 d_X9_learnOf_54 rfl ?_
        refine V_il8 d_X9_learnOf_56 ?_
        refine V_il10 d_X9_learnOf_58 ?_
        refine V_if_eq d_X9_learnOf_60 (fun q => absurd q (by decide)) (fun h60 => ?_)
        refine V_al0 d_X9_learnOf_63 ?_
        refine V_getR d_X9_learnOf_64 rfl rfl (by decide) rfl ?_
        refine V_al0 d_X9_learnOf_67 ?_
        refine V_getIe d_X9_learnOf_68 rfl rfl (by decide) (q2) ?_
        refine V_ialdE d_X9_learnOf_71 rfl (by decide) rfl hB3 l1 ?_
        refine V_goto d_X9_learnOf_72 ?_
        first | with_reducible refine V_iaddN d_X9_learnOf_84 ?_ | refine V_iadd d_X9_learnOf_84 ?_
        refine V_is8 d_X9_learnOf_85 rfl ?_
        refine V_il6 d_X9_learnOf_87 ?_
        refine V_al0 d_X9_learnOf_89 ?_
        refine V_getR d_X9_learnOf_90 rfl rfl (by decide) rfl ?_
        refine V_al0 d_X9_learnOf_93 ?_
        refine V_getIe d_X9_learnOf_94 rfl rfl (by decide) (q2) ?_
        refine V_ialdE d_X9_learnOf_97 rfl (by decide) rfl hB3 l1 ?_
        first | with_reducible refine V_iaddN d_X9_learnOf_98 ?_ | refine V_iadd d_X9_learnOf_98 ?_
        refine V_is6 d_X9_learnOf_99 rfl ?_
        refine V_il7 d_X9_learnOf_101 ?_
        refine V_al0 d_X9_learnOf_103 ?_
        refine V_getR d_X9_learnOf_104 rfl rfl (by decide) rfl ?_
        refine V_al0 d_X9_learnOf_107 ?_
        refine V_getIe d_X9_learnOf_108 rfl rfl (by decide) (q2) ?_
        refine V_ialdE d_X9_learnOf_111 rfl (by decide) rfl hB3 l2 ?_
        first | with_reducible refine V_iaddN d_X9_learnOf_112 ?_ | refine V_iadd d_X9_learnOf_112 ?_
        refine V_is7 d_X9_learnOf_113 rfl ?_
        refine V_il5 d_X9_learnOf_115 ?_
        refine V_il10 d_X9_learnOf_117 ?_
        refine V_if_eq d_X9_learnOf_119 (fun q => absurd q (by decide)) (fun h119 => ?_)
        refine V_ki d_X9_learnOf_122 ?_
        refine V_goto d_X9_learnOf_123 ?_
        first | with_reducible refine V_iaddN d_X9_learnOf_127 ?_ | refine V_iadd d_X9_learnOf_127 ?_
        refine V_is5 d_X9_learnOf_128 rfl ?_
        refine V_icN9 d_X9_learnOf_130 rfl ?_
        refine V_goto d_X9_learnOf_133 ?_
        exact r2
      · rw [if_neg cl, if_neg cl]
        obtain ⟨S3, r1, r2⟩ := ih (k + 1) (st.1 + 0, st.2.1 + vb, st.2.2.1 + va, st.2.2.2 + vb) S2 (some (.int (nI 0))) (some (.int (mI B.2))) (by omega) (by show st.1 + 0 ≤ k + 1; omega) (by show st.2.1 + vb ≤ 99 * (k + 1); omega) (by show st.2.2.1 + va ≤ 99 * (k + 1); omega) (by show st.2.2.2 + vb ≤ 99 * (k + 1); omega) (hA.tr q3)
        refine ⟨S3, r1, ?_⟩
        refine V_il9 d_X9_learnOf_21 ?_
        refine V_il3 d_X9_learnOf_23 ?_
        refine U_ic_geN d_X9_learnOf_24 (by omega) (by omega) (fun q => absurd q (by omega)) (fun h24 => ?_)
        refine V_il6 d_X9_learnOf_27 ?_
        refine V_il7 d_X9_learnOf_29 ?_
        refine U_ic_gtN d_X9_learnOf_31 (by omega) (by omega) (fun h31 => ?_) (fun q => absurd q (by omega))
        refine V_ki d_X9_learnOf_38 ?_
        refine V_is10 d_X9_learnOf_39 rfl ?_
        refine V_al0 d_X9_learnOf_41 ?_
        refine V_il5 d_X9_learnOf_42 ?_
        refine V_il9 d_X9_learnOf_44 ?_
        refine V_il5 d_X9_learnOf_46 ?_
        refine V_isubN d_X9_learnOf_48 (b1) ?_
        refine V_ki d_X9_learnOf_49 ?_
        refine V_ki d_X9_learnOf_50 ?_
        refine U_cv4 d_X9_learnOf_51 (q1) rfl rfl rfl ?_
        refine V_is11 d_X9_learnOf_54 rfl ?_
        refine V_il8 d_X9_learnOf_56 ?_
        refine V_il10 d_X9_learnOf_58 ?_
        refine V_if_eq d_X9_learnOf_60 (fun h60 => ?_) (fun q => absurd rfl q)
        refine V_al0 d_X9_learnOf_75 ?_
        refine V_getR d_X9_learnOf_76 rfl rfl (by decide) rfl ?_
        refine V_al0 d_X9_learnOf_79 ?_
        refine V_getIe d_X9_learnOf_80 rfl rfl (by decide) (q2) ?_
        refine V_ialdE d_X9_learnOf_83 rfl (by decide) rfl hB3 l2 ?_
        first | with_reducible refine V_iaddN d_X9_learnOf_84 ?_ | refine V_iadd d_X9_learnOf_84 ?_
        refine V_is8 d_X9_learnOf_85 rfl ?_
        refine V_il6 d_X9_learnOf_87 ?_
        refine V_al0 d_X9_learnOf_89 ?_
        refine V_getR d_X9_learnOf_90 rfl rfl (by decide) rfl ?_
        refine V_al0 d_X9_learnOf_93 ?_
        refine V_getIe d_X9_learnOf_94 rfl rfl (by decide) (q2) ?_
        refine V_ialdE d_X9_learnOf_97 rfl (by decide) rfl hB3 l1 ?_
        first | with_reducible refine V_iaddN d_X9_learnOf_98 ?_ | refine V_iadd d_X9_learnOf_98 ?_
        refine V_is6 d_X9_learnOf_99 rfl ?_
        refine V_il7 d_X9_learnOf_101 ?_
        refine V_al0 d_X9_learnOf_103 ?_
        refine V_getR d_X9_learnOf_104 rfl rfl (by decide) rfl ?_
        refine V_al0 d_X9_learnOf_107 ?_
        refine V_getIe d_X9_learnOf_108 rfl rfl (by decide) (q2) ?_
        refine V_ialdE d_X9_learnOf_111 rfl (by decide) rfl hB3 l2 ?_
        first | with_reducible refine V_iaddN d_X9_learnOf_112 ?_ | refine V_iadd d_X9_learnOf_112 ?_
        refine V_is7 d_X9_learnOf_113 rfl ?_
        refine V_il5 d_X9_learnOf_115 ?_
        refine V_il10 d_X9_learnOf_117 ?_
        refine V_if_eq d_X9_learnOf_119 (fun h119 => ?_) (fun q => absurd rfl q)
        refine V_ki d_X9_learnOf_126 ?_
        first | with_reducible refine V_iaddN d_X9_learnOf_127 ?_ | refine V_iadd d_X9_learnOf_127 ?_
        refine V_is5 d_X9_learnOf_128 rfl ?_
        refine V_icN9 d_X9_learnOf_130 rfl ?_
        refine V_goto d_X9_learnOf_133 ?_
        exact r2
  obtain ⟨S2, r1, r2⟩ := loop n 0 (0, 0, 0, 0) S0 none none (by omega) (Nat.le_refl _) (Nat.zero_le _) (Nat.zero_le _) (Nat.zero_le _) Ag.rf
  refine ⟨S2, ?_, (PX_28 t3).tr (PX_22 r1)⟩
  refine Rn_of hp_X9_learnOf [some (.ref (gB G + 22)), some (.int (nI a)), some (.int (nI b)), some (.int (nI n)), some (.int (nI j)), none, none, none, none, none, none, none] rfl (Nat.le_of_ble_eq_true rfl) (Nat.le_of_ble_eq_true rfl) ?_
  refine V_al0 d_X9_learnOf_0 ?_
  refine V_il1 d_X9_learnOf_1 ?_
  refine V_il2 d_X9_learnOf_2 ?_
  refine U_cv2v d_X9_learnOf_3 (t1) rfl rfl rfl ?_
  refine V_ki d_X9_learnOf_6 ?_
  refine V_is5 d_X9_learnOf_7 rfl ?_
  refine V_ki d_X9_learnOf_9 ?_
  refine V_is6 d_X9_learnOf_10 rfl ?_
  refine V_ki d_X9_learnOf_12 ?_
  refine V_is7 d_X9_learnOf_13 rfl ?_
  refine V_ki d_X9_learnOf_15 ?_
  refine V_is8 d_X9_learnOf_16 rfl ?_
  refine V_ki d_X9_learnOf_18 ?_
  refine V_is9 d_X9_learnOf_19 rfl ?_
  exact r2
