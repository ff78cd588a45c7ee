/-! the reference: where the watch is -/
theorem atL_iff {wy : Nat → Nat} {lk : Nat} (hlk : 1 ≤ lk) : ∀ (q : List Nat) (c m x : Nat), WFc q → x < 6 → (atL wy lk q c m = nI x ↔ ∃ a, arO wy lk q c x = some a ∧ a ≤ m ∧ m < a + lk)
  | [], c, m, x, _, hx => by
    constructor
    · intro h
      exact absurd h.symm (nI_m1 (by omega))
    · rintro ⟨a, h, -⟩
      cases h
  | s :: t, c, m, x, hw, hx => by
    have hs : s < 6 := hw.2 s List.mem_cons_self
    have hwt : WFc t := ⟨(List.nodup_cons.mp hw.1).2, fun y hy => hw.2 y (List.mem_cons_of_mem _ hy)⟩
    have hst : s ∉ t := (List.nodup_cons.mp hw.1).1
    have ge : ∀ (t : List Nat) (c a x : Nat), arO wy lk t c x = some a → c ≤ a ∧ x ∈ t := by
      intro t
      induction t with
      | nil => intro c a x h; cases h
      | cons y t ih =>
        intro c a x h
        rw [arO] at h
        split at h
        · next e => cases h; exact ⟨Nat.le_refl _, by rw [e]; exact List.mem_cons_self⟩
        · obtain ⟨h1, h2⟩ := ih _ _ _ h
          exact ⟨by omega, List.mem_cons_of_mem _ h2⟩
    rw [atL, arO]
    by_cases hc : c ≤ m ∧ m < c + lk
    · rw [if_pos hc]
      by_cases e : s = x
      · rw [if_pos e]
        exact ⟨fun _ => ⟨c, rfl, hc.1, hc.2⟩, fun _ => by rw [e]⟩
      · rw [if_neg e]
        constructor
        · intro h
          exact absurd (nI_inj (by omega) (by omega) h) e
        · rintro ⟨a, h, h1, h2⟩
          have := (ge _ _ _ _ h).1
          omega
    · rw [if_neg hc]
      rw [atL_iff hlk t _ m x hwt hx]
      by_cases e : s = x
      · rw [if_pos e]
        constructor
        · rintro ⟨a, h, -⟩
          exact absurd (e ▸ (ge _ _ _ _ h).2) hst
        · rintro ⟨a, h, h1, h2⟩
          cases h
          exact absurd ⟨h1, h2⟩ hc
      · rw [if_neg e]
set_option maxRecDepth 100000 in
theorem c_X9_nightOf {G : Gm} {S : AS} {N : List (List Nat)} {n j : Nat} (hv : MNv S N) (hN : WFN N) (hn : n < N.length) (hj : j < 1000) : Rm G M_X9_nightOf [.ref (gB G + 22), .int (nI n), .int (nI j)] S (some (.int (sh (ni N n) j))) S := by
  have h8 := hN.1
  have h6 := ni_le hN hn
  refine Rn_of hp_X9_nightOf [some (.ref (gB G + 22)), some (.int (nI n)), some (.int (nI j))] rfl (Nat.le_of_ble_eq_true rfl) (Nat.le_of_ble_eq_true rfl) ?_
  refine V_il2 d_X9_nightOf_0 ?_
  refine V_al0 d_X9_nightOf_1 ?_
  refine V_getR d_X9_nightOf_2 rfl rfl (by decide) rfl ?_
  refine V_il1 d_X9_nightOf_5 ?_
  refine V_ialdE d_X9_nightOf_6 rfl (by decide) rfl (show n < 9 by omega) (hv.2.1 n hn) ?_
  refine U_ic_geN d_X9_nightOf_7 (by omega) (by omega) (fun h7 => ?_) (fun h7 => ?_)
  · refine V_ki d_X9_nightOf_24 ?_
    exact V_iret d_X9_nightOf_25 rfl (by first | rfl | rw [sh_out h7]) rfl
  · refine V_al0 d_X9_nightOf_10 ?_
    refine V_getR d_X9_nightOf_11 rfl rfl (by decide) rfl ?_
    refine V_ki d_X9_nightOf_14 ?_
    refine V_il1 d_X9_nightOf_16 ?_
    first | with_reducible refine V_imulN d_X9_nightOf_17 ?_ | refine V_imul d_X9_nightOf_17 ?_
    refine V_il2 d_X9_nightOf_18 ?_
    first | with_reducible refine V_iaddN d_X9_nightOf_19 ?_ | refine V_iadd d_X9_nightOf_19 ?_
    refine V_ialdE d_X9_nightOf_20 rfl (by decide) rfl (show 6 * n + j < 54 by omega) (hv.2.2 n hn j h7) ?_
    refine V_goto d_X9_nightOf_21 ?_
    exact V_iret d_X9_nightOf_25 rfl (by first | rfl | rw [sh_out h7]) rfl
set_option maxRecDepth 100000 in
theorem c_X9_atOf {G : Gm} {S : AS} {w0 wy : Nat → Nat} {lk nd : Nat} {N : List (List Nat)} {n m : Nat} (hH : HVm S w0 wy lk nd) (hB : HB w0 wy lk nd) (hv : MNv S N) (hN : WFN N) (hn : n < N.length) (hm : m < 1000) : Rm G M_X9_atOf [.ref (gB G + 22), .int (nI n), .int (nI m)] S (some (.int (atL wy lk (ni N n) 0 m))) S := by
  have h8 := hN.1
  have h6 := ni_le hN hn
  have hw := (ni_wf hN hn).2
  obtain ⟨hlk1, hlk2⟩ := hB.2.2.1
  have loop : ∀ d i c (y5 : Option Value), i + d = (ni N n).length → c ≤ 14 * i → U G M_X9_atOf (Ze G (some (.int (atL wy lk ((ni N n).drop i) c m))) S) 5 [some (.ref (gB G + 22)), some (.int (nI n)), some (.int (nI m)), some (.int (nI c)), some (.int (nI i)), y5] [] S := by
    intro d
    induction d with
    | zero =>
      intro i c y5 hi hc
      have e : (ni N n).drop i = [] := List.drop_eq_nil_of_le (by omega)
      rw [e]
      refine V_il4 d_X9_atOf_5 ?_
      refine V_al0 d_X9_atOf_7 ?_
      refine V_getR d_X9_atOf_8 rfl rfl (by decide) rfl ?_
      refine V_il1 d_X9_atOf_11 ?_
      refine V_ialdE d_X9_atOf_12 rfl (by decide) rfl (show n < 9 by omega) (hv.2.1 n hn) ?_
      refine U_ic_geN d_X9_atOf_13 (by omega) (by omega) (fun h13 => ?_) (fun q => absurd q (by omega))
      refine V_ki d_X9_atOf_105 ?_
      exact V_iret d_X9_atOf_106 rfl (by first | rfl | simp_all) rfl
    | succ d ih =>
      intro i c y5 hi hc
      have hl : i < (ni N n).length := by omega
      have hs : (ni N n)[i] < 6 := hw.2 _ (List.getElem_mem hl)
      have e := drop_cons hl
      have hx := nxw_le hB (ni N n)[i] ((ni N n).drop (i + 1))
      have e2 : atL wy lk ((ni N n).drop i) c m = if c ≤ m ∧ m < c + lk then nI (ni N n)[i] else atL wy lk ((ni N n).drop (i + 1)) (c + (lk + nxw wy (ni N n)[i] ((ni N n).drop (i + 1)))) m := by rw [e]; rfl
      rw [e2]
      have hrow := hv.2.2 n hn i hl
      rw [sh_in hl] at hrow
      rcases Nat.lt_or_ge (i + 1) (ni N n).length with g | g
      · have hs2 : (ni N n)[i + 1] < 6 := hw.2 _ (List.getElem_mem g)
        have hrow2 := hv.2.2 n hn (i + 1) g
        rw [sh_in g, ← Nat.add_assoc] at hrow2
        have enx : nxw wy (ni N n)[i] ((ni N n).drop (i + 1)) = wy ((ni N n)[i] * 6 + (ni N n)[i + 1]) := by rw [drop_cons g]; rfl
        have hway := hH.2.1 ((ni N n)[i] * 6 + (ni N n)[i + 1]) (by omega)
        rw [enx] at hx ⊢
        have ih' := ih (i + 1) (c + (lk + wy ((ni N n)[i] * 6 + (ni N n)[i + 1]))) (some (.int (nI (ni N n)[i]))) (by omega) (by omega)
        refine V_il4 d_X9_atOf_5 ?_
        refine V_al0 d_X9_atOf_7 ?_
        refine V_getR d_X9_atOf_8 rfl rfl (by decide) rfl ?_
        refine V_il1 d_X9_atOf_11 ?_
        refine V_ialdE d_X9_atOf_12 rfl (by decide) rfl (show n < 9 by omega) (hv.2.1 n hn) ?_
        refine U_ic_geN d_X9_atOf_13 (by omega) (by omega) (fun q => absurd q (by omega)) (fun h13 => ?_)
        refine V_al0 d_X9_atOf_16 ?_
        refine V_getR d_X9_atOf_17 rfl rfl (by decide) rfl ?_
        refine V_ki d_X9_atOf_20 ?_
        refine V_il1 d_X9_atOf_22 ?_
        first | with_reducible refine V_imulN d_X9_atOf_23 ?_ | refine V_imul d_X9_atOf_23 ?_
        refine V_il4 d_X9_atOf_24 ?_
        first | with_reducible refine V_iaddN d_X9_atOf_26 ?_ | refine V_iadd d_X9_atOf_26 ?_
        refine V_ialdE d_X9_atOf_27 rfl (by decide) rfl (show 6 * n + i < 54 by omega) hrow ?_
        refine V_is5 d_X9_atOf_28 rfl ?_
        refine V_il2 d_X9_atOf_30 ?_
        refine V_il3 d_X9_atOf_31 ?_
        refine V_il3 d_X9_atOf_32 ?_
        refine V_al0 d_X9_atOf_33 ?_
        refine V_getIe d_X9_atOf_34 rfl rfl (by decide) (hH.2.2.1) ?_
        first | with_reducible refine V_iaddN d_X9_atOf_37 ?_ | refine V_iadd d_X9_atOf_37 ?_
        refine V_ki d_X9_atOf_38 ?_
        refine V_isubN d_X9_atOf_39 (by omega) ?_
        refine U_cs3 d_X9_atOf_40 (c_X9_in) rfl ?_
        rw [inR_N (by omega) (by omega) (by omega)]
        refine V_eqB d_X9_atOf_43 (fun h43 => ?_) (fun h43 => ?_)
        · have hc1 : ¬ (c ≤ m ∧ m < c + lk) := by intro z; simp at h43; omega
          refine V_il3 d_X9_atOf_49 ?_
          rw [if_neg hc1]
          refine V_al0 d_X9_atOf_50 ?_
          refine V_getIe d_X9_atOf_51 rfl rfl (by decide) (hH.2.2.1) ?_
          refine V_il4 d_X9_atOf_54 ?_
          refine V_ki d_X9_atOf_56 ?_
          first | with_reducible refine V_iaddN d_X9_atOf_57 ?_ | refine V_iadd d_X9_atOf_57 ?_
          refine V_al0 d_X9_atOf_58 ?_
          refine V_getR d_X9_atOf_59 rfl rfl (by decide) rfl ?_
          refine V_il1 d_X9_atOf_62 ?_
          refine V_ialdE d_X9_atOf_63 rfl (by decide) rfl (show n < 9 by omega) (hv.2.1 n hn) ?_
          refine U_ic_geN d_X9_atOf_64 (by omega) (by omega) (fun q => absurd q (by omega)) (fun h64 => ?_)
          refine V_al0 d_X9_atOf_67 ?_
          refine V_getR d_X9_atOf_68 rfl rfl (by decide) rfl ?_
          refine V_ki d_X9_atOf_71 ?_
          refine V_il5 d_X9_atOf_73 ?_
          first | with_reducible refine V_imulN d_X9_atOf_75 ?_ | refine V_imul d_X9_atOf_75 ?_
          refine V_al0 d_X9_atOf_76 ?_
          refine V_getR d_X9_atOf_77 rfl rfl (by decide) rfl ?_
          refine V_ki d_X9_atOf_80 ?_
          refine V_il1 d_X9_atOf_82 ?_
          first | with_reducible refine V_imulN d_X9_atOf_83 ?_ | refine V_imul d_X9_atOf_83 ?_
          refine V_il4 d_X9_atOf_84 ?_
          first | with_reducible refine V_iaddN d_X9_atOf_86 ?_ | refine V_iadd d_X9_atOf_86 ?_
          refine V_ki d_X9_atOf_87 ?_
          first | with_reducible refine V_iaddN d_X9_atOf_88 ?_ | refine V_iadd d_X9_atOf_88 ?_
          refine V_ialdE d_X9_atOf_89 rfl (by decide) rfl (show 6 * n + i + 1 < 54 by omega) hrow2 ?_
          first | with_reducible refine V_iaddN d_X9_atOf_90 ?_ | refine V_iadd d_X9_atOf_90 ?_
          refine V_ialdE d_X9_atOf_91 rfl (by decide) (show _ = nI ((ni N n)[i] * 6 + (ni N n)[i + 1]) by rw [Nat.mul_comm]) (by omega) hway ?_
          refine V_goto d_X9_atOf_92 ?_
          first | with_reducible refine V_iaddN d_X9_atOf_96 ?_ | refine V_iadd d_X9_atOf_96 ?_
          first | with_reducible refine V_iaddN d_X9_atOf_97 ?_ | refine V_iadd d_X9_atOf_97 ?_
          refine V_is3 d_X9_atOf_98 rfl ?_
          refine V_icN4 d_X9_atOf_99 rfl ?_
          refine V_goto d_X9_atOf_102 ?_
          exact ih'
        · have hc1 : c ≤ m ∧ m < c + lk := by simp at h43; omega
          refine V_il5 d_X9_atOf_46 ?_
          rw [if_pos hc1]
          exact V_iret d_X9_atOf_48 rfl (by first | rfl | simp_all) rfl
      · have enx : nxw wy (ni N n)[i] ((ni N n).drop (i + 1)) = 0 := by rw [List.drop_eq_nil_of_le g]; rfl
        rw [enx] at hx ⊢
        have ih' := ih (i + 1) (c + (lk + 0)) (some (.int (nI (ni N n)[i]))) (by omega) (by omega)
        refine V_il4 d_X9_atOf_5 ?_
        refine V_al0 d_X9_atOf_7 ?_
        refine V_getR d_X9_atOf_8 rfl rfl (by decide) rfl ?_
        refine V_il1 d_X9_atOf_11 ?_
        refine V_ialdE d_X9_atOf_12 rfl (by decide) rfl (show n < 9 by omega) (hv.2.1 n hn) ?_
        refine U_ic_geN d_X9_atOf_13 (by omega) (by omega) (fun q => absurd q (by omega)) (fun h13 => ?_)
        refine V_al0 d_X9_atOf_16 ?_
        refine V_getR d_X9_atOf_17 rfl rfl (by decide) rfl ?_
        refine V_ki d_X9_atOf_20 ?_
        refine V_il1 d_X9_atOf_22 ?_
        first | with_reducible refine V_imulN d_X9_atOf_23 ?_ | refine V_imul d_X9_atOf_23 ?_
        refine V_il4 d_X9_atOf_24 ?_
        first | with_reducible refine V_iaddN d_X9_atOf_26 ?_ | refine V_iadd d_X9_atOf_26 ?_
        refine V_ialdE d_X9_atOf_27 rfl (by decide) rfl (show 6 * n + i < 54 by omega) hrow ?_
        refine V_is5 d_X9_atOf_28 rfl ?_
        refine V_il2 d_X9_atOf_30 ?_
        refine V_il3 d_X9_atOf_31 ?_
        refine V_il3 d_X9_atOf_32 ?_
        refine V_al0 d_X9_atOf_33 ?_
        refine V_getIe d_X9_atOf_34 rfl rfl (by decide) (hH.2.2.1) ?_
        first | with_reducible refine V_iaddN d_X9_atOf_37 ?_ | refine V_iadd d_X9_atOf_37 ?_
        refine V_ki d_X9_atOf_38 ?_
        refine V_isubN d_X9_atOf_39 (by omega) ?_
        refine U_cs3 d_X9_atOf_40 (c_X9_in) rfl ?_
        rw [inR_N (by omega) (by omega) (by omega)]
        refine V_eqB d_X9_atOf_43 (fun h43 => ?_) (fun h43 => ?_)
        · have hc1 : ¬ (c ≤ m ∧ m < c + lk) := by intro z; simp at h43; omega
          refine V_il3 d_X9_atOf_49 ?_
          rw [if_neg hc1]
          refine V_al0 d_X9_atOf_50 ?_
          refine V_getIe d_X9_atOf_51 rfl rfl (by decide) (hH.2.2.1) ?_
          refine V_il4 d_X9_atOf_54 ?_
          refine V_ki d_X9_atOf_56 ?_
          first | with_reducible refine V_iaddN d_X9_atOf_57 ?_ | refine V_iadd d_X9_atOf_57 ?_
          refine V_al0 d_X9_atOf_58 ?_
          refine V_getR d_X9_atOf_59 rfl rfl (by decide) rfl ?_
          refine V_il1 d_X9_atOf_62 ?_
          refine V_ialdE d_X9_atOf_63 rfl (by decide) rfl (show n < 9 by omega) (hv.2.1 n hn) ?_
          refine U_ic_geN d_X9_atOf_64 (by omega) (by omega) (fun h64 => ?_) (fun q => absurd q (by omega))
          refine V_ki d_X9_atOf_95 ?_
          first | with_reducible refine V_iaddN d_X9_atOf_96 ?_ | refine V_iadd d_X9_atOf_96 ?_
          first | with_reducible refine V_iaddN d_X9_atOf_97 ?_ | refine V_iadd d_X9_atOf_97 ?_
          refine V_is3 d_X9_atOf_98 rfl ?_
          refine V_icN4 d_X9_atOf_99 rfl ?_
          refine V_goto d_X9_atOf_102 ?_
          exact ih'
        · have hc1 : c ≤ m ∧ m < c + lk := by simp at h43; omega
          refine V_il5 d_X9_atOf_46 ?_
          rw [if_pos hc1]
          exact V_iret d_X9_atOf_48 rfl (by first | rfl | simp_all) rfl
  refine Rn_of hp_X9_atOf [some (.ref (gB G + 22)), some (.int (nI n)), some (.int (nI m)), none, none, none] rfl (Nat.le_of_ble_eq_true rfl) (Nat.le_of_ble_eq_true rfl) ?_
  refine V_ki d_X9_atOf_0 ?_
  refine V_is3 d_X9_atOf_1 rfl ?_
  refine V_ki d_X9_atOf_2 ?_
  refine V_is4 d_X9_atOf_3 rfl ?_
  exact loop _ 0 0 none (Nat.zero_add _) (by omega)
set_option maxRecDepth 100000 in
theorem c_X9_whenOf {G : Gm} {S : AS} {w0 wy : Nat → Nat} {lk nd : Nat} {N : List (List Nat)} {n x : Nat} (hH : HVm S w0 wy lk nd) (hB : HB w0 wy lk nd) (hv : MNv S N) (hN : WFN N) (hn : n < N.length) (hx : x < 6) : Rm G M_X9_whenOf [.ref (gB G + 22), .int (nI n), .int (nI x)] S (some (.int (ctI (arO wy lk (ni N n) 0 x)))) S := by
  have hw := (ni_wf hN hn).2
  obtain ⟨hlk1, hlk2⟩ := hB.2.2.1
  have hat := fun m => atL_iff (wy := wy) hlk1 (ni N n) 0 m x hw hx
  have hcall := fun m (hm : m < 1000) => c_X9_atOf (G := G) (m := m) hH hB hv hN hn hm
  generalize arO wy lk (ni N n) 0 x = o at hat ⊢
  have loop : ∀ d i, i + d = 60 → (∀ a, o = some a → i ≤ a) → U G M_X9_whenOf (Ze G (some (.int (ctI o))) S) 2 [some (.ref (gB G + 22)), some (.int (nI n)), some (.int (nI x)), some (.int (nI i))] [] S := by
    intro d
    induction d with
    | zero =>
      intro i hi hlow
      rw [Nat.add_zero] at hi
      subst hi
      have e : ctI o = -1 := by
        rcases ctI_cases o with ⟨c, e1, e2, e3⟩ | ⟨e1, -⟩
        · have := hlow c e1; omega
        · exact e1
      rw [e]
      refine V_il3 d_X9_whenOf_2 ?_
      refine V_ki d_X9_whenOf_3 ?_
      refine U_ic_geN d_X9_whenOf_5 (by omega) (by omega) (fun h5 => ?_) (fun q => absurd q (by omega))
      refine V_ki d_X9_whenOf_26 ?_
      exact V_iret d_X9_whenOf_27 rfl (by first | rfl | simp_all) rfl
    | succ d ih =>
      intro i hi hlow
      by_cases he : atL wy lk (ni N n) 0 i = nI x
      · obtain ⟨a, e1, e2, e3⟩ := (hat i).mp he
        have := hlow a e1
        have e4 : ctI o = nI i := by
          rw [e1, show a = i by omega]
          simp [ctI]; omega
        rw [e4]
        refine V_il3 d_X9_whenOf_2 ?_
        refine V_ki d_X9_whenOf_3 ?_
        refine U_ic_geN d_X9_whenOf_5 (by omega) (by omega) (fun q => absurd q (by omega)) (fun h5 => ?_)
        refine V_al0 d_X9_whenOf_8 ?_
        refine V_il1 d_X9_whenOf_9 ?_
        refine V_il3 d_X9_whenOf_10 ?_
        refine U_cv2 d_X9_whenOf_11 (hcall i (by omega)) rfl rfl rfl ?_
        refine V_il2 d_X9_whenOf_14 ?_
        refine V_ic_ne d_X9_whenOf_15 (fun q => absurd he q) (fun h15 => ?_)
        refine V_il3 d_X9_whenOf_18 ?_
        exact V_iret d_X9_whenOf_19 rfl (by first | rfl | simp_all) rfl
      · have hlow2 : ∀ a, o = some a → i + 1 ≤ a := by
          intro a e1
          rcases Nat.lt_or_eq_of_le (hlow a e1) with g | g
          · exact g
          · exact absurd ((hat i).mpr ⟨a, e1, by omega, by omega⟩) he
        refine V_il3 d_X9_whenOf_2 ?_
        refine V_ki d_X9_whenOf_3 ?_
        refine U_ic_geN d_X9_whenOf_5 (by omega) (by omega) (fun q => absurd q (by omega)) (fun h5 => ?_)
        refine V_al0 d_X9_whenOf_8 ?_
        refine V_il1 d_X9_whenOf_9 ?_
        refine V_il3 d_X9_whenOf_10 ?_
        refine U_cv2 d_X9_whenOf_11 (hcall i (by omega)) rfl rfl rfl ?_
        refine V_il2 d_X9_whenOf_14 ?_
        refine V_ic_ne d_X9_whenOf_15 (fun h15 => ?_) (fun q => (he q).elim)
        refine V_icN3 d_X9_whenOf_20 rfl ?_
        refine V_goto d_X9_whenOf_23 ?_
        exact ih (i + 1) (by omega) hlow2
  refine Rn_of hp_X9_whenOf [some (.ref (gB G + 22)), some (.int (nI n)), some (.int (nI x)), none] rfl (Nat.le_of_ble_eq_true rfl) (Nat.le_of_ble_eq_true rfl) ?_
  refine V_ki d_X9_whenOf_0 ?_
  refine V_is3 d_X9_whenOf_1 rfl ?_
  exact loop 60 0 rfl (fun a _ => Nat.zero_le _)
set_option maxRecDepth 100000 in
theorem c_X9_stealsOf {G : Gm} {S : AS} {w0 wy : Nat → Nat} {lk nd : Nat} {N : List (List Nat)} {n x m : Nat} (hH : HVm S w0 wy lk nd) (hB : HB w0 wy lk nd) (hv : MNv S N) (hN : WFN N) (hn : n < N.length) (hx : x < 6) (hm : m + nd ≤ 60) : Rm G M_X9_stealsOf [.ref (gB G + 22), .int (nI n), .int (nI x), .int (nI m)] S (some (.int (nI (hh w0 wy lk nd (ni N n) x m)))) S := by
  have hw := (ni_wf hN hn).2
  obtain ⟨hlk1, hlk2⟩ := hB.2.2.1
  obtain ⟨hnd1, hnd2⟩ := hB.2.2.2
  have hat := fun m => atL_iff (wy := wy) hlk1 (ni N n) 0 m x hw hx
  have hcall := fun m (hm : m < 1000) => c_X9_atOf (G := G) (m := m) hH hB hv hN hn hm
  unfold hh
  generalize arO wy lk (ni N n) 0 x = o at hat ⊢
  have loop : ∀ d i, i + d = m + nd → m ≤ i → (∀ k, m ≤ k → k < i → ¬ atL wy lk (ni N n) 0 k = nI x) → U G M_X9_stealsOf (Ze G (some (.int (nI (hlN o lk nd (w0 x) m)))) S) 3 [some (.ref (gB G + 22)), some (.int (nI n)), some (.int (nI x)), some (.int (nI m)), some (.int (nI i))] [] S := by
    intro d
    induction d with
    | zero =>
      intro i hi hmi hno
      rw [Nat.add_zero] at hi
      subst hi
      have e : hlN o lk nd (w0 x) m = w0 x := by
        cases o with
        | none => rfl
        | some a =>
          show (if a < 60 ∧ a < m + nd ∧ m < a + lk then 0 else w0 x) = w0 x
          rw [if_neg]
          intro z
          rcases Nat.lt_or_ge a m with g | g
          · exact hno m (Nat.le_refl _) (by omega) ((hat m).mpr ⟨a, rfl, by omega, by omega⟩)
          · exact hno a g (by omega) ((hat a).mpr ⟨a, rfl, by omega, by omega⟩)
      rw [e]
      refine V_il4 d_X9_stealsOf_3 ?_
      refine V_il3 d_X9_stealsOf_5 ?_
      refine V_al0 d_X9_stealsOf_6 ?_
      refine V_getIe d_X9_stealsOf_7 rfl rfl (by decide) (hH.2.2.2) ?_
      first | with_reducible refine V_iaddN d_X9_stealsOf_10 ?_ | refine V_iadd d_X9_stealsOf_10 ?_
      refine U_ic_geN d_X9_stealsOf_11 (by omega) (by omega) (fun h11 => ?_) (fun q => absurd q (by omega))
      refine V_al0 d_X9_stealsOf_33 ?_
      refine V_getR d_X9_stealsOf_34 rfl rfl (by decide) rfl ?_
      refine V_il2 d_X9_stealsOf_37 ?_
      refine V_ialdE d_X9_stealsOf_38 rfl (by decide) rfl hx (hH.1 x hx) ?_
      exact V_iret d_X9_stealsOf_39 rfl (by first | rfl | simp_all) rfl
    | succ d ih =>
      intro i hi hmi hno
      by_cases he : atL wy lk (ni N n) 0 i = nI x
      · obtain ⟨a, e1, e2, e3⟩ := (hat i).mp he
        have e4 : hlN o lk nd (w0 x) m = 0 := by
          rw [e1]
          show (if a < 60 ∧ a < m + nd ∧ m < a + lk then 0 else w0 x) = 0
          rw [if_pos (by omega)]
        rw [e4]
        refine V_il4 d_X9_stealsOf_3 ?_
        refine V_il3 d_X9_stealsOf_5 ?_
        refine V_al0 d_X9_stealsOf_6 ?_
        refine V_getIe d_X9_stealsOf_7 rfl rfl (by decide) (hH.2.2.2) ?_
        first | with_reducible refine V_iaddN d_X9_stealsOf_10 ?_ | refine V_iadd d_X9_stealsOf_10 ?_
        refine U_ic_geN d_X9_stealsOf_11 (by omega) (by omega) (fun q => absurd q (by omega)) (fun h11 => ?_)
        refine V_al0 d_X9_stealsOf_14 ?_
        refine V_il1 d_X9_stealsOf_15 ?_
        refine V_il4 d_X9_stealsOf_16 ?_
        refine U_cv2 d_X9_stealsOf_18 (hcall i (by omega)) rfl rfl rfl ?_
        refine V_il2 d_X9_stealsOf_21 ?_
        refine V_ic_ne d_X9_stealsOf_22 (fun q => absurd he q) (fun h22 => ?_)
        refine V_ki d_X9_stealsOf_25 ?_
        exact V_iret d_X9_stealsOf_26 rfl (by first | rfl | simp_all) rfl
      · refine V_il4 d_X9_stealsOf_3 ?_
        refine V_il3 d_X9_stealsOf_5 ?_
        refine V_al0 d_X9_stealsOf_6 ?_
        refine V_getIe d_X9_stealsOf_7 rfl rfl (by decide) (hH.2.2.2) ?_
        first | with_reducible refine V_iaddN d_X9_stealsOf_10 ?_ | refine V_iadd d_X9_stealsOf_10 ?_
        refine U_ic_geN d_X9_stealsOf_11 (by omega) (by omega) (fun q => absurd q (by omega)) (fun h11 => ?_)
        refine V_al0 d_X9_stealsOf_14 ?_
        refine V_il1 d_X9_stealsOf_15 ?_
        refine V_il4 d_X9_stealsOf_16 ?_
        refine U_cv2 d_X9_stealsOf_18 (hcall i (by omega)) rfl rfl rfl ?_
        refine V_il2 d_X9_stealsOf_21 ?_
        refine V_ic_ne d_X9_stealsOf_22 (fun h22 => ?_) (fun q => (he q).elim)
        refine V_icN4 d_X9_stealsOf_27 rfl ?_
        refine V_goto d_X9_stealsOf_30 ?_
        exact ih (i + 1) (by omega) (by omega) (fun k k1 k2 => (Nat.lt_or_eq_of_le (Nat.le_of_lt_succ k2)).elim (fun g => hno k k1 g) (fun g => by rw [g]; exact he))
  refine Rn_of hp_X9_stealsOf [some (.ref (gB G + 22)), some (.int (nI n)), some (.int (nI x)), some (.int (nI m)), none] rfl (Nat.le_of_ble_eq_true rfl) (Nat.le_of_ble_eq_true rfl) ?_
  refine V_il3 d_X9_stealsOf_0 ?_
  refine V_is4 d_X9_stealsOf_1 rfl ?_
  exact loop nd m rfl (Nat.le_refl _) (fun k k1 k2 => absurd k1 (by omega))
theorem sub_add_c (a b c : Int32) : a - b + c = a + c - b := by
  rw [Int32.sub_eq_add_neg, Int32.sub_eq_add_neg, Int32.add_assoc, Int32.add_assoc, Int32.add_comm (-b)]
/-- the longest row without the watch, as it is scanned -/
def alS (z : Nat → Bool) (m : Nat) (st : Nat × Nat × Nat) : Nat × Nat × Nat :=
  let r := if z m = true then 0 else st.2.2 + 1
  (if st.1 < r then r else st.1, if st.1 < r then m + 1 - r else st.2.1, r)
def alR (z : Nat → Bool) : Nat × Nat × Nat := lp (alS z) 60 0 (0, 0, 0)
set_option maxRecDepth 100000 in
theorem c_X9_aloneOf' {G : Gm} {S : AS} {w0 wy : Nat → Nat} {lk nd : Nat} {N : List (List Nat)} {n x j : Nat} (hH : HVm S w0 wy lk nd) (hB : HB w0 wy lk nd) (hv : MNv S N) (hN : WFN N) (hn : n < N.length) (hx : x < 6) (hj : j < 2) : Rm G M_X9_aloneOf [.ref (gB G + 22), .int (nI n), .int (nI x), .int (nI j)] S (some (.int (nI (if j = 0 then (alR (fun m => decide (atL wy lk (ni N n) 0 m = nI x))).1 else (alR (fun m => decide (atL wy lk (ni N n) 0 m = nI x))).2.1)))) S := by
  have hcall := fun m (hm : m < 1000) => c_X9_atOf (G := G) (m := m) hH hB hv hN hn hm
  have loop : ∀ d i (st : Nat × Nat × Nat), i + d = 60 → st.1 ≤ i → st.2.2 ≤ i → U G M_X9_aloneOf (Ze G (some (.int (nI (if j = 0 then (lp (alS (fun m => decide (atL wy lk (ni N n) 0 m = nI x))) d i st).1 else (lp (alS (fun m => decide (atL wy lk (ni N n) 0 m = nI x))) d i st).2.1)))) S) 12 [some (.ref (gB G + 22)), some (.int (nI n)), some (.int (nI x)), some (.int (nI j)), some (.int (nI st.1)), some (.int (nI st.2.1)), some (.int (nI st.2.2)), some (.int (nI i))] [] S := by
    intro d
    induction d with
    | zero =>
      intro i st hi b1 b2
      refine V_il7 d_X9_aloneOf_12 ?_
      refine V_ki d_X9_aloneOf_14 ?_
      refine U_ic_geN d_X9_aloneOf_16 (by omega) (by omega) (fun h16 => ?_) (fun q => absurd q (by omega))
      refine V_il3 d_X9_aloneOf_83 ?_
      refine U_if_neN d_X9_aloneOf_84 (by omega) (fun h84 => ?_) (fun h84 => ?_)
      · refine V_il5 d_X9_aloneOf_92 ?_
        exact V_iret d_X9_aloneOf_94 rfl (by first | rw [if_pos h84]; rfl | rw [if_neg h84]; rfl) rfl
      · refine V_il4 d_X9_aloneOf_87 ?_
        refine V_goto d_X9_aloneOf_89 ?_
        exact V_iret d_X9_aloneOf_94 rfl (by first | rw [if_pos h84]; rfl | rw [if_neg h84]; rfl) rfl
    | succ d ih =>
      intro i st hi b1 b2
      rw [lp]
      have go : ∀ r, r ≤ i + 1 → alS (fun m => decide (atL wy lk (ni N n) 0 m = nI x)) i st = (if st.1 < r then r else st.1, if st.1 < r then i + 1 - r else st.2.1, r) →
          U G M_X9_aloneOf (Ze G (some (.int (nI (if j = 0 then (lp (alS (fun m => decide (atL wy lk (ni N n) 0 m = nI x))) d (i + 1) (alS (fun m => decide (atL wy lk (ni N n) 0 m = nI x)) i st)).1 else (lp (alS (fun m => decide (atL wy lk (ni N n) 0 m = nI x))) d (i + 1) (alS (fun m => decide (atL wy lk (ni N n) 0 m = nI x)) i st)).2.1)))) S) 38 [some (.ref (gB G + 22)), some (.int (nI n)), some (.int (nI x)), some (.int (nI j)), some (.int (nI st.1)), some (.int (nI st.2.1)), some (.int (nI st.2.2)), some (.int (nI i))] [.int (nI r)] S := by
        intro r hr e
        rw [e]
        have ih' := ih (i + 1) (if st.1 < r then r else st.1, if st.1 < r then i + 1 - r else st.2.1, r) (by omega) (by show (if st.1 < r then r else st.1) ≤ i + 1; split <;> omega) hr
        by_cases g : st.1 < r
        · simp only [if_pos g] at ih' ⊢
          refine V_is6 d_X9_aloneOf_38 rfl ?_
          refine V_il6 d_X9_aloneOf_40 ?_
          refine V_il4 d_X9_aloneOf_42 ?_
          refine U_ic_leN d_X9_aloneOf_44 (by omega) (by omega) (fun q => absurd q (by omega)) (fun h44 => ?_)
          refine V_il7 d_X9_aloneOf_47 ?_
          refine V_il6 d_X9_aloneOf_49 ?_
          refine V_isub d_X9_aloneOf_51 ?_
          refine V_ki d_X9_aloneOf_52 ?_
          refine V_iadd d_X9_aloneOf_53 ?_
          refine V_topi (show nI i - nI r + nI 1 = nI (i + 1 - r) from ?_) ?_
          · rw [← pk_sub hr, ← nI_add i 1]
            exact sub_add_c _ _ _
          refine V_goto d_X9_aloneOf_54 ?_
          refine V_is5 d_X9_aloneOf_59 rfl ?_
          refine V_il6 d_X9_aloneOf_61 ?_
          refine V_il4 d_X9_aloneOf_63 ?_
          refine U_ic_leN d_X9_aloneOf_65 (by omega) (by omega) (fun q => absurd q (by omega)) (fun _ => ?_)
          refine V_il6 d_X9_aloneOf_68 ?_
          refine V_goto d_X9_aloneOf_70 ?_
          refine V_is4 d_X9_aloneOf_75 rfl ?_
          refine V_icN7 d_X9_aloneOf_77 rfl ?_
          refine V_goto d_X9_aloneOf_80 ?_
          exact ih'
        · simp only [if_neg g] at ih' ⊢
          refine V_is6 d_X9_aloneOf_38 rfl ?_
          refine V_il6 d_X9_aloneOf_40 ?_
          refine V_il4 d_X9_aloneOf_42 ?_
          refine U_ic_leN d_X9_aloneOf_44 (by omega) (by omega) (fun h44 => ?_) (fun q => absurd q (by omega))
          refine V_il5 d_X9_aloneOf_57 ?_
          refine V_is5 d_X9_aloneOf_59 rfl ?_
          refine V_il6 d_X9_aloneOf_61 ?_
          refine V_il4 d_X9_aloneOf_63 ?_
          refine U_ic_leN d_X9_aloneOf_65 (by omega) (by omega) (fun h65 => ?_) (fun q => absurd q (by omega))
          refine V_il4 d_X9_aloneOf_73 ?_
          refine V_is4 d_X9_aloneOf_75 rfl ?_
          refine V_icN7 d_X9_aloneOf_77 rfl ?_
          refine V_goto d_X9_aloneOf_80 ?_
          exact ih'
      by_cases he : atL wy lk (ni N n) 0 i = nI x
      · have g0 := go 0 (by omega) (by dsimp only [alS]; first | rw [if_pos (decide_eq_true he)] | rw [if_neg (fun q => he (of_decide_eq_true q))])
        refine V_il7 d_X9_aloneOf_12 ?_
        refine V_ki d_X9_aloneOf_14 ?_
        refine U_ic_geN d_X9_aloneOf_16 (by omega) (by omega) (fun q => absurd q (by omega)) (fun h16 => ?_)
        refine V_al0 d_X9_aloneOf_19 ?_
        refine V_il1 d_X9_aloneOf_20 ?_
        refine V_il7 d_X9_aloneOf_21 ?_
        refine U_cv2 d_X9_aloneOf_23 (hcall i (by omega)) rfl rfl rfl ?_
        refine V_il2 d_X9_aloneOf_26 ?_
        refine V_ic_ne d_X9_aloneOf_27 (fun q => absurd he q) (fun h27 => ?_)
        refine V_ki d_X9_aloneOf_30 ?_
        refine V_goto d_X9_aloneOf_31 ?_
        exact g0
      · have g0 := go (st.2.2 + 1) (by omega) (by dsimp only [alS]; first | rw [if_pos (decide_eq_true he)] | rw [if_neg (fun q => he (of_decide_eq_true q))])
        refine V_il7 d_X9_aloneOf_12 ?_
        refine V_ki d_X9_aloneOf_14 ?_
        refine U_ic_geN d_X9_aloneOf_16 (by omega) (by omega) (fun q => absurd q (by omega)) (fun h16 => ?_)
        refine V_al0 d_X9_aloneOf_19 ?_
        refine V_il1 d_X9_aloneOf_20 ?_
        refine V_il7 d_X9_aloneOf_21 ?_
        refine U_cv2 d_X9_aloneOf_23 (hcall i (by omega)) rfl rfl rfl ?_
        refine V_il2 d_X9_aloneOf_26 ?_
        refine V_ic_ne d_X9_aloneOf_27 (fun h27 => ?_) (fun q => (he q).elim)
        refine V_il6 d_X9_aloneOf_34 ?_
        refine V_ki d_X9_aloneOf_36 ?_
        first | with_reducible refine V_iaddN d_X9_aloneOf_37 ?_ | refine V_iadd d_X9_aloneOf_37 ?_
        exact g0
  refine Rn_of hp_X9_aloneOf [some (.ref (gB G + 22)), some (.int (nI n)), some (.int (nI x)), some (.int (nI j)), none, none, none, none] rfl (Nat.le_of_ble_eq_true rfl) (Nat.le_of_ble_eq_true rfl) ?_
  refine V_ki d_X9_aloneOf_0 ?_
  refine V_is4 d_X9_aloneOf_1 rfl ?_
  refine V_ki d_X9_aloneOf_3 ?_
  refine V_is5 d_X9_aloneOf_4 rfl ?_
  refine V_ki d_X9_aloneOf_6 ?_
  refine V_is6 d_X9_aloneOf_7 rfl ?_
  refine V_ki d_X9_aloneOf_9 ?_
  refine V_is7 d_X9_aloneOf_10 rfl ?_
  exact loop 60 0 (0, 0, 0) rfl (Nat.le_refl _) (Nat.le_refl _)
