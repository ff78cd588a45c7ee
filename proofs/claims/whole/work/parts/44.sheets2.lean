/-! sheets: make, write, read -/
def wrT (S : AS) (k base : Nat) (it : Nat → Int32) (n : Nat) : AS := (fun a b => if a = k ∧ base ≤ b ∧ b < base + n then it (b - base) else S.1 a b, S.2)
theorem wrT_1 (S : AS) (k base : Nat) (it : Nat → Int32) (n a b : Nat) : (wrT S k base it n).1 a b = if a = k ∧ base ≤ b ∧ b < base + n then it (b - base) else S.1 a b := rfl
theorem wrT_0 (S : AS) (k base : Nat) (it : Nat → Int32) : wrT S k base it 0 = S := by
  unfold wrT
  refine Prod.ext (funext fun a => funext fun b => ?_) rfl
  show (if a = k ∧ base ≤ b ∧ b < base + 0 then it (b - base) else S.1 a b) = S.1 a b
  rw [if_neg (by omega)]
theorem wrT_s (S : AS) (k base : Nat) (it : Nat → Int32) (n : Nat) : sI (wrT S k base it n) k (base + n) (it n) = wrT S k base it (n + 1) := by
  unfold wrT sI
  refine Prod.ext (funext fun a => funext fun b => ?_) rfl
  show (if a = k ∧ b = base + n then it n else if a = k ∧ base ≤ b ∧ b < base + n then it (b - base) else S.1 a b) = (if a = k ∧ base ≤ b ∧ b < base + (n + 1) then it (b - base) else S.1 a b)
  by_cases h : a = k ∧ b = base + n
  · rw [if_pos h, if_pos ⟨h.1, by omega, by omega⟩, h.2, Nat.add_sub_cancel_left]
  · rw [if_neg h]
    by_cases h2 : a = k ∧ base ≤ b ∧ b < base + n
    · rw [if_pos h2, if_pos ⟨h2.1, h2.2.1, by omega⟩]
    · rw [if_neg h2, if_neg (fun q => h2 ⟨q.1, q.2.1, by
        rcases Nat.lt_or_eq_of_le (Nat.le_of_lt_succ (show b < (base + n) + 1 by omega)) with g | g
        · exact g
        · exact absurd ⟨q.1, g⟩ h⟩)]
theorem Ag.wrT {P : Nat → Nat → Bool} {S S1 : AS} (h : Ag P S S1) {k base n : Nat} {it : Nat → Int32} (hP : ∀ b, P k b = true) : Ag P S (wrT S1 k base it n) := ⟨trivial, fun a b q => by
  rw [wrT_1, if_neg (fun z => by rw [z.1, hP] at q; cases q)]
  exact h.2 a b q⟩
theorem Ag_zrS {P : Nat → Nat → Bool} {S S1 : AS} (h : Ag P S S1) {s n : Nat} (hP : ∀ b, P 20 b = true) : Ag P S (zrS S1 s n) := ⟨trivial, fun a b q => by
  show (if a = 20 ∧ s * 48 ≤ b ∧ b < s * 48 + n then nI 0 else S1.1 a b) = S.1 a b
  rw [if_neg (fun z => by rw [z.1, hP] at q; cases q)]
  exact h.2 a b q⟩
set_option maxRecDepth 100000 in
theorem o_sheet {G : Gm} {a g n : Int32} : OPI G M_X8_sheet M_X9_sheet [.int a, .int g, .int n] := by
  intro S hS
  obtain ⟨b, sz, ft, N, w, wy, lk, nd, hx, hB, h⟩ := hS
  obtain ⟨⟨hsz, hbs⟩, hcn, hmt, hhc, hhm, hsh, hfd⟩ := id h
  have hN := PR_wf hx.2.2
  have hN8 := hN.1
  cases c0 : inR a (nI 0) (nI 3) with
  | false =>
    refine ⟨-2, S, S, ?_, ?_, ⟨b, sz, ft, N, w, wy, lk, nd, hx, hB, h⟩⟩
    · refine Rn_of hp_X8_sheet [some (.ref (gB G + 0)), some (.int a), some (.int g), some (.int n)] rfl (Nat.le_of_ble_eq_true rfl) (Nat.le_of_ble_eq_true rfl) ?_
      refine V_il1 d_X8_sheet_0 ?_
      refine U_cs1 d_X8_sheet_1 (c_X8_isSheet) rfl ?_
      refine V_eqB d_X8_sheet_4 (fun h4 => ?_) (fun q => (bTF q (c0)).elim)
      refine V_ki d_X8_sheet_20 ?_
      exact V_iret d_X8_sheet_22 rfl (by first | rfl | simp_all) rfl
    · refine Rn_of hp_X9_sheet [some (.ref (gB G + 22)), some (.int a), some (.int g), some (.int n), none] rfl (Nat.le_of_ble_eq_true rfl) (Nat.le_of_ble_eq_true rfl) ?_
      refine V_il1 d_X9_sheet_0 ?_
      refine U_cs1 d_X9_sheet_1 (c_X9_isSheet) rfl ?_
      refine V_eqB d_X9_sheet_4 (fun h4 => ?_) (fun q => (bTF q (c0)).elim)
      refine V_ki d_X9_sheet_22 ?_
      exact V_iret d_X9_sheet_24 rfl (by first | rfl | simp_all) rfl
  | true =>
    cases c1 : inR g (nI 0) (nI 2) with
    | false =>
      refine ⟨-2, S, S, ?_, ?_, ⟨b, sz, ft, N, w, wy, lk, nd, hx, hB, h⟩⟩
      · refine Rn_of hp_X8_sheet [some (.ref (gB G + 0)), some (.int a), some (.int g), some (.int n)] rfl (Nat.le_of_ble_eq_true rfl) (Nat.le_of_ble_eq_true rfl) ?_
        refine V_il1 d_X8_sheet_0 ?_
        refine U_cs1 d_X8_sheet_1 (c_X8_isSheet) rfl ?_
        refine V_eqB d_X8_sheet_4 (fun q => (bTF (c0) q).elim) (fun h4 => ?_)
        refine V_il2 d_X8_sheet_7 ?_
        refine U_cs1 d_X8_sheet_8 (c_X8_isForm) rfl ?_
        refine V_eqB d_X8_sheet_11 (fun h11 => ?_) (fun q => (bTF q (c1)).elim)
        refine V_ki d_X8_sheet_20 ?_
        exact V_iret d_X8_sheet_22 rfl (by first | rfl | simp_all) rfl
      · refine Rn_of hp_X9_sheet [some (.ref (gB G + 22)), some (.int a), some (.int g), some (.int n), none] rfl (Nat.le_of_ble_eq_true rfl) (Nat.le_of_ble_eq_true rfl) ?_
        refine V_il1 d_X9_sheet_0 ?_
        refine U_cs1 d_X9_sheet_1 (c_X9_isSheet) rfl ?_
        refine V_eqB d_X9_sheet_4 (fun q => (bTF (c0) q).elim) (fun h4 => ?_)
        refine V_il2 d_X9_sheet_7 ?_
        refine V_ki d_X9_sheet_8 ?_
        refine V_ki d_X9_sheet_9 ?_
        refine U_cs3 d_X9_sheet_10 (c_X9_in) rfl ?_
        refine V_eqB d_X9_sheet_13 (fun h13 => ?_) (fun q => (bTF q (c1)).elim)
        refine V_ki d_X9_sheet_22 ?_
        exact V_iret d_X9_sheet_24 rfl (by first | rfl | simp_all) rfl
    | true =>
      by_cases hn : n ≤ nI 48
      · by_cases h0 : 0 ≤ n
        · obtain ⟨s, hs3, rfl⟩ := inR_ex (by decide) c0
          obtain ⟨f, hf, rfl⟩ := inR_ex (by decide) c1
          rcases i_cases n 48 (by decide) with ⟨k, hk, rfl⟩ | hc
          · have hmk := c_X5_make (G := G) (S := S) (s := s) (f := f) (n := k) (by omega) hf hk
            have hst : ST (wrT (sI (sI (sI (zrS (sI (sI S 18 s (nI f)) 19 s (nI k)) s k) 30 s (nI 1)) 31 s (nI f)) 32 s (nI k)) 33 (48 * s) (fun _ => nI 0) 48) b sz ft N w wy lk nd := by
              refine ST_sh h ((((Ag_zrS ((Ag.rf.sI rfl).sI rfl) (fun _ => rfl)).sI rfl).sI rfl).sI rfl |>.wrT (fun _ => rfl)) (SHv_upd (s := s) hsh (fun s' h1 h2 => ⟨?_, ?_, ?_, ?_, ?_, fun i hi => ⟨?_, ?_⟩⟩) (Or.inr ⟨f, k, hf, hk, ?_, ?_, ?_, ?_, ?_, fun i hi => ?_⟩)) hfd
              · show (if 18 = 18 ∧ s' = s then nI f else S.1 18 s') = S.1 18 s'
                rw [if_neg (fun z => h2 z.2)]
              · show (if 19 = 19 ∧ s' = s then nI k else S.1 19 s') = S.1 19 s'
                rw [if_neg (fun z => h2 z.2)]
              · show (if 30 = 30 ∧ s' = s then nI 1 else S.1 30 s') = S.1 30 s'
                rw [if_neg (fun z => h2 z.2)]
              · show (if 31 = 31 ∧ s' = s then nI f else S.1 31 s') = S.1 31 s'
                rw [if_neg (fun z => h2 z.2)]
              · show (if 32 = 32 ∧ s' = s then nI k else S.1 32 s') = S.1 32 s'
                rw [if_neg (fun z => h2 z.2)]
              · show (if 20 = 20 ∧ s * 48 ≤ s' * 48 + i ∧ s' * 48 + i < s * 48 + k then nI 0 else S.1 20 (s' * 48 + i)) = S.1 20 (s' * 48 + i)
                rw [if_neg (fun z => h2 (by omega))]
              · show (if 33 = 33 ∧ 48 * s ≤ 48 * s' + i ∧ 48 * s' + i < 48 * s + 48 then nI 0 else S.1 33 (48 * s' + i)) = S.1 33 (48 * s' + i)
                rw [if_neg (fun z => h2 (by omega))]
              · show (if 18 = 18 ∧ s = s then nI f else S.1 18 s) = nI f
                rw [if_pos ⟨rfl, rfl⟩]
              · show (if 31 = 31 ∧ s = s then nI f else S.1 31 s) = nI f
                rw [if_pos ⟨rfl, rfl⟩]
              · show (if 30 = 30 ∧ s = s then nI 1 else S.1 30 s) = nI 1
                rw [if_pos ⟨rfl, rfl⟩]
              · show (if 19 = 19 ∧ s = s then nI k else S.1 19 s) = nI k
                rw [if_pos ⟨rfl, rfl⟩]
              · show (if 32 = 32 ∧ s = s then nI k else S.1 32 s) = nI k
                rw [if_pos ⟨rfl, rfl⟩]
              · show (if 33 = 33 ∧ 48 * s ≤ 48 * s + i ∧ 48 * s + i < 48 * s + 48 then nI 0 else S.1 33 (48 * s + i)) = (if 20 = 20 ∧ s * 48 ≤ s * 48 + i ∧ s * 48 + i < s * 48 + k then nI 0 else S.1 20 (s * 48 + i)) ∧ nrI f (if 20 = 20 ∧ s * 48 ≤ s * 48 + i ∧ s * 48 + i < s * 48 + k then nI 0 else S.1 20 (s * 48 + i)) = (if 20 = 20 ∧ s * 48 ≤ s * 48 + i ∧ s * 48 + i < s * 48 + k then nI 0 else S.1 20 (s * 48 + i))
                rw [if_pos ⟨rfl, by omega, by omega⟩, if_pos ⟨rfl, by omega, by omega⟩]
                exact ⟨rfl, nrI_0 f⟩
            have loop : ∀ d i, i + d = 48 → U G M_X9_sheet (Ze G (some (.int (nI k))) (wrT (sI (sI (sI (zrS (sI (sI S 18 s (nI f)) 19 s (nI k)) s k) 30 s (nI 1)) 31 s (nI f)) 32 s (nI k)) 33 (48 * s) (fun _ => nI 0) 48)) 59 [some (.ref (gB G + 22)), some (.int (nI s)), some (.int (nI f)), some (.int (nI k)), some (.int (nI i))] [] (wrT (sI (sI (sI (zrS (sI (sI S 18 s (nI f)) 19 s (nI k)) s k) 30 s (nI 1)) 31 s (nI f)) 32 s (nI k)) 33 (48 * s) (fun _ => nI 0) i) := by
              intro d
              induction d with
              | zero =>
                intro i hi
                rw [Nat.add_zero] at hi
                subst hi
                refine V_il4 d_X9_sheet_59 ?_
                refine V_ki d_X9_sheet_61 ?_
                refine U_ic_geN d_X9_sheet_63 (by omega) (by omega) (fun h63 => ?_) (fun q => absurd q (by omega))
                refine V_il3 d_X9_sheet_85 ?_
                exact V_iret d_X9_sheet_86 rfl (by first | rfl | simp_all) rfl
              | succ d ih =>
                intro i hi
                have r1 := ih (i + 1) (by omega)
                rw [← wrT_s _ 33 (48 * s) (fun _ => nI 0) i] at r1
                refine V_il4 d_X9_sheet_59 ?_
                refine V_ki d_X9_sheet_61 ?_
                refine U_ic_geN d_X9_sheet_63 (by omega) (by omega) (fun q => absurd q (by omega)) (fun h63 => ?_)
                refine V_al0 d_X9_sheet_66 ?_
                refine V_getR d_X9_sheet_67 rfl rfl (by decide) rfl ?_
                refine V_ki d_X9_sheet_70 ?_
                refine V_il1 d_X9_sheet_72 ?_
                first | with_reducible refine V_imulN d_X9_sheet_73 ?_ | refine V_imul d_X9_sheet_73 ?_
                refine V_il4 d_X9_sheet_74 ?_
                first | with_reducible refine V_iaddN d_X9_sheet_76 ?_ | refine V_iadd d_X9_sheet_76 ?_
                refine V_ki d_X9_sheet_77 ?_
                refine V_iast d_X9_sheet_78 rfl (by decide) rfl (show 48 * s + i < 192 by omega) ?_
                refine V_icN4 d_X9_sheet_79 rfl ?_
                refine V_goto d_X9_sheet_82 ?_
                exact r1
            have l0 := loop 48 0 (Nat.zero_add _)
            rw [wrT_0] at l0
            refine ⟨nI k, zrS (sI (sI S 18 s (nI f)) 19 s (nI k)) s k, wrT (sI (sI (sI (zrS (sI (sI S 18 s (nI f)) 19 s (nI k)) s k) 30 s (nI 1)) 31 s (nI f)) 32 s (nI k)) 33 (48 * s) (fun _ => nI 0) 48, ?_, ?_, ⟨b, sz, ft, N, w, wy, lk, nd, hx, hB, hst⟩⟩
            · refine Rn_of hp_X8_sheet [some (.ref (gB G + 0)), some (.int (nI s)), some (.int (nI f)), some (.int (nI k))] rfl (Nat.le_of_ble_eq_true rfl) (Nat.le_of_ble_eq_true rfl) ?_
              refine V_il1 d_X8_sheet_0 ?_
              refine U_cs1 d_X8_sheet_1 (c_X8_isSheet) rfl ?_
              refine V_eqB d_X8_sheet_4 (fun q => (bTF (c0) q).elim) (fun h4 => ?_)
              refine V_il2 d_X8_sheet_7 ?_
              refine U_cs1 d_X8_sheet_8 (c_X8_isForm) rfl ?_
              refine V_eqB d_X8_sheet_11 (fun q => (bTF (c1) q).elim) (fun h11 => ?_)
              refine V_il3 d_X8_sheet_14 ?_
              refine V_ki d_X8_sheet_15 ?_
              refine V_ic_le d_X8_sheet_17 (fun h17 => ?_) (fun q => absurd hn q)
              refine V_il3 d_X8_sheet_23 ?_
              refine V_if_ge d_X8_sheet_24 (fun h24 => ?_) (fun q => absurd h0 q)
              refine V_al0 d_X8_sheet_36 ?_
              refine V_getR d_X8_sheet_37 rfl rfl (by decide) rfl ?_
              refine V_il1 d_X8_sheet_40 ?_
              refine V_il2 d_X8_sheet_41 ?_
              refine V_il3 d_X8_sheet_42 ?_
              refine U_cv3v d_X8_sheet_43 (hmk) rfl rfl rfl ?_
              refine V_il3 d_X8_sheet_46 ?_
              exact V_iret d_X8_sheet_47 rfl (by first | rfl | simp_all) rfl
            · refine Rn_of hp_X9_sheet [some (.ref (gB G + 22)), some (.int (nI s)), some (.int (nI f)), some (.int (nI k)), none] rfl (Nat.le_of_ble_eq_true rfl) (Nat.le_of_ble_eq_true rfl) ?_
              refine V_il1 d_X9_sheet_0 ?_
              refine U_cs1 d_X9_sheet_1 (c_X9_isSheet) rfl ?_
              refine V_eqB d_X9_sheet_4 (fun q => (bTF (c0) q).elim) (fun h4 => ?_)
              refine V_il2 d_X9_sheet_7 ?_
              refine V_ki d_X9_sheet_8 ?_
              refine V_ki d_X9_sheet_9 ?_
              refine U_cs3 d_X9_sheet_10 (c_X9_in) rfl ?_
              refine V_eqB d_X9_sheet_13 (fun q => (bTF (c1) q).elim) (fun h13 => ?_)
              refine V_il3 d_X9_sheet_16 ?_
              refine V_ki d_X9_sheet_17 ?_
              refine V_ic_le d_X9_sheet_19 (fun h19 => ?_) (fun q => absurd hn q)
              refine V_il3 d_X9_sheet_25 ?_
              refine V_if_ge d_X9_sheet_26 (fun h26 => ?_) (fun q => absurd h0 q)
              refine V_al0 d_X9_sheet_35 ?_
              refine V_getR d_X9_sheet_36 rfl rfl (by decide) rfl ?_
              refine V_il1 d_X9_sheet_39 ?_
              refine V_ki d_X9_sheet_40 ?_
              refine V_zast d_X9_sheet_41 rfl (by decide) rfl (show s < 4 by omega) rfl ?_
              refine V_al0 d_X9_sheet_42 ?_
              refine V_getR d_X9_sheet_43 rfl rfl (by decide) rfl ?_
              refine V_il1 d_X9_sheet_46 ?_
              refine V_il2 d_X9_sheet_47 ?_
              refine V_iast d_X9_sheet_48 rfl (by decide) rfl (show s < 4 by omega) ?_
              refine V_al0 d_X9_sheet_49 ?_
              refine V_getR d_X9_sheet_50 rfl rfl (by decide) rfl ?_
              refine V_il1 d_X9_sheet_53 ?_
              refine V_il3 d_X9_sheet_54 ?_
              refine V_iast d_X9_sheet_55 rfl (by decide) rfl (show s < 4 by omega) ?_
              refine V_ki d_X9_sheet_56 ?_
              refine V_is4 d_X9_sheet_57 rfl ?_
              exact l0
          · exact absurd ⟨h0, hn⟩ hc
        · skip
          refine ⟨(-10 : Int32) - nI 5, sI S 17 4 (nI 5), sI (sI S 17 4 (nI 5)) 22 17 (nI 5), ?_, ?_, ⟨b, sz, ft, N, w, wy, lk, nd, hx, hB, ST_fd h⟩⟩
          · refine Rn_of hp_X8_sheet [some (.ref (gB G + 0)), some (.int a), some (.int g), some (.int n)] rfl (Nat.le_of_ble_eq_true rfl) (Nat.le_of_ble_eq_true rfl) ?_
            refine V_il1 d_X8_sheet_0 ?_
            refine U_cs1 d_X8_sheet_1 (c_X8_isSheet) rfl ?_
            refine V_eqB d_X8_sheet_4 (fun q => (bTF (c0) q).elim) (fun h4 => ?_)
            refine V_il2 d_X8_sheet_7 ?_
            refine U_cs1 d_X8_sheet_8 (c_X8_isForm) rfl ?_
            refine V_eqB d_X8_sheet_11 (fun q => (bTF (c1) q).elim) (fun h11 => ?_)
            refine V_il3 d_X8_sheet_14 ?_
            refine V_ki d_X8_sheet_15 ?_
            refine V_ic_le d_X8_sheet_17 (fun h17 => ?_) (fun q => absurd hn q)
            refine V_il3 d_X8_sheet_23 ?_
            refine V_if_ge d_X8_sheet_24 (fun q => absurd q h0) (fun h24 => ?_)
            refine V_al0 d_X8_sheet_27 ?_
            refine V_getR d_X8_sheet_28 rfl rfl (by decide) rfl ?_
            refine V_ki d_X8_sheet_31 ?_
            refine U_cv1 d_X8_sheet_32 (c_X5_found) rfl rfl rfl ?_
            exact V_iret d_X8_sheet_35 rfl (by first | rfl | simp_all) rfl
          · refine Rn_of hp_X9_sheet [some (.ref (gB G + 22)), some (.int a), some (.int g), some (.int n), none] rfl (Nat.le_of_ble_eq_true rfl) (Nat.le_of_ble_eq_true rfl) ?_
            refine V_il1 d_X9_sheet_0 ?_
            refine U_cs1 d_X9_sheet_1 (c_X9_isSheet) rfl ?_
            refine V_eqB d_X9_sheet_4 (fun q => (bTF (c0) q).elim) (fun h4 => ?_)
            refine V_il2 d_X9_sheet_7 ?_
            refine V_ki d_X9_sheet_8 ?_
            refine V_ki d_X9_sheet_9 ?_
            refine U_cs3 d_X9_sheet_10 (c_X9_in) rfl ?_
            refine V_eqB d_X9_sheet_13 (fun q => (bTF (c1) q).elim) (fun h13 => ?_)
            refine V_il3 d_X9_sheet_16 ?_
            refine V_ki d_X9_sheet_17 ?_
            refine V_ic_le d_X9_sheet_19 (fun h19 => ?_) (fun q => absurd hn q)
            refine V_il3 d_X9_sheet_25 ?_
            refine V_if_ge d_X9_sheet_26 (fun q => absurd q h0) (fun h26 => ?_)
            refine V_al0 d_X9_sheet_29 ?_
            refine V_ki d_X9_sheet_30 ?_
            refine U_cv1 d_X9_sheet_31 (c_X9_meets) rfl rfl rfl ?_
            exact V_iret d_X9_sheet_34 rfl (by first | rfl | simp_all) rfl
      · skip
        refine ⟨-2, S, S, ?_, ?_, ⟨b, sz, ft, N, w, wy, lk, nd, hx, hB, h⟩⟩
        · refine Rn_of hp_X8_sheet [some (.ref (gB G + 0)), some (.int a), some (.int g), some (.int n)] rfl (Nat.le_of_ble_eq_true rfl) (Nat.le_of_ble_eq_true rfl) ?_
          refine V_il1 d_X8_sheet_0 ?_
          refine U_cs1 d_X8_sheet_1 (c_X8_isSheet) rfl ?_
          refine V_eqB d_X8_sheet_4 (fun q => (bTF (c0) q).elim) (fun h4 => ?_)
          refine V_il2 d_X8_sheet_7 ?_
          refine U_cs1 d_X8_sheet_8 (c_X8_isForm) rfl ?_
          refine V_eqB d_X8_sheet_11 (fun q => (bTF (c1) q).elim) (fun h11 => ?_)
          refine V_il3 d_X8_sheet_14 ?_
          refine V_ki d_X8_sheet_15 ?_
          refine V_ic_le d_X8_sheet_17 (fun q => absurd q hn) (fun h17 => ?_)
          refine V_ki d_X8_sheet_20 ?_
          exact V_iret d_X8_sheet_22 rfl (by first | rfl | simp_all) rfl
        · refine Rn_of hp_X9_sheet [some (.ref (gB G + 22)), some (.int a), some (.int g), some (.int n), none] rfl (Nat.le_of_ble_eq_true rfl) (Nat.le_of_ble_eq_true rfl) ?_
          refine V_il1 d_X9_sheet_0 ?_
          refine U_cs1 d_X9_sheet_1 (c_X9_isSheet) rfl ?_
          refine V_eqB d_X9_sheet_4 (fun q => (bTF (c0) q).elim) (fun h4 => ?_)
          refine V_il2 d_X9_sheet_7 ?_
          refine V_ki d_X9_sheet_8 ?_
          refine V_ki d_X9_sheet_9 ?_
          refine U_cs3 d_X9_sheet_10 (c_X9_in) rfl ?_
          refine V_eqB d_X9_sheet_13 (fun q => (bTF (c1) q).elim) (fun h13 => ?_)
          refine V_il3 d_X9_sheet_16 ?_
          refine V_ki d_X9_sheet_17 ?_
          refine V_ic_le d_X9_sheet_19 (fun q => absurd q hn) (fun h19 => ?_)
          refine V_ki d_X9_sheet_22 ?_
          exact V_iret d_X9_sheet_24 rfl (by first | rfl | simp_all) rfl
def rdE (it : Nat → Int32) (z : Nat) : Nat → Nat → Nat
  | 0, i => i
  | d + 1, i => if i < z ∧ inR (it i) (nI 0) (nI 99) = true then rdE it z d (i + 1) else i
theorem rdE_in (it : Nat → Int32) (z : Nat) : ∀ d i, i ≤ rdE it z d i ∧ rdE it z d i ≤ i + d ∧ ∀ j, i ≤ j → j < rdE it z d i → inR (it j) (nI 0) (nI 99) = true
  | 0, i => ⟨Nat.le_refl _, Nat.le_refl _, fun j h1 h2 => absurd h1 (Nat.not_le.mpr h2)⟩
  | d + 1, i => by
    rw [rdE]
    by_cases c : i < z ∧ inR (it i) (nI 0) (nI 99) = true
    · rw [if_pos c]
      obtain ⟨h1, h2, h3⟩ := rdE_in it z d (i + 1)
      refine ⟨by omega, by omega, fun j j1 j2 => ?_⟩
      rcases Nat.eq_or_lt_of_le j1 with e | e
      · rw [← e]; exact c.2
      · exact h3 j e j2
    · rw [if_neg c]
      exact ⟨Nat.le_refl _, by omega, fun j h1 h2 => absurd h1 (Nat.not_le.mpr h2)⟩
set_option maxRecDepth 100000 in
theorem o_read {G : Gm} {a : Int32} : OPI G M_X8_read M_X9_read [.int a] := by
  intro S hS
  obtain ⟨b, sz, ft, N, w, wy, lk, nd, hx, hB, h⟩ := hS
  obtain ⟨⟨hsz, hbs⟩, hcn, hmt, hhc, hhm, hsh, hfd⟩ := id h
  have hN := PR_wf hx.2.2
  have hN8 := hN.1
  cases c0 : inR a (nI 0) (nI 3) with
  | false =>
    refine ⟨-2, S, S, ?_, ?_, ⟨b, sz, ft, N, w, wy, lk, nd, hx, hB, h⟩⟩
    · refine Rn_of hp_X8_read [some (.ref (gB G + 0)), some (.int a), none] rfl (Nat.le_of_ble_eq_true rfl) (Nat.le_of_ble_eq_true rfl) ?_
      refine V_il1 d_X8_read_0 ?_
      refine U_cs1 d_X8_read_1 (c_X8_isSheet) rfl ?_
      refine V_neB d_X8_read_4 (fun q => (bTF q (c0)).elim) (fun h4 => ?_)
      refine V_ki d_X8_read_7 ?_
      exact V_iret d_X8_read_9 rfl (by first | rfl | simp_all) rfl
    · refine Rn_of hp_X9_read [some (.ref (gB G + 22)), some (.int a), none] rfl (Nat.le_of_ble_eq_true rfl) (Nat.le_of_ble_eq_true rfl) ?_
      refine V_il1 d_X9_read_0 ?_
      refine U_cs1 d_X9_read_1 (c_X9_isSheet) rfl ?_
      refine V_neB d_X9_read_4 (fun q => (bTF q (c0)).elim) (fun h4 => ?_)
      refine V_ki d_X9_read_7 ?_
      exact V_iret d_X9_read_9 rfl (by first | rfl | simp_all) rfl
  | true =>
    obtain ⟨s, hs3, rfl⟩ := inR_ex (by decide) c0
    have hL := c_X5_isLost (G := G) (S := S) (s := s) (by omega)
    rcases hsh s (by omega) with ⟨g1, g2⟩ | ⟨f, z, g1, g2, g3, g4, g5, g6, g7, g8⟩
    · rw [decide_eq_true g1] at hL
      refine ⟨(-10 : Int32) - nI 1, sI S 17 4 (nI 1), sI (sI S 17 4 (nI 1)) 22 17 (nI 1), ?_, ?_, ⟨b, sz, ft, N, w, wy, lk, nd, hx, hB, ST_fd h⟩⟩
      · refine Rn_of hp_X8_read [some (.ref (gB G + 0)), some (.int (nI s)), none] rfl (Nat.le_of_ble_eq_true rfl) (Nat.le_of_ble_eq_true rfl) ?_
        refine V_il1 d_X8_read_0 ?_
        refine U_cs1 d_X8_read_1 (c_X8_isSheet) rfl ?_
        refine V_neB d_X8_read_4 (fun h4 => ?_) (fun q => (bTF (c0) q).elim)
        refine V_al0 d_X8_read_10 ?_
        refine V_getR d_X8_read_11 rfl rfl (by decide) rfl ?_
        refine V_il1 d_X8_read_14 ?_
        refine U_cv1 d_X8_read_15 (hL) rfl rfl rfl ?_
        refine V_eqB d_X8_read_18 (fun q => (bTF (rfl) q).elim) (fun h18 => ?_)
        refine V_al0 d_X8_read_21 ?_
        refine V_getR d_X8_read_22 rfl rfl (by decide) rfl ?_
        refine V_ki d_X8_read_25 ?_
        refine U_cv1 d_X8_read_26 (c_X5_found) rfl rfl rfl ?_
        exact V_iret d_X8_read_29 rfl (by first | rfl | simp_all) rfl
      · refine Rn_of hp_X9_read [some (.ref (gB G + 22)), some (.int (nI s)), none] rfl (Nat.le_of_ble_eq_true rfl) (Nat.le_of_ble_eq_true rfl) ?_
        refine V_il1 d_X9_read_0 ?_
        refine U_cs1 d_X9_read_1 (c_X9_isSheet) rfl ?_
        refine V_neB d_X9_read_4 (fun h4 => ?_) (fun q => (bTF (c0) q).elim)
        refine V_al0 d_X9_read_10 ?_
        refine V_getR d_X9_read_11 rfl rfl (by decide) rfl ?_
        refine V_il1 d_X9_read_14 ?_
        refine V_zald d_X9_read_15 rfl (by decide) rfl (by omega) ?_
        refine V_topi (show (sI S 17 4 (nI 1)).1 30 s = nI 0 from g2) ?_
        refine V_if_ne d_X9_read_16 (fun q => absurd rfl q) (fun h16 => ?_)
        refine V_al0 d_X9_read_19 ?_
        refine V_ki d_X9_read_20 ?_
        refine U_cv1 d_X9_read_21 (c_X9_meets) rfl rfl rfl ?_
        exact V_iret d_X9_read_24 rfl (by first | rfl | simp_all) rfl
    · rw [decide_eq_false (by rw [g3]; exact nI_m1 (by omega))] at hL
      have loop8 : ∀ d i, i + d = 6 → U G M_X8_read (Ze G (some (.int (nI (rdE (fun i => S.1 20 (s * 48 + i)) z d i)))) (wrT S 2 0 (fun i => S.1 20 (s * 48 + i)) (rdE (fun i => S.1 20 (s * 48 + i)) z d i))) 32 [some (.ref (gB G + 0)), some (.int (nI s)), some (.int (nI i))] [] (wrT S 2 0 (fun i => S.1 20 (s * 48 + i)) i) := by
        intro d
        induction d with
        | zero =>
          intro i hi
          rw [Nat.add_zero] at hi
          subst hi
          refine V_il2 d_X8_read_32 ?_
          refine V_ki d_X8_read_33 ?_
          refine U_ic_geN d_X8_read_35 (by omega) (by omega) (fun h35 => ?_) (fun q => absurd q (by omega))
          refine V_il2 d_X8_read_89 ?_
          exact V_iret d_X8_read_90 rfl (by first | rfl | simp_all) rfl
        | succ d ih =>
          intro i hi
          have hz := c_X5_sizeOf (G := G) (S := wrT S 2 0 (fun i => S.1 20 (s * 48 + i)) i) (s := s) (by omega)
          have e19 : (wrT S 2 0 (fun i => S.1 20 (s * 48 + i)) i).1 19 s = nI z := g6
          rw [e19] at hz
          have hi1 : Rm G M_X5_itemOf [.ref (gB G + 17), .int (nI s), .int (nI i)] (wrT S 2 0 (fun i => S.1 20 (s * 48 + i)) i) (some (.int (S.1 20 (s * 48 + i)))) (wrT S 2 0 (fun i => S.1 20 (s * 48 + i)) i) := c_X5_itemOf (by omega) (by omega)
          have hch := c_X3_changeWorth (G := G) (S := wrT S 2 0 (fun i => S.1 20 (s * 48 + i)) i) (i := i) (v := S.1 20 (s * 48 + i)) (by omega)
          rw [rdE]
          by_cases d1 : i < z
          · by_cases d2 : inR (S.1 20 (s * 48 + i)) (nI 0) (nI 99) = true
            · rw [if_pos ⟨d1, d2⟩]
              have r1 := ih (i + 1) (by omega)
              rw [← wrT_s S 2 0 (fun i => S.1 20 (s * 48 + i)) i, Nat.zero_add] at r1
              refine V_il2 d_X8_read_32 ?_
              refine V_ki d_X8_read_33 ?_
              refine U_ic_geN d_X8_read_35 (by omega) (by omega) (fun q => absurd q (by omega)) (fun h35 => ?_)
              refine V_il2 d_X8_read_38 ?_
              refine V_al0 d_X8_read_39 ?_
              refine V_getR d_X8_read_40 rfl rfl (by decide) rfl ?_
              refine V_il1 d_X8_read_43 ?_
              refine U_cv1 d_X8_read_44 (hz) rfl rfl rfl ?_
              refine U_ic_geN d_X8_read_47 (by omega) (by omega) (fun q => absurd q (by omega)) (fun h47 => ?_)
              refine V_al0 d_X8_read_50 ?_
              refine V_getR d_X8_read_51 rfl rfl (by decide) rfl ?_
              refine V_il1 d_X8_read_54 ?_
              refine V_il2 d_X8_read_55 ?_
              refine U_cv2 d_X8_read_56 (hi1) rfl rfl rfl ?_
              refine U_cs1 d_X8_read_59 (c_X8_isWorth) rfl ?_
              refine V_eqB d_X8_read_62 (fun q => (bTF (d2) q).elim) (fun h62 => ?_)
              refine V_al0 d_X8_read_65 ?_
              refine V_getR d_X8_read_66 rfl rfl (by decide) rfl ?_
              refine V_il2 d_X8_read_69 ?_
              refine V_al0 d_X8_read_70 ?_
              refine V_getR d_X8_read_71 rfl rfl (by decide) rfl ?_
              refine V_il1 d_X8_read_74 ?_
              refine V_il2 d_X8_read_75 ?_
              refine U_cv2 d_X8_read_76 (hi1) rfl rfl rfl ?_
              refine U_cv2 d_X8_read_79 (hch) rfl rfl rfl ?_
              refine V_pop d_X8_read_82 rfl ?_
              refine V_icN2 d_X8_read_83 rfl ?_
              refine V_goto d_X8_read_86 ?_
              exact r1
            · rw [if_neg (fun q => d2 q.2)]
              refine V_il2 d_X8_read_32 ?_
              refine V_ki d_X8_read_33 ?_
              refine U_ic_geN d_X8_read_35 (by omega) (by omega) (fun q => absurd q (by omega)) (fun h35 => ?_)
              refine V_il2 d_X8_read_38 ?_
              refine V_al0 d_X8_read_39 ?_
              refine V_getR d_X8_read_40 rfl rfl (by decide) rfl ?_
              refine V_il1 d_X8_read_43 ?_
              refine U_cv1 d_X8_read_44 (hz) rfl rfl rfl ?_
              refine U_ic_geN d_X8_read_47 (by omega) (by omega) (fun q => absurd q (by omega)) (fun h47 => ?_)
              refine V_al0 d_X8_read_50 ?_
              refine V_getR d_X8_read_51 rfl rfl (by decide) rfl ?_
              refine V_il1 d_X8_read_54 ?_
              refine V_il2 d_X8_read_55 ?_
              refine U_cv2 d_X8_read_56 (hi1) rfl rfl rfl ?_
              refine U_cs1 d_X8_read_59 (c_X8_isWorth) rfl ?_
              refine V_eqB d_X8_read_62 (fun h62 => ?_) (fun q => (bTF q (bNT d2)).elim)
              refine V_il2 d_X8_read_89 ?_
              exact V_iret d_X8_read_90 rfl (by first | rfl | simp_all) rfl
          · rw [if_neg (fun q => d1 q.1)]
            refine V_il2 d_X8_read_32 ?_
            refine V_ki d_X8_read_33 ?_
            refine U_ic_geN d_X8_read_35 (by omega) (by omega) (fun q => absurd q (by omega)) (fun h35 => ?_)
            refine V_il2 d_X8_read_38 ?_
            refine V_al0 d_X8_read_39 ?_
            refine V_getR d_X8_read_40 rfl rfl (by decide) rfl ?_
            refine V_il1 d_X8_read_43 ?_
            refine U_cv1 d_X8_read_44 (hz) rfl rfl rfl ?_
            refine U_ic_geN d_X8_read_47 (by omega) (by omega) (fun h47 => ?_) (fun q => absurd q (by omega))
            refine V_il2 d_X8_read_89 ?_
            exact V_iret d_X8_read_90 rfl (by first | rfl | simp_all) rfl
      have l8 := loop8 6 0 rfl
      rw [wrT_0] at l8
      have loop9 : ∀ (T : AS), (∀ i, i < z → T.1 33 (48 * s + i) = S.1 20 (s * 48 + i)) → T.1 32 s = nI z → ∀ d i, i + d = 6 → U G M_X9_read (Ze G (some (.int (nI (rdE (fun i => S.1 20 (s * 48 + i)) z d i)))) (wrT T 26 0 (fun i => S.1 20 (s * 48 + i)) (rdE (fun i => S.1 20 (s * 48 + i)) z d i))) 27 [some (.ref (gB G + 22)), some (.int (nI s)), some (.int (nI i))] [] (wrT T 26 0 (fun i => S.1 20 (s * 48 + i)) i) := by
        intro T hT1 hT2 d
        induction d with
        | zero =>
          intro i hi
          rw [Nat.add_zero] at hi
          subst hi
          have hT3 : (wrT T 26 0 (fun i => S.1 20 (s * 48 + i)) 6).1 32 s = nI z := hT2
          by_cases d1 : 6 < z
          · refine V_il2 d_X9_read_27 ?_
            refine V_al0 d_X9_read_28 ?_
            refine V_getR d_X9_read_29 rfl rfl (by decide) rfl ?_
            refine V_il1 d_X9_read_32 ?_
            refine V_ialdE d_X9_read_33 rfl (by decide) rfl (show s < 4 by omega) hT3 ?_
            refine U_ic_geN d_X9_read_34 (by omega) (by omega) (fun q => absurd q (by omega)) (fun h34 => ?_)
            refine V_il2 d_X9_read_37 ?_
            refine V_ki d_X9_read_38 ?_
            refine U_ic_geN d_X9_read_40 (by omega) (by omega) (fun h40 => ?_) (fun q => absurd q (by omega))
            refine V_il2 d_X9_read_86 ?_
            exact V_iret d_X9_read_87 rfl (by first | rfl | simp_all) rfl
          · refine V_il2 d_X9_read_27 ?_
            refine V_al0 d_X9_read_28 ?_
            refine V_getR d_X9_read_29 rfl rfl (by decide) rfl ?_
            refine V_il1 d_X9_read_32 ?_
            refine V_ialdE d_X9_read_33 rfl (by decide) rfl (show s < 4 by omega) hT3 ?_
            refine U_ic_geN d_X9_read_34 (by omega) (by omega) (fun h34 => ?_) (fun q => absurd q (by omega))
            refine V_il2 d_X9_read_86 ?_
            exact V_iret d_X9_read_87 rfl (by first | rfl | simp_all) rfl
        | succ d ih =>
          intro i hi
          have hT3 : (wrT T 26 0 (fun i => S.1 20 (s * 48 + i)) i).1 32 s = nI z := hT2
          rw [rdE]
          by_cases d1 : i < z
          · have hT4 : (wrT T 26 0 (fun i => S.1 20 (s * 48 + i)) i).1 33 (48 * s + i) = S.1 20 (s * 48 + i) := hT1 i d1
            by_cases d2 : inR (S.1 20 (s * 48 + i)) (nI 0) (nI 99) = true
            · rw [if_pos ⟨d1, d2⟩]
              have r1 := ih (i + 1) (by omega)
              rw [← wrT_s T 26 0 (fun i => S.1 20 (s * 48 + i)) i, Nat.zero_add] at r1
              refine V_il2 d_X9_read_27 ?_
              refine V_al0 d_X9_read_28 ?_
              refine V_getR d_X9_read_29 rfl rfl (by decide) rfl ?_
              refine V_il1 d_X9_read_32 ?_
              refine V_ialdE d_X9_read_33 rfl (by decide) rfl (show s < 4 by omega) hT3 ?_
              refine U_ic_geN d_X9_read_34 (by omega) (by omega) (fun q => absurd q (by omega)) (fun h34 => ?_)
              refine V_il2 d_X9_read_37 ?_
              refine V_ki d_X9_read_38 ?_
              refine U_ic_geN d_X9_read_40 (by omega) (by omega) (fun q => absurd q (by omega)) (fun h40 => ?_)
              refine V_al0 d_X9_read_43 ?_
              refine V_getR d_X9_read_44 rfl rfl (by decide) rfl ?_
              refine V_ki d_X9_read_47 ?_
              refine V_il1 d_X9_read_49 ?_
              first | with_reducible refine V_imulN d_X9_read_50 ?_ | refine V_imul d_X9_read_50 ?_
              refine V_il2 d_X9_read_51 ?_
              first | with_reducible refine V_iaddN d_X9_read_52 ?_ | refine V_iadd d_X9_read_52 ?_
              refine V_ialdE d_X9_read_53 rfl (by decide) rfl (show 48 * s + i < 192 by omega) hT4 ?_
              refine V_ki d_X9_read_54 ?_
              refine V_ki d_X9_read_55 ?_
              refine U_cs3 d_X9_read_57 (c_X9_in) rfl ?_
              refine V_eqB d_X9_read_60 (fun q => (bTF (d2) q).elim) (fun h60 => ?_)
              refine V_al0 d_X9_read_63 ?_
              refine V_getR d_X9_read_64 rfl rfl (by decide) rfl ?_
              refine V_il2 d_X9_read_67 ?_
              refine V_al0 d_X9_read_68 ?_
              refine V_getR d_X9_read_69 rfl rfl (by decide) rfl ?_
              refine V_ki d_X9_read_72 ?_
              refine V_il1 d_X9_read_74 ?_
              first | with_reducible refine V_imulN d_X9_read_75 ?_ | refine V_imul d_X9_read_75 ?_
              refine V_il2 d_X9_read_76 ?_
              first | with_reducible refine V_iaddN d_X9_read_77 ?_ | refine V_iadd d_X9_read_77 ?_
              refine V_ialdE d_X9_read_78 rfl (by decide) rfl (show 48 * s + i < 192 by omega) hT4 ?_
              refine V_iast d_X9_read_79 rfl (by decide) rfl (show i < 6 by omega) ?_
              refine V_icN2 d_X9_read_80 rfl ?_
              refine V_goto d_X9_read_83 ?_
              exact r1
            · rw [if_neg (fun q => d2 q.2)]
              refine V_il2 d_X9_read_27 ?_
              refine V_al0 d_X9_read_28 ?_
              refine V_getR d_X9_read_29 rfl rfl (by decide) rfl ?_
              refine V_il1 d_X9_read_32 ?_
              refine V_ialdE d_X9_read_33 rfl (by decide) rfl (show s < 4 by omega) hT3 ?_
              refine U_ic_geN d_X9_read_34 (by omega) (by omega) (fun q => absurd q (by omega)) (fun h34 => ?_)
              refine V_il2 d_X9_read_37 ?_
              refine V_ki d_X9_read_38 ?_
              refine U_ic_geN d_X9_read_40 (by omega) (by omega) (fun q => absurd q (by omega)) (fun h40 => ?_)
              refine V_al0 d_X9_read_43 ?_
              refine V_getR d_X9_read_44 rfl rfl (by decide) rfl ?_
              refine V_ki d_X9_read_47 ?_
              refine V_il1 d_X9_read_49 ?_
              first | with_reducible refine V_imulN d_X9_read_50 ?_ | refine V_imul d_X9_read_50 ?_
              refine V_il2 d_X9_read_51 ?_
              first | with_reducible refine V_iaddN d_X9_read_52 ?_ | refine V_iadd d_X9_read_52 ?_
              refine V_ialdE d_X9_read_53 rfl (by decide) rfl (show 48 * s + i < 192 by omega) hT4 ?_
              refine V_ki d_X9_read_54 ?_
              refine V_ki d_X9_read_55 ?_
              refine U_cs3 d_X9_read_57 (c_X9_in) rfl ?_
              refine V_eqB d_X9_read_60 (fun h60 => ?_) (fun q => (bTF q (bNT d2)).elim)
              refine V_il2 d_X9_read_86 ?_
              exact V_iret d_X9_read_87 rfl (by first | rfl | simp_all) rfl
          · rw [if_neg (fun q => d1 q.1)]
            refine V_il2 d_X9_read_27 ?_
            refine V_al0 d_X9_read_28 ?_
            refine V_getR d_X9_read_29 rfl rfl (by decide) rfl ?_
            refine V_il1 d_X9_read_32 ?_
            refine V_ialdE d_X9_read_33 rfl (by decide) rfl (show s < 4 by omega) hT3 ?_
            refine U_ic_geN d_X9_read_34 (by omega) (by omega) (fun h34 => ?_) (fun q => absurd q (by omega))
            refine V_il2 d_X9_read_86 ?_
            exact V_iret d_X9_read_87 rfl (by first | rfl | simp_all) rfl
      obtain ⟨e1, e2, e3⟩ := rdE_in (fun i => S.1 20 (s * 48 + i)) z 6 0
      have l9 := loop9 (wrT S 2 0 (fun i => S.1 20 (s * 48 + i)) (rdE (fun i => S.1 20 (s * 48 + i)) z 6 0)) (fun i hi => (g8 i hi).1) g7 6 0 rfl
      rw [wrT_0] at l9
      have g5' : (wrT S 2 0 (fun i => S.1 20 (s * 48 + i)) (rdE (fun i => S.1 20 (s * 48 + i)) z 6 0)).1 30 s = nI 1 := g5
      have hst : ST (wrT (wrT S 2 0 (fun i => S.1 20 (s * 48 + i)) (rdE (fun i => S.1 20 (s * 48 + i)) z 6 0)) 26 0 (fun i => S.1 20 (s * 48 + i)) (rdE (fun i => S.1 20 (s * 48 + i)) z 6 0)) b sz ft N (fun i => if i < rdE (fun i => S.1 20 (s * 48 + i)) z 6 0 then (S.1 20 (s * 48 + i)).toInt.toNat else w i) wy lk nd := by
        have val : ∀ i, i < rdE (fun i => S.1 20 (s * 48 + i)) z 6 0 → S.1 20 (s * 48 + i) = nI (S.1 20 (s * 48 + i)).toInt.toNat := by
          intro i hi
          obtain ⟨k, hk, ek⟩ := inR_ex (by decide) (e3 i (Nat.zero_le _) hi)
          have ek' : S.1 20 (s * 48 + i) = nI k := ek
          rw [ek', nI_toInt (by omega), Int.toNat_natCast]
        refine ST_harb h ((Ag.rf.wrT (fun _ => rfl)).wrT (fun _ => rfl)) ⟨fun i hi => ?_, hhc.2.1, hhc.2.2.1, hhc.2.2.2⟩ ⟨fun i hi => ?_, hhm.2.1, hhm.2.2.1, hhm.2.2.2⟩
        · show (if 2 = 2 ∧ 0 ≤ i ∧ i < 0 + rdE (fun i => S.1 20 (s * 48 + i)) z 6 0 then S.1 20 (s * 48 + (i - 0)) else S.1 2 i) = nI (if i < rdE (fun i => S.1 20 (s * 48 + i)) z 6 0 then (S.1 20 (s * 48 + i)).toInt.toNat else w i)
          by_cases q : i < rdE (fun i => S.1 20 (s * 48 + i)) z 6 0
          · rw [if_pos ⟨rfl, Nat.zero_le _, by omega⟩, if_pos q]; exact val i q
          · rw [if_neg (fun z => q (by omega)), if_neg q]; exact hhc.1 i hi
        · show (if 26 = 26 ∧ 0 ≤ i ∧ i < 0 + rdE (fun i => S.1 20 (s * 48 + i)) z 6 0 then S.1 20 (s * 48 + (i - 0)) else S.1 26 i) = nI (if i < rdE (fun i => S.1 20 (s * 48 + i)) z 6 0 then (S.1 20 (s * 48 + i)).toInt.toNat else w i)
          by_cases q : i < rdE (fun i => S.1 20 (s * 48 + i)) z 6 0
          · rw [if_pos ⟨rfl, Nat.zero_le _, by omega⟩, if_pos q]; exact val i q
          · rw [if_neg (fun z => q (by omega)), if_neg q]; exact hhm.1 i hi
      have hB' : HB (fun i => if i < rdE (fun i => S.1 20 (s * 48 + i)) z 6 0 then (S.1 20 (s * 48 + i)).toInt.toNat else w i) wy lk nd := by
        refine ⟨fun i => ?_, hB.2⟩
        show (if i < rdE (fun i => S.1 20 (s * 48 + i)) z 6 0 then (S.1 20 (s * 48 + i)).toInt.toNat else w i) ≤ 99
        by_cases q : i < rdE (fun i => S.1 20 (s * 48 + i)) z 6 0
        · rw [if_pos q]
          obtain ⟨k, hk, ek⟩ := inR_ex (by decide) (e3 i (Nat.zero_le _) q)
          have ek' : S.1 20 (s * 48 + i) = nI k := ek
          rw [ek', nI_toInt (by omega), Int.toNat_natCast]
          exact hk
        · rw [if_neg q]; exact hB.1 i
      refine ⟨nI (rdE (fun i => S.1 20 (s * 48 + i)) z 6 0), wrT S 2 0 (fun i => S.1 20 (s * 48 + i)) (rdE (fun i => S.1 20 (s * 48 + i)) z 6 0), wrT (wrT S 2 0 (fun i => S.1 20 (s * 48 + i)) (rdE (fun i => S.1 20 (s * 48 + i)) z 6 0)) 26 0 (fun i => S.1 20 (s * 48 + i)) (rdE (fun i => S.1 20 (s * 48 + i)) z 6 0), ?_, ?_, ⟨b, sz, ft, N, _, wy, lk, nd, hx, hB', hst⟩⟩
      · refine Rn_of hp_X8_read [some (.ref (gB G + 0)), some (.int (nI s)), none] rfl (Nat.le_of_ble_eq_true rfl) (Nat.le_of_ble_eq_true rfl) ?_
        refine V_il1 d_X8_read_0 ?_
        refine U_cs1 d_X8_read_1 (c_X8_isSheet) rfl ?_
        refine V_neB d_X8_read_4 (fun h4 => ?_) (fun q => (bTF (c0) q).elim)
        refine V_al0 d_X8_read_10 ?_
        refine V_getR d_X8_read_11 rfl rfl (by decide) rfl ?_
        refine V_il1 d_X8_read_14 ?_
        refine U_cv1 d_X8_read_15 (hL) rfl rfl rfl ?_
        refine V_eqB d_X8_read_18 (fun h18 => ?_) (fun q => (bTF q (rfl)).elim)
        refine V_ki d_X8_read_30 ?_
        refine V_is2 d_X8_read_31 rfl ?_
        exact l8
      · refine Rn_of hp_X9_read [some (.ref (gB G + 22)), some (.int (nI s)), none] rfl (Nat.le_of_ble_eq_true rfl) (Nat.le_of_ble_eq_true rfl) ?_
        refine V_il1 d_X9_read_0 ?_
        refine U_cs1 d_X9_read_1 (c_X9_isSheet) rfl ?_
        refine V_neB d_X9_read_4 (fun h4 => ?_) (fun q => (bTF (c0) q).elim)
        refine V_al0 d_X9_read_10 ?_
        refine V_getR d_X9_read_11 rfl rfl (by decide) rfl ?_
        refine V_il1 d_X9_read_14 ?_
        refine V_zald d_X9_read_15 rfl (by decide) rfl (by omega) ?_
        refine V_topi g5' ?_
        refine V_if_ne d_X9_read_16 (fun h16 => ?_) (fun q => absurd q (by decide))
        refine V_ki d_X9_read_25 ?_
        refine V_is2 d_X9_read_26 rfl ?_
        exact l9
