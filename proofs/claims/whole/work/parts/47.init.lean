/-! how the objects are made -/
theorem fillS_sx (S : AS) (k n : Nat) (v : Int32) : sI (fillS S k n v) k n v = fillS S k (n + 1) v := fillS_s S k n v
set_option maxRecDepth 100000 in
theorem c_X2_init {G : Gm} {n k : Nat} {ρ : Rho} {S : AS} (hk : okd k = .inl 2) (hn : k < n) : Rn G M_X2_init [.ref (gB G + k)] n ρ S none n ρ (sL (sL S k 0 (lN 0)) k 1 (lN 1)) := by
  refine Rn_of hp_X2_init [some (.ref (gB G + k))] rfl (Nat.le_of_ble_eq_true rfl) (Nat.le_of_ble_eq_true rfl) ?_
  refine V_al0 d_X2_init_0 ?_
  refine V_obj d_X2_init_1 (by decide) (Nat.le_of_ble_eq_true rfl) ?_
  refine V_al0 d_X2_init_4 ?_
  refine V_lconst (v := lN 0) d_X2_init_5 rfl ?_
  refine V_putL d_X2_init_6 hk rfl hn rfl ?_
  refine V_al0 d_X2_init_9 ?_
  refine V_lconst (v := lN 1) d_X2_init_10 rfl ?_
  refine V_putL d_X2_init_11 hk rfl hn rfl ?_
  exact V_vret d_X2_init_14 rfl rfl rfl
def wX3 (S : AS) : AS := fillS (fillS (sI (sI S 1 2 (nI 2)) 1 3 (nI 6)) 2 6 (nI 10)) 3 36 (nI 3)
def rX3 (ρ : Rho) : Rho := rS (rS ρ 1 0 (some 2)) 1 1 (some 3)
set_option maxRecDepth 100000 in
theorem c_X3_init {G : Gm} {ρ : Rho} {S : AS} (h2 : ∀ j, S.1 2 j = 0) (h3 : ∀ j, S.1 3 j = 0) : Rn G M_X3_init [.ref (gB G + 1)] 2 ρ S none 4 (rX3 ρ) (wX3 S) := by
  have loopB : ∀ d i, i + d = 36 → V G M_X3_init 2 4 (Zm G none 2 4 (rX3 ρ) (wX3 S)) 4 (rX3 ρ) 58 [some (.ref (gB G + 1)), some (.int (nI i))] [] (fillS (fillS (sI (sI S 1 2 (nI 2)) 1 3 (nI 6)) 2 6 (nI 10)) 3 i (nI 3)) := by
    intro d
    induction d with
    | zero =>
      intro i hi
      rw [Nat.add_zero] at hi
      subst hi
      refine V_il1 d_X3_init_58 ?_
      refine V_al0 d_X3_init_59 ?_
      refine V_getR d_X3_init_60 rfl rfl (by decide) rfl ?_
      refine V_alen d_X3_init_63 rfl (by decide) ?_
      refine V_ic_ge d_X3_init_64 (fun h64 => ?_) (fun q => absurd ((nI_leI (by omega) (by omega)).mpr (by omega)) q)
      exact V_vret d_X3_init_80 rfl rfl rfl
    | succ d ih =>
      intro i hi
      have r1 := ih (i + 1) (by omega)
      rw [← fillS_s] at r1
      refine V_il1 d_X3_init_58 ?_
      refine V_al0 d_X3_init_59 ?_
      refine V_getR d_X3_init_60 rfl rfl (by decide) rfl ?_
      refine V_alen d_X3_init_63 rfl (by decide) ?_
      refine V_ic_ge d_X3_init_64 (fun q => absurd ((nI_leI (by omega) (by omega)).mp q) (by omega)) (fun h64 => ?_)
      refine V_al0 d_X3_init_67 ?_
      refine V_getR d_X3_init_68 rfl rfl (by decide) rfl ?_
      refine V_il1 d_X3_init_71 ?_
      refine V_ki d_X3_init_72 ?_
      refine V_iast d_X3_init_73 rfl (by decide) rfl (by omega) ?_
      refine V_icN1 d_X3_init_74 rfl ?_
      refine V_goto d_X3_init_77 ?_
      exact r1
  have loopA : ∀ d i, i + d = 6 → V G M_X3_init 2 4 (Zm G none 2 4 (rX3 ρ) (wX3 S)) 4 (rX3 ρ) 33 [some (.ref (gB G + 1)), some (.int (nI i))] [] (fillS (sI (sI S 1 2 (nI 2)) 1 3 (nI 6)) 2 i (nI 10)) := by
    intro d
    induction d with
    | zero =>
      intro i hi
      rw [Nat.add_zero] at hi
      subst hi
      have l0 := loopB 36 0 rfl
      rw [fillS_0] at l0
      refine V_il1 d_X3_init_33 ?_
      refine V_al0 d_X3_init_34 ?_
      refine V_getR d_X3_init_35 rfl rfl (by decide) rfl ?_
      refine V_alen d_X3_init_38 rfl (by decide) ?_
      refine V_ic_ge d_X3_init_39 (fun h39 => ?_) (fun q => absurd ((nI_leI (by omega) (by omega)).mpr (by omega)) q)
      refine V_ki d_X3_init_56 ?_
      refine V_is1 d_X3_init_57 rfl ?_
      exact l0
    | succ d ih =>
      intro i hi
      have r1 := ih (i + 1) (by omega)
      rw [← fillS_s] at r1
      refine V_il1 d_X3_init_33 ?_
      refine V_al0 d_X3_init_34 ?_
      refine V_getR d_X3_init_35 rfl rfl (by decide) rfl ?_
      refine V_alen d_X3_init_38 rfl (by decide) ?_
      refine V_ic_ge d_X3_init_39 (fun q => absurd ((nI_leI (by omega) (by omega)).mp q) (by omega)) (fun h39 => ?_)
      refine V_al0 d_X3_init_42 ?_
      refine V_getR d_X3_init_43 rfl rfl (by decide) rfl ?_
      refine V_il1 d_X3_init_46 ?_
      refine V_ki d_X3_init_47 ?_
      refine V_iast d_X3_init_49 rfl (by decide) rfl (by omega) ?_
      refine V_icN1 d_X3_init_50 rfl ?_
      refine V_goto d_X3_init_53 ?_
      exact r1
  have l0 := loopA 6 0 rfl
  rw [fillS_0] at l0
  refine Rn_of hp_X3_init [some (.ref (gB G + 1)), none] rfl (Nat.le_of_ble_eq_true rfl) (Nat.le_of_ble_eq_true rfl) ?_
  refine V_al0 d_X3_init_0 ?_
  refine V_obj d_X3_init_1 (by decide) (Nat.le_of_ble_eq_true rfl) ?_
  refine V_al0 d_X3_init_4 ?_
  refine V_ki d_X3_init_5 ?_
  refine V_newa (b := false) d_X3_init_7 rfl rfl h2 (by decide) (by decide) ?_
  refine V_putR d_X3_init_9 rfl rfl (by decide) ⟨rfl, rfl, rfl⟩ rfl rfl ?_
  refine V_al0 d_X3_init_12 ?_
  refine V_ki d_X3_init_13 ?_
  refine V_newa (b := false) d_X3_init_15 rfl rfl h3 (by decide) (by decide) ?_
  refine V_putR d_X3_init_17 rfl rfl (by decide) ⟨rfl, rfl, rfl⟩ rfl rfl ?_
  refine V_al0 d_X3_init_20 ?_
  refine V_ki d_X3_init_21 ?_
  refine V_putI d_X3_init_22 rfl rfl (by decide) rfl ?_
  refine V_al0 d_X3_init_25 ?_
  refine V_ki d_X3_init_26 ?_
  refine V_putI d_X3_init_28 rfl rfl (by decide) rfl ?_
  refine V_ki d_X3_init_31 ?_
  refine V_is1 d_X3_init_32 rfl ?_
  exact l0
