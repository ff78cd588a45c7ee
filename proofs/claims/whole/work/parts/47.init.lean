/-! how the objects are made -/
theorem fillS_sx (S : AS) (k n : Nat) (v : Int32) : sI (fillS S k n v) k n v = fillS S k (n + 1) v := fillS_s S k n v
set_option maxRecDepth 100000 in
theorem c_X2_init {G : Gm} {n k : Nat} {ρ : Rho} {S : AS} (hk : okd k = .inl 2) (hn : k < n) : Rn G M_X2_init [.ref (gB G + k)] n ρ S none n ρ (sL (sL S k 0 (lN 0)) k 1 (lN 1)) := by
  refine Rn_of hp_X2_init [some (.ref (gB G + k))] rfl (Nat.le_of_ble_eq_true rfl) (Nat.le_of_ble_eq_true rfl) ?_
  refine V_al0 d_X2_init_0 ?_
  refine V_obj d_X2_init_1 (by decide) (Nat.le_of_ble_eq_true rfl) ?_
  refine V_al0 d_X2_init_4 ?_
  refine V_lconst (v := lN 0) d_X2_init_5 rfl ?_
  refine V_putL d_X2_init_6 hk rfl hn rfl ?_
  refine V_al0 d_X2_init_9 ?_
  refine V_lconst (v := lN 1) d_X2_init_10 rfl ?_
  refine V_putL d_X2_init_11 hk rfl hn rfl ?_
  exact V_vret d_X2_init_14 rfl rfl rfl
def wX3 (S : AS) : AS := fillS (fillS (sI (sI S 1 2 (nI 2)) 1 3 (nI 6)) 2 6 (nI 10)) 3 36 (nI 3)
def rX3 (ρ : Rho) : Rho := rS (rS ρ 1 0 (some 2)) 1 1 (some 3)
set_option maxRecDepth 100000 in
theorem c_X3_init {G : Gm} {ρ : Rho} {S : AS} (h2 : ∀ j, S.1 2 j = 0) (h3 : ∀ j, S.1 3 j = 0) : Rn G M_X3_init [.ref (gB G + 1)] 2 ρ S none 4 (rX3 ρ) (wX3 S) := by
  have loopB : ∀ d i, i + d = 36 → V G M_X3_init 2 4 (Zm G none 2 4 (rX3 ρ) (wX3 S)) 4 (rX3 ρ) 58 [some (.ref (gB G + 1)), some (.int (nI i))] [] (fillS (fillS (sI (sI S 1 2 (nI 2)) 1 3 (nI 6)) 2 6 (nI 10)) 3 i (nI 3)) := by
    intro d
    induction d with
    | zero =>
      intro i hi
      rw [Nat.add_zero] at hi
      subst hi
      refine V_il1 d_X3_init_58 ?_
      refine V_al0 d_X3_init_59 ?_
      refine V_getR d_X3_init_60 rfl rfl (by decide) rfl ?_
      refine V_alen d_X3_init_63 rfl (by decide) ?_
      refine V_ic_ge d_X3_init_64 (fun h64 => ?_) (fun q => absurd ((nI_leI (by omega) (by omega)).mpr (by omega)) q)
      exact V_vret d_X3_init_80 rfl rfl rfl
    | succ d ih =>
      intro i hi
      have r1 := ih (i + 1) (by omega)
      rw [← fillS_s] at r1
      refine V_il1 d_X3_init_58 ?_
      refine V_al0 d_X3_init_59 ?_
      refine V_getR d_X3_init_60 rfl rfl (by decide) rfl ?_
      refine V_alen d_X3_init_63 rfl (by decide) ?_
      refine V_ic_ge d_X3_init_64 (fun q => absurd ((nI_leI (by omega) (by omega)).mp q) (by omega)) (fun h64 => ?_)
      refine V_al0 d_X3_init_67 ?_
      refine V_getR d_X3_init_68 rfl rfl (by decide) rfl ?_
      refine V_il1 d_X3_init_71 ?_
      refine V_ki d_X3_init_72 ?_
      refine V_iast d_X3_init_73 rfl (by decide) rfl (by omega) ?_
      refine V_icN1 d_X3_init_74 rfl ?_
      refine V_goto d_X3_init_77 ?_
      exact r1
  have loopA : ∀ d i, i + d = 6 → V G M_X3_init 2 4 (Zm G none 2 4 (rX3 ρ) (wX3 S)) 4 (rX3 ρ) 33 [some (.ref (gB G + 1)), some (.int (nI i))] [] (fillS (sI (sI S 1 2 (nI 2)) 1 3 (nI 6)) 2 i (nI 10)) := by
    intro d
    induction d with
    | zero =>
      intro i hi
      rw [Nat.add_zero] at hi
      subst hi
      have l0 := loopB 36 0 rfl
      rw [fillS_0] at l0
      refine V_il1 d_X3_init_33 ?_
      refine V_al0 d_X3_init_34 ?_
      refine V_getR d_X3_init_35 rfl rfl (by decide) rfl ?_
      refine V_alen d_X3_init_38 rfl (by decide) ?_
      refine V_ic_ge d_X3_init_39 (fun h39 => ?_) (fun q => absurd ((nI_leI (by omega) (by omega)).mpr (by omega)) q)
      refine V_ki d_X3_init_56 ?_
      refine V_is1 d_X3_init_57 rfl ?_
      exact l0
    | succ d ih =>
      intro i hi
      have r1 := ih (i + 1) (by omega)
      rw [← fillS_s] at r1
      refine V_il1 d_X3_init_33 ?_
      refine V_al0 d_X3_init_34 ?_
      refine V_getR d_X3_init_35 rfl rfl (by decide) rfl ?_
      refine V_alen d_X3_init_38 rfl (by decide) ?_
      refine V_ic_ge d_X3_init_39 (fun q => absurd ((nI_leI (by omega) (by omega)).mp q) (by omega)) (fun h39 => ?_)
      refine V_al0 d_X3_init_42 ?_
      refine V_getR d_X3_init_43 rfl rfl (by decide) rfl ?_
      refine V_il1 d_X3_init_46 ?_
      refine V_ki d_X3_init_47 ?_
      refine V_iast d_X3_init_49 rfl (by decide) rfl (by omega) ?_
      refine V_icN1 d_X3_init_50 rfl ?_
      refine V_goto d_X3_init_53 ?_
      exact r1
  have l0 := loopA 6 0 rfl
  rw [fillS_0] at l0
  refine Rn_of hp_X3_init [some (.ref (gB G + 1)), none] rfl (Nat.le_of_ble_eq_true rfl) (Nat.le_of_ble_eq_true rfl) ?_
  refine V_al0 d_X3_init_0 ?_
  refine V_obj d_X3_init_1 (by decide) (Nat.le_of_ble_eq_true rfl) ?_
  refine V_al0 d_X3_init_4 ?_
  refine V_ki d_X3_init_5 ?_
  refine V_newa (b := false) d_X3_init_7 rfl rfl h2 (by decide) (by decide) ?_
  refine V_putR d_X3_init_9 rfl rfl (by decide) ⟨rfl, rfl, rfl⟩ rfl rfl ?_
  refine V_al0 d_X3_init_12 ?_
  refine V_ki d_X3_init_13 ?_
  refine V_newa (b := false) d_X3_init_15 rfl rfl h3 (by decide) (by decide) ?_
  refine V_putR d_X3_init_17 rfl rfl (by decide) ⟨rfl, rfl, rfl⟩ rfl rfl ?_
  refine V_al0 d_X3_init_20 ?_
  refine V_ki d_X3_init_21 ?_
  refine V_putI d_X3_init_22 rfl rfl (by decide) rfl ?_
  refine V_al0 d_X3_init_25 ?_
  refine V_ki d_X3_init_26 ?_
  refine V_putI d_X3_init_28 rfl rfl (by decide) rfl ?_
  refine V_ki d_X3_init_31 ?_
  refine V_is1 d_X3_init_32 rfl ?_
  exact l0
def wX4 (S : AS) : AS := sI (sI (sI (sI (sI S 4 3 (nI 0)) 4 4 (nI 0)) 4 5 (-1)) 4 6 (nI 0)) 4 7 (nI 0)
def rX4 (ρ : Rho) : Rho := rS (rS (rS ρ 4 0 (some 5)) 4 1 (some 6)) 4 2 (some 7)
set_option maxRecDepth 100000 in
theorem c_X4_init {G : Gm} {ρ : Rho} {S : AS} (h5 : ∀ j, S.1 5 j = 0) (h6 : ∀ j, S.1 6 j = 0) (h7 : ∀ j, S.1 7 j = 0) : Rn G M_X4_init [.ref (gB G + 4)] 5 ρ S none 8 (rX4 ρ) (wX4 S) := by
  refine Rn_of hp_X4_init [some (.ref (gB G + 4))] rfl (Nat.le_of_ble_eq_true rfl) (Nat.le_of_ble_eq_true rfl) ?_
  refine V_al0 d_X4_init_0 ?_
  refine V_obj d_X4_init_1 (by decide) (Nat.le_of_ble_eq_true rfl) ?_
  refine V_al0 d_X4_init_4 ?_
  refine V_ki d_X4_init_5 ?_
  refine V_newa (b := false) d_X4_init_7 rfl rfl h5 (by decide) (by decide) ?_
  refine V_putR d_X4_init_9 rfl rfl (by decide) ⟨rfl, rfl, rfl⟩ rfl rfl ?_
  refine V_al0 d_X4_init_12 ?_
  refine V_ki d_X4_init_13 ?_
  refine V_newa (b := false) d_X4_init_15 rfl rfl h6 (by decide) (by decide) ?_
  refine V_putR d_X4_init_17 rfl rfl (by decide) ⟨rfl, rfl, rfl⟩ rfl rfl ?_
  refine V_al0 d_X4_init_20 ?_
  refine V_ki d_X4_init_21 ?_
  refine V_newa (b := false) d_X4_init_23 rfl rfl h7 (by decide) (by decide) ?_
  refine V_putR d_X4_init_25 rfl rfl (by decide) ⟨rfl, rfl, rfl⟩ rfl rfl ?_
  refine V_al0 d_X4_init_28 ?_
  refine V_ki d_X4_init_29 ?_
  refine V_putI d_X4_init_30 rfl rfl (by decide) rfl ?_
  refine V_al0 d_X4_init_33 ?_
  refine V_ki d_X4_init_34 ?_
  refine V_putI d_X4_init_35 rfl rfl (by decide) rfl ?_
  refine V_al0 d_X4_init_38 ?_
  refine V_ki d_X4_init_39 ?_
  refine V_putI d_X4_init_40 rfl rfl (by decide) rfl ?_
  refine V_al0 d_X4_init_43 ?_
  refine V_ki d_X4_init_44 ?_
  refine V_putI d_X4_init_45 rfl rfl (by decide) rfl ?_
  refine V_al0 d_X4_init_48 ?_
  refine V_ki d_X4_init_49 ?_
  refine V_putI d_X4_init_50 rfl rfl (by decide) rfl ?_
  exact V_vret d_X4_init_53 rfl rfl rfl
def rX7 (ρ : Rho) : Rho := rS (rS ρ 8 0 (some 1)) 8 1 (some 4)
set_option maxRecDepth 100000 in
theorem c_X7_init {G : Gm} {ρ : Rho} {S : AS} : Rn G M_X7_init [.ref (gB G + 8), .ref (gB G + 1), .ref (gB G + 4)] 9 ρ S none 9 (rX7 ρ) S := by
  refine Rn_of hp_X7_init [some (.ref (gB G + 8)), some (.ref (gB G + 1)), some (.ref (gB G + 4))] rfl (Nat.le_of_ble_eq_true rfl) (Nat.le_of_ble_eq_true rfl) ?_
  refine V_al0 d_X7_init_0 ?_
  refine V_obj d_X7_init_1 (by decide) (Nat.le_of_ble_eq_true rfl) ?_
  refine V_al0 d_X7_init_4 ?_
  refine V_al1 d_X7_init_5 ?_
  refine V_putR d_X7_init_6 rfl rfl (by decide) ⟨rfl, rfl, rfl⟩ rfl rfl ?_
  refine V_al0 d_X7_init_9 ?_
  refine V_al2 d_X7_init_10 ?_
  refine V_putR d_X7_init_11 rfl rfl (by decide) ⟨rfl, rfl, rfl⟩ rfl rfl ?_
  exact V_vret d_X7_init_14 rfl rfl rfl
def fX2 (S : AS) (k : Nat) : AS := sL (sL S k 0 (lN 0)) k 1 (lN 1)
def rX0 (ρ : Rho) : Rho := rS (rS (rS (rS ρ 9 1 (some 10)) 9 2 (some 11)) 9 3 (some 12)) 9 0 (some 4)
set_option maxRecDepth 100000 in
theorem c_X0_init {G : Gm} {ρ : Rho} {S : AS} (h10 : ∀ j, S.1 10 j = 0) (h11 : ∀ j, S.1 11 j = 0) (h12 : ∀ j, S.1 12 j = 0) (g12 : ∀ j, S.2 12 j = 0) (q12 : ∀ j, ρ 12 j = none) : Rn G M_X0_init [.ref (gB G + 9), .ref (gB G + 4)] 10 ρ S none 13 (rX0 ρ) (fX2 S 12) := by
  have hc := c_X2_init (G := G) (n := 13) (k := 12) (ρ := rS (rS ρ 9 1 (some 10)) 9 2 (some 11)) (S := S) rfl (by decide)
  refine Rn_of hp_X0_init [some (.ref (gB G + 9)), some (.ref (gB G + 4))] rfl (Nat.le_of_ble_eq_true rfl) (Nat.le_of_ble_eq_true rfl) ?_
  refine V_al0 d_X0_init_0 ?_
  refine V_obj d_X0_init_1 (by decide) (Nat.le_of_ble_eq_true rfl) ?_
  refine V_al0 d_X0_init_4 ?_
  refine V_ki d_X0_init_5 ?_
  refine V_newa (b := false) d_X0_init_7 rfl rfl h10 (by decide) (by decide) ?_
  refine V_putR d_X0_init_9 rfl rfl (by decide) ⟨rfl, rfl, rfl⟩ rfl rfl ?_
  refine V_al0 d_X0_init_12 ?_
  refine V_ki d_X0_init_13 ?_
  refine V_newa (b := false) d_X0_init_16 rfl rfl h11 (by decide) (by decide) ?_
  refine V_putR d_X0_init_18 rfl rfl (by decide) ⟨rfl, rfl, rfl⟩ rfl rfl ?_
  refine V_al0 d_X0_init_21 ?_
  refine V_new d_X0_init_22 rfl h12 g12 (fun j => q12 j) (by decide) (by decide) ?_
  refine V_dup d_X0_init_25 rfl ?_
  refine V_ci0 d_X0_init_26 (hc) ⟨Nat.le_of_ble_eq_true rfl, by omega, by omega, by omega⟩ ?_
  refine V_putR d_X0_init_29 rfl rfl (by decide) ⟨rfl, rfl, rfl⟩ rfl rfl ?_
  refine V_al0 d_X0_init_32 ?_
  refine V_al1 d_X0_init_33 ?_
  refine V_putR d_X0_init_34 rfl rfl (by decide) ⟨rfl, rfl, rfl⟩ rfl rfl ?_
  exact V_vret d_X0_init_37 rfl rfl rfl
def wX6 (S : AS) : AS := sI (sI (sI (sI (sI (sI (sI (sI (fX2 S 14) 13 3 (nI 0)) 13 4 (nI 0)) 13 5 (nI 0)) 13 6 (nI 0)) 13 7 (nI 0)) 13 8 (nI 0)) 13 9 (nI 0)) 13 10 (nI 0)
def rX6 (ρ : Rho) : Rho := rS (rS (rS ρ 13 2 (some 14)) 13 0 (some 1)) 13 1 (some 8)
set_option maxRecDepth 100000 in
theorem c_X6_init {G : Gm} {ρ : Rho} {S : AS} (h14 : ∀ j, S.1 14 j = 0) (g14 : ∀ j, S.2 14 j = 0) (q14 : ∀ j, ρ 14 j = none) : Rn G M_X6_init [.ref (gB G + 13), .ref (gB G + 1), .ref (gB G + 8)] 14 ρ S none 15 (rX6 ρ) (wX6 S) := by
  have hc := c_X2_init (G := G) (n := 15) (k := 14) (ρ := ρ) (S := S) rfl (by decide)
  refine Rn_of hp_X6_init [some (.ref (gB G + 13)), some (.ref (gB G + 1)), some (.ref (gB G + 8))] rfl (Nat.le_of_ble_eq_true rfl) (Nat.le_of_ble_eq_true rfl) ?_
  refine V_al0 d_X6_init_0 ?_
  refine V_obj d_X6_init_1 (by decide) (Nat.le_of_ble_eq_true rfl) ?_
  refine V_al0 d_X6_init_4 ?_
  refine V_new d_X6_init_5 rfl h14 g14 q14 (by decide) (by decide) ?_
  refine V_dup d_X6_init_8 rfl ?_
  refine V_ci0 d_X6_init_9 (hc) ⟨Nat.le_of_ble_eq_true rfl, by omega, by omega, by omega⟩ ?_
  refine V_putR d_X6_init_12 rfl rfl (by decide) ⟨rfl, rfl, rfl⟩ rfl rfl ?_
  refine V_al0 d_X6_init_15 ?_
  refine V_ki d_X6_init_16 ?_
  refine V_putI d_X6_init_17 rfl rfl (by decide) rfl ?_
  refine V_al0 d_X6_init_20 ?_
  refine V_ki d_X6_init_21 ?_
  refine V_putI d_X6_init_22 rfl rfl (by decide) rfl ?_
  refine V_al0 d_X6_init_25 ?_
  refine V_ki d_X6_init_26 ?_
  refine V_putI d_X6_init_27 rfl rfl (by decide) rfl ?_
  refine V_al0 d_X6_init_30 ?_
  refine V_ki d_X6_init_31 ?_
  refine V_putI d_X6_init_32 rfl rfl (by decide) rfl ?_
  refine V_al0 d_X6_init_35 ?_
  refine V_ki d_X6_init_36 ?_
  refine V_putI d_X6_init_37 rfl rfl (by decide) rfl ?_
  refine V_al0 d_X6_init_40 ?_
  refine V_ki d_X6_init_41 ?_
  refine V_putI d_X6_init_42 rfl rfl (by decide) rfl ?_
  refine V_al0 d_X6_init_45 ?_
  refine V_ki d_X6_init_46 ?_
  refine V_putI d_X6_init_47 rfl rfl (by decide) rfl ?_
  refine V_al0 d_X6_init_50 ?_
  refine V_ki d_X6_init_51 ?_
  refine V_putI d_X6_init_52 rfl rfl (by decide) rfl ?_
  refine V_al0 d_X6_init_55 ?_
  refine V_al1 d_X6_init_56 ?_
  refine V_putR d_X6_init_57 rfl rfl (by decide) ⟨rfl, rfl, rfl⟩ rfl rfl ?_
  refine V_al0 d_X6_init_60 ?_
  refine V_al2 d_X6_init_61 ?_
  refine V_putR d_X6_init_62 rfl rfl (by decide) ⟨rfl, rfl, rfl⟩ rfl rfl ?_
  exact V_vret d_X6_init_65 rfl rfl rfl
def rX1 (ρ : Rho) : Rho := rS (rS ρ 15 1 (some 16)) 15 0 (some 4)
set_option maxRecDepth 100000 in
theorem c_X1_init {G : Gm} {ρ : Rho} {S : AS} (h16 : ∀ j, S.1 16 j = 0) (g16 : ∀ j, S.2 16 j = 0) (q16 : ∀ j, ρ 16 j = none) : Rn G M_X1_init [.ref (gB G + 15), .ref (gB G + 4)] 16 ρ S none 17 (rX1 ρ) (fX2 S 16) := by
  have hc := c_X2_init (G := G) (n := 17) (k := 16) (ρ := ρ) (S := S) rfl (by decide)
  refine Rn_of hp_X1_init [some (.ref (gB G + 15)), some (.ref (gB G + 4))] rfl (Nat.le_of_ble_eq_true rfl) (Nat.le_of_ble_eq_true rfl) ?_
  refine V_al0 d_X1_init_0 ?_
  refine V_obj d_X1_init_1 (by decide) (Nat.le_of_ble_eq_true rfl) ?_
  refine V_al0 d_X1_init_4 ?_
  refine V_new d_X1_init_5 rfl h16 g16 q16 (by decide) (by decide) ?_
  refine V_dup d_X1_init_8 rfl ?_
  refine V_ci0 d_X1_init_9 (hc) ⟨Nat.le_of_ble_eq_true rfl, by omega, by omega, by omega⟩ ?_
  refine V_putR d_X1_init_12 rfl rfl (by decide) ⟨rfl, rfl, rfl⟩ rfl rfl ?_
  refine V_al0 d_X1_init_15 ?_
  refine V_al1 d_X1_init_16 ?_
  refine V_putR d_X1_init_17 rfl rfl (by decide) ⟨rfl, rfl, rfl⟩ rfl rfl ?_
  exact V_vret d_X1_init_20 rfl rfl rfl
def wX5 (S : AS) : AS := fillS (sI S 17 4 (nI 0)) 18 4 (-1)
def rX5 (ρ : Rho) : Rho := rS (rS (rS (rS ρ 17 0 (some 18)) 17 1 (some 19)) 17 2 (some 20)) 17 3 (some 21)
set_option maxRecDepth 100000 in
theorem c_X5_init {G : Gm} {ρ : Rho} {S : AS} (h18 : ∀ j, S.1 18 j = 0) (h19 : ∀ j, S.1 19 j = 0) (h20 : ∀ j, S.1 20 j = 0) (h21 : ∀ j, S.1 21 j = 0) : Rn G M_X5_init [.ref (gB G + 17)] 18 ρ S none 22 (rX5 ρ) (wX5 S) := by
  have loopA : ∀ d i, i + d = 4 → V G M_X5_init 18 22 (Zm G none 18 22 (rX5 ρ) (wX5 S)) 22 (rX5 ρ) 42 [some (.ref (gB G + 17)), some (.int (nI i))] [] (fillS (sI S 17 4 (nI 0)) 18 i (-1)) := by
    intro d
    induction d with
    | zero =>
      intro i hi
      rw [Nat.add_zero] at hi
      subst hi
      refine V_il1 d_X5_init_42 ?_
      refine V_al0 d_X5_init_43 ?_
      refine V_getR d_X5_init_44 rfl rfl (by decide) rfl ?_
      refine V_alen d_X5_init_47 rfl (by decide) ?_
      refine V_ic_ge d_X5_init_48 (fun h48 => ?_) (fun q => absurd ((nI_leI (by omega) (by omega)).mpr (by omega)) q)
      exact V_vret d_X5_init_64 rfl rfl rfl
    | succ d ih =>
      intro i hi
      have r1 := ih (i + 1) (by omega)
      rw [← fillS_s] at r1
      refine V_il1 d_X5_init_42 ?_
      refine V_al0 d_X5_init_43 ?_
      refine V_getR d_X5_init_44 rfl rfl (by decide) rfl ?_
      refine V_alen d_X5_init_47 rfl (by decide) ?_
      refine V_ic_ge d_X5_init_48 (fun q => absurd ((nI_leI (by omega) (by omega)).mp q) (by omega)) (fun h48 => ?_)
      refine V_al0 d_X5_init_51 ?_
      refine V_getR d_X5_init_52 rfl rfl (by decide) rfl ?_
      refine V_il1 d_X5_init_55 ?_
      refine V_ki d_X5_init_56 ?_
      refine V_iast d_X5_init_57 rfl (by decide) rfl (by omega) ?_
      refine V_icN1 d_X5_init_58 rfl ?_
      refine V_goto d_X5_init_61 ?_
      exact r1
  have l0 := loopA 4 0 rfl
  rw [fillS_0] at l0
  refine Rn_of hp_X5_init [some (.ref (gB G + 17)), none] rfl (Nat.le_of_ble_eq_true rfl) (Nat.le_of_ble_eq_true rfl) ?_
  refine V_al0 d_X5_init_0 ?_
  refine V_obj d_X5_init_1 (by decide) (Nat.le_of_ble_eq_true rfl) ?_
  refine V_al0 d_X5_init_4 ?_
  refine V_ki d_X5_init_5 ?_
  refine V_newa (b := false) d_X5_init_6 rfl rfl h18 (by decide) (by decide) ?_
  refine V_putR d_X5_init_8 rfl rfl (by decide) ⟨rfl, rfl, rfl⟩ rfl rfl ?_
  refine V_al0 d_X5_init_11 ?_
  refine V_ki d_X5_init_12 ?_
  refine V_newa (b := false) d_X5_init_13 rfl rfl h19 (by decide) (by decide) ?_
  refine V_putR d_X5_init_15 rfl rfl (by decide) ⟨rfl, rfl, rfl⟩ rfl rfl ?_
  refine V_al0 d_X5_init_18 ?_
  refine V_ki d_X5_init_19 ?_
  refine V_newa (b := false) d_X5_init_22 rfl rfl h20 (by decide) (by decide) ?_
  refine V_putR d_X5_init_24 rfl rfl (by decide) ⟨rfl, rfl, rfl⟩ rfl rfl ?_
  refine V_al0 d_X5_init_27 ?_
  refine V_ki d_X5_init_28 ?_
  refine V_newa (b := false) d_X5_init_30 rfl rfl h21 (by decide) (by decide) ?_
  refine V_putR d_X5_init_32 rfl rfl (by decide) ⟨rfl, rfl, rfl⟩ rfl rfl ?_
  refine V_al0 d_X5_init_35 ?_
  refine V_ki d_X5_init_36 ?_
  refine V_putI d_X5_init_37 rfl rfl (by decide) rfl ?_
  refine V_ki d_X5_init_40 ?_
  refine V_is1 d_X5_init_41 rfl ?_
  exact l0
def wX9 (S : AS) : AS := sI (sI (fillS (fillS S 26 6 (nI 10)) 27 36 (nI 3)) 22 7 (nI 2)) 22 8 (nI 6)
def rX9 (ρ : Rho) : Rho := rS (rS (rS (rS (rS (rS (rS (rS (rS (rS (rS (rS ρ 22 0 (some 23)) 22 3 (some 24)) 22 4 (some 25)) 22 5 (some 26)) 22 6 (some 27)) 22 9 (some 28)) 22 10 (some 29)) 22 12 (some 30)) 22 13 (some 31)) 22 14 (some 32)) 22 15 (some 33)) 22 16 (some 34)
set_option maxRecDepth 100000 in
theorem c_X9_init {G : Gm} {ρ : Rho} {S : AS} (hz : ∀ k, 23 ≤ k → ∀ j, S.1 k j = 0) : Rn G M_X9_init [.ref (gB G + 22)] 23 ρ S none 35 (rX9 ρ) (wX9 S) := by
  have loopB : ∀ d i, i + d = 36 → V G M_X9_init 23 35 (Zm G none 23 35 (rX9 ρ) (wX9 S)) 35 (rX9 ρ) 124 [some (.ref (gB G + 22)), some (.int (nI i))] [] (fillS (fillS S 26 6 (nI 10)) 27 i (nI 3)) := by
    intro d
    induction d with
    | zero =>
      intro i hi
      rw [Nat.add_zero] at hi
      subst hi
      refine V_il1 d_X9_init_124 ?_
      refine V_ki d_X9_init_125 ?_
      refine V_ic_ge d_X9_init_127 (fun h127 => ?_) (fun q => absurd ((nI_leI (by omega) (by omega)).mpr (by omega)) q)
      refine V_al0 d_X9_init_143 ?_
      refine V_ki d_X9_init_144 ?_
      refine V_putI d_X9_init_145 rfl rfl (by decide) rfl ?_
      refine V_al0 d_X9_init_148 ?_
      refine V_ki d_X9_init_149 ?_
      refine V_putI d_X9_init_151 rfl rfl (by decide) rfl ?_
      exact V_vret d_X9_init_154 rfl rfl rfl
    | succ d ih =>
      intro i hi
      have r1 := ih (i + 1) (by omega)
      rw [← fillS_s] at r1
      refine V_il1 d_X9_init_124 ?_
      refine V_ki d_X9_init_125 ?_
      refine V_ic_ge d_X9_init_127 (fun q => absurd ((nI_leI (by omega) (by omega)).mp q) (by omega)) (fun h127 => ?_)
      refine V_al0 d_X9_init_130 ?_
      refine V_getR d_X9_init_131 rfl rfl (by decide) rfl ?_
      refine V_il1 d_X9_init_134 ?_
      refine V_ki d_X9_init_135 ?_
      refine V_iast d_X9_init_136 rfl (by decide) rfl (by omega) ?_
      refine V_icN1 d_X9_init_137 rfl ?_
      refine V_goto d_X9_init_140 ?_
      exact r1
  have loopA : ∀ d i, i + d = 6 → V G M_X9_init 23 35 (Zm G none 23 35 (rX9 ρ) (wX9 S)) 35 (rX9 ρ) 102 [some (.ref (gB G + 22)), some (.int (nI i))] [] (fillS S 26 i (nI 10)) := by
    intro d
    induction d with
    | zero =>
      intro i hi
      rw [Nat.add_zero] at hi
      subst hi
      have l0 := loopB 36 0 rfl
      rw [fillS_0] at l0
      refine V_il1 d_X9_init_102 ?_
      refine V_ki d_X9_init_103 ?_
      refine V_ic_ge d_X9_init_105 (fun h105 => ?_) (fun q => absurd ((nI_leI (by omega) (by omega)).mpr (by omega)) q)
      refine V_ki d_X9_init_122 ?_
      refine V_is1 d_X9_init_123 rfl ?_
      exact l0
    | succ d ih =>
      intro i hi
      have r1 := ih (i + 1) (by omega)
      rw [← fillS_s] at r1
      refine V_il1 d_X9_init_102 ?_
      refine V_ki d_X9_init_103 ?_
      refine V_ic_ge d_X9_init_105 (fun q => absurd ((nI_leI (by omega) (by omega)).mp q) (by omega)) (fun h105 => ?_)
      refine V_al0 d_X9_init_108 ?_
      refine V_getR d_X9_init_109 rfl rfl (by decide) rfl ?_
      refine V_il1 d_X9_init_112 ?_
      refine V_ki d_X9_init_113 ?_
      refine V_iast d_X9_init_115 rfl (by decide) rfl (by omega) ?_
      refine V_icN1 d_X9_init_116 rfl ?_
      refine V_goto d_X9_init_119 ?_
      exact r1
  have l0 := loopA 6 0 rfl
  rw [fillS_0] at l0
  refine Rn_of hp_X9_init [some (.ref (gB G + 22)), none] rfl (Nat.le_of_ble_eq_true rfl) (Nat.le_of_ble_eq_true rfl) ?_
  refine V_al0 d_X9_init_0 ?_
  refine V_obj d_X9_init_1 (by decide) (Nat.le_of_ble_eq_true rfl) ?_
  refine V_al0 d_X9_init_4 ?_
  refine V_ki d_X9_init_5 ?_
  refine V_newa (b := false) d_X9_init_7 rfl rfl (hz 23 (by decide)) (by decide) (by decide) ?_
  refine V_putR d_X9_init_9 rfl rfl (by decide) ⟨rfl, rfl, rfl⟩ rfl rfl ?_
  refine V_al0 d_X9_init_12 ?_
  refine V_ki d_X9_init_13 ?_
  refine V_newa (b := false) d_X9_init_15 rfl rfl (hz 24 (by decide)) (by decide) (by decide) ?_
  refine V_putR d_X9_init_17 rfl rfl (by decide) ⟨rfl, rfl, rfl⟩ rfl rfl ?_
  refine V_al0 d_X9_init_20 ?_
  refine V_ki d_X9_init_21 ?_
  refine V_newa (b := false) d_X9_init_23 rfl rfl (hz 25 (by decide)) (by decide) (by decide) ?_
  refine V_putR d_X9_init_25 rfl rfl (by decide) ⟨rfl, rfl, rfl⟩ rfl rfl ?_
  refine V_al0 d_X9_init_28 ?_
  refine V_ki d_X9_init_29 ?_
  refine V_newa (b := false) d_X9_init_31 rfl rfl (hz 26 (by decide)) (by decide) (by decide) ?_
  refine V_putR d_X9_init_33 rfl rfl (by decide) ⟨rfl, rfl, rfl⟩ rfl rfl ?_
  refine V_al0 d_X9_init_36 ?_
  refine V_ki d_X9_init_37 ?_
  refine V_newa (b := false) d_X9_init_39 rfl rfl (hz 27 (by decide)) (by decide) (by decide) ?_
  refine V_putR d_X9_init_41 rfl rfl (by decide) ⟨rfl, rfl, rfl⟩ rfl rfl ?_
  refine V_al0 d_X9_init_44 ?_
  refine V_ki d_X9_init_45 ?_
  refine V_newa (b := false) d_X9_init_48 rfl rfl (hz 28 (by decide)) (by decide) (by decide) ?_
  refine V_putR d_X9_init_50 rfl rfl (by decide) ⟨rfl, rfl, rfl⟩ rfl rfl ?_
  refine V_al0 d_X9_init_53 ?_
  refine V_ki d_X9_init_54 ?_
  refine V_newa (b := false) d_X9_init_57 rfl rfl (hz 29 (by decide)) (by decide) (by decide) ?_
  refine V_putR d_X9_init_59 rfl rfl (by decide) ⟨rfl, rfl, rfl⟩ rfl rfl ?_
  refine V_al0 d_X9_init_62 ?_
  refine V_ki d_X9_init_63 ?_
  refine V_newa (b := true) d_X9_init_64 rfl rfl (hz 30 (by decide)) (by decide) (by decide) ?_
  refine V_putR d_X9_init_66 rfl rfl (by decide) ⟨rfl, rfl, rfl⟩ rfl rfl ?_
  refine V_al0 d_X9_init_69 ?_
  refine V_ki d_X9_init_70 ?_
  refine V_newa (b := false) d_X9_init_71 rfl rfl (hz 31 (by decide)) (by decide) (by decide) ?_
  refine V_putR d_X9_init_73 rfl rfl (by decide) ⟨rfl, rfl, rfl⟩ rfl rfl ?_
  refine V_al0 d_X9_init_76 ?_
  refine V_ki d_X9_init_77 ?_
  refine V_newa (b := false) d_X9_init_78 rfl rfl (hz 32 (by decide)) (by decide) (by decide) ?_
  refine V_putR d_X9_init_80 rfl rfl (by decide) ⟨rfl, rfl, rfl⟩ rfl rfl ?_
  refine V_al0 d_X9_init_83 ?_
  refine V_ki d_X9_init_84 ?_
  refine V_newa (b := false) d_X9_init_87 rfl rfl (hz 33 (by decide)) (by decide) (by decide) ?_
  refine V_putR d_X9_init_89 rfl rfl (by decide) ⟨rfl, rfl, rfl⟩ rfl rfl ?_
  refine V_al0 d_X9_init_92 ?_
  refine V_ki d_X9_init_93 ?_
  refine V_newa (b := false) d_X9_init_95 rfl rfl (hz 34 (by decide)) (by decide) (by decide) ?_
  refine V_putR d_X9_init_97 rfl rfl (by decide) ⟨rfl, rfl, rfl⟩ rfl rfl ?_
  refine V_ki d_X9_init_100 ?_
  refine V_is1 d_X9_init_101 rfl ?_
  exact l0
def S00 : AS := (fun _ _ => 0, fun _ _ => 0)
def R00 : Rho := fun _ _ => none
def w8a : AS := wX4 (wX3 S00)
def w8b : AS := fX2 w8a 12
def w8c : AS := wX6 w8b
def w8d : AS := fX2 w8c 16
def w8 : AS := wX5 w8d
def r8a : Rho := rX7 (rX4 (rX3 R00))
def r8b : Rho := rS (rS (rS r8a 0 0 (some 1)) 0 1 (some 4)) 0 2 (some 8)
def r8c : Rho := rS (rX0 r8b) 0 3 (some 9)
def r8d : Rho := rS (rX6 r8c) 0 4 (some 13)
def r8e : Rho := rS (rX1 r8d) 0 5 (some 15)
def r8 : Rho := rS (rX5 r8e) 0 6 (some 17)
set_option maxRecDepth 100000 in
theorem c_X8_init {G : Gm} : Rn G M_X8_init [.ref (gB G + 0)] 1 R00 S00 none 22 r8 w8 := by
  have h3 := c_X3_init (G := G) (ρ := R00) (S := S00) (fun _ => rfl) (fun _ => rfl)
  have h4 := c_X4_init (G := G) (ρ := rX3 R00) (S := wX3 S00) (fun _ => rfl) (fun _ => rfl) (fun _ => rfl)
  have h7 := c_X7_init (G := G) (ρ := rX4 (rX3 R00)) (S := w8a)
  have h0 := c_X0_init (G := G) (ρ := r8b) (S := w8a) (fun _ => rfl) (fun _ => rfl) (fun _ => rfl) (fun _ => rfl) (fun _ => rfl)
  have h6 := c_X6_init (G := G) (ρ := r8c) (S := w8b) (fun _ => rfl) (fun _ => rfl) (fun _ => rfl)
  have h1 := c_X1_init (G := G) (ρ := r8d) (S := w8c) (fun _ => rfl) (fun _ => rfl) (fun _ => rfl)
  have h5 := c_X5_init (G := G) (ρ := r8e) (S := w8d) (fun _ => rfl) (fun _ => rfl) (fun _ => rfl) (fun _ => rfl)
  refine Rn_of hp_X8_init [some (.ref (gB G + 0)), none, none, none] rfl (Nat.le_of_ble_eq_true rfl) (Nat.le_of_ble_eq_true rfl) ?_
  refine V_al0 d_X8_init_0 ?_
  refine V_obj d_X8_init_1 (by decide) (Nat.le_of_ble_eq_true rfl) ?_
  refine V_new d_X8_init_4 rfl (fun _ => rfl) (fun _ => rfl) (fun _ => rfl) (by decide) (by decide) ?_
  refine V_dup d_X8_init_7 rfl ?_
  refine V_ci0 d_X8_init_8 (h3) ⟨Nat.le_of_ble_eq_true rfl, by omega, by omega, by omega⟩ ?_
  refine V_as1 d_X8_init_11 rfl ?_
  refine V_new d_X8_init_12 rfl (fun _ => rfl) (fun _ => rfl) (fun _ => rfl) (by decide) (by decide) ?_
  refine V_dup d_X8_init_15 rfl ?_
  refine V_ci0 d_X8_init_16 (h4) ⟨Nat.le_of_ble_eq_true rfl, by omega, by omega, by omega⟩ ?_
  refine V_as2 d_X8_init_19 rfl ?_
  refine V_new d_X8_init_20 rfl (fun _ => rfl) (fun _ => rfl) (fun _ => rfl) (by decide) (by decide) ?_
  refine V_dup d_X8_init_23 rfl ?_
  refine V_al1 d_X8_init_24 ?_
  refine V_al2 d_X8_init_25 ?_
  refine V_ci2 d_X8_init_26 (h7) ⟨Nat.le_of_ble_eq_true rfl, by omega, by omega, by omega⟩ ?_
  refine V_as3 d_X8_init_29 rfl ?_
  refine V_al0 d_X8_init_30 ?_
  refine V_al1 d_X8_init_31 ?_
  refine V_putR d_X8_init_32 rfl rfl (by decide) ⟨rfl, rfl, rfl⟩ rfl rfl ?_
  refine V_al0 d_X8_init_35 ?_
  refine V_al2 d_X8_init_36 ?_
  refine V_putR d_X8_init_37 rfl rfl (by decide) ⟨rfl, rfl, rfl⟩ rfl rfl ?_
  refine V_al0 d_X8_init_40 ?_
  refine V_al3 d_X8_init_41 ?_
  refine V_putR d_X8_init_42 rfl rfl (by decide) ⟨rfl, rfl, rfl⟩ rfl rfl ?_
  refine V_al0 d_X8_init_45 ?_
  refine V_new d_X8_init_46 rfl (fun _ => rfl) (fun _ => rfl) (fun _ => rfl) (by decide) (by decide) ?_
  refine V_dup d_X8_init_49 rfl ?_
  refine V_al2 d_X8_init_50 ?_
  refine V_ci1 d_X8_init_51 (h0) ⟨Nat.le_of_ble_eq_true rfl, by omega, by omega, by omega⟩ ?_
  refine V_putR d_X8_init_54 rfl rfl (by decide) ⟨rfl, rfl, rfl⟩ rfl rfl ?_
  refine V_al0 d_X8_init_57 ?_
  refine V_new d_X8_init_58 rfl (fun _ => rfl) (fun _ => rfl) (fun _ => rfl) (by decide) (by decide) ?_
  refine V_dup d_X8_init_61 rfl ?_
  refine V_al1 d_X8_init_62 ?_
  refine V_al3 d_X8_init_63 ?_
  refine V_ci2 d_X8_init_64 (h6) ⟨Nat.le_of_ble_eq_true rfl, by omega, by omega, by omega⟩ ?_
  refine V_putR d_X8_init_67 rfl rfl (by decide) ⟨rfl, rfl, rfl⟩ rfl rfl ?_
  refine V_al0 d_X8_init_70 ?_
  refine V_new d_X8_init_71 rfl (fun _ => rfl) (fun _ => rfl) (fun _ => rfl) (by decide) (by decide) ?_
  refine V_dup d_X8_init_74 rfl ?_
  refine V_al2 d_X8_init_75 ?_
  refine V_ci1 d_X8_init_76 (h1) ⟨Nat.le_of_ble_eq_true rfl, by omega, by omega, by omega⟩ ?_
  refine V_putR d_X8_init_79 rfl rfl (by decide) ⟨rfl, rfl, rfl⟩ rfl rfl ?_
  refine V_al0 d_X8_init_82 ?_
  refine V_new d_X8_init_83 rfl (fun _ => rfl) (fun _ => rfl) (fun _ => rfl) (by decide) (by decide) ?_
  refine V_dup d_X8_init_86 rfl ?_
  refine V_ci0 d_X8_init_87 (h5) ⟨Nat.le_of_ble_eq_true rfl, by omega, by omega, by omega⟩ ?_
  refine V_putR d_X8_init_90 rfl rfl (by decide) ⟨rfl, rfl, rfl⟩ rfl rfl ?_
  exact V_vret d_X8_init_93 rfl rfl rfl
def w89 : AS := wX9 w8
def r89 : Rho := rX9 r8
theorem r89_0 : ∀ k, k < 35 → ∀ j, j < 18 → r89 k j = rho0 k j := by decide +kernel
