/-! the main phase: both objects stand, nothing is made any more -/
def rho0 : Rho := fun k j => match k, j with
  | 0, 0 => some 1 | 0, 1 => some 4 | 0, 2 => some 8 | 0, 3 => some 9 | 0, 4 => some 13 | 0, 5 => some 15 | 0, 6 => some 17
  | 1, 0 => some 2 | 1, 1 => some 3
  | 4, 0 => some 5 | 4, 1 => some 6 | 4, 2 => some 7
  | 8, 0 => some 1 | 8, 1 => some 4
  | 9, 0 => some 4 | 9, 1 => some 10 | 9, 2 => some 11 | 9, 3 => some 12
  | 13, 0 => some 1 | 13, 1 => some 8 | 13, 2 => some 14
  | 15, 0 => some 4 | 15, 1 => some 16
  | 17, 0 => some 18 | 17, 1 => some 19 | 17, 2 => some 20 | 17, 3 => some 21
  | 22, 0 => some 23 | 22, 3 => some 24 | 22, 4 => some 25 | 22, 5 => some 26 | 22, 6 => some 27 | 22, 9 => some 28 | 22, 10 => some 29
  | 22, 12 => some 30 | 22, 13 => some 31 | 22, 14 => some 32 | 22, 15 => some 33 | 22, 16 => some 34
  | _, _ => none
abbrev U (G : Gm) (M : MT) (Z : ZT) (pc : Nat) (L : List (Option Value)) (st : List Value) (S : AS) : Prop := V G M 35 35 Z 35 rho0 pc L st S
abbrev Ze (G : Gm) (r : Option Value) (SE : AS) : ZT := Zm G r 35 35 rho0 SE
abbrev Rm (G : Gm) (M : MT) (args : List Value) (S : AS) (r : Option Value) (SE : AS) : Prop := Rn G M args 35 rho0 S r 35 rho0 SE
section UC
variable {G : Gm} {M : MT} {Z : ZT} {pc pc' : Nat} {L : List (Option Value)} {st : List Value} {S : AS}

theorem U_cv0 {Mc : MT} {k : Nat} {rest : List Value} {r : Value} {S' : AS} (h : CV M pc Mc 0 pc') (hr : Rm G Mc [.ref (gB G + k)] S (some r) S') (hk : okd k = .inl (mK Mc)) (hn : Nat.ble (k + 1) 35 = true) (hw : Nat.ble (rest.map fun v => v.category).sum 8 = true) (kk : U G M Z pc' L (r :: rest) S') : U G M Z pc L (.ref (gB G + k) :: rest) S := V_cv0 h hr hk ⟨Nat.lt_of_lt_of_le (Nat.lt_of_lt_of_le (Nat.lt_succ_self k) (Nat.le_of_ble_eq_true hn)) (Nat.le_refl _), Nat.le_of_ble_eq_true hw, Nat.le_refl _, Nat.le_refl _, Nat.le_refl _⟩ kk
theorem U_cv0v {Mc : MT} {k : Nat} {rest : List Value} {S' : AS} (h : CV M pc Mc 0 pc') (hr : Rm G Mc [.ref (gB G + k)] S none S') (hk : okd k = .inl (mK Mc)) (hn : Nat.ble (k + 1) 35 = true) (hw : Nat.ble (rest.map fun v => v.category).sum 8 = true) (kk : U G M Z pc' L rest S') : U G M Z pc L (.ref (gB G + k) :: rest) S := V_cv0v h hr hk ⟨Nat.lt_of_lt_of_le (Nat.lt_of_lt_of_le (Nat.lt_succ_self k) (Nat.le_of_ble_eq_true hn)) (Nat.le_refl _), Nat.le_of_ble_eq_true hw, Nat.le_refl _, Nat.le_refl _, Nat.le_refl _⟩ kk
theorem U_cs0 {Mc : MT} {rest : List Value} {r : Value} {S' : AS} (h : CS M pc Mc 0 pc') (hr : Rm G Mc [] S (some r) S') (hw : Nat.ble (rest.map fun v => v.category).sum 8 = true) (kk : U G M Z pc' L (r :: rest) S') : U G M Z pc L (rest) S := V_cs0 h hr ⟨Nat.le_of_ble_eq_true hw, Nat.le_refl _, Nat.le_refl _, Nat.le_refl _⟩ kk
theorem U_cs0v {Mc : MT} {rest : List Value} {S' : AS} (h : CS M pc Mc 0 pc') (hr : Rm G Mc [] S none S') (hw : Nat.ble (rest.map fun v => v.category).sum 8 = true) (kk : U G M Z pc' L rest S') : U G M Z pc L (rest) S := V_cs0v h hr ⟨Nat.le_of_ble_eq_true hw, Nat.le_refl _, Nat.le_refl _, Nat.le_refl _⟩ kk
theorem U_cv1 {Mc : MT} {k : Nat} {x0 : Value} {rest : List Value} {r : Value} {S' : AS} (h : CV M pc Mc 1 pc') (hr : Rm G Mc [.ref (gB G + k), x0] S (some r) S') (hk : okd k = .inl (mK Mc)) (hn : Nat.ble (k + 1) 35 = true) (hw : Nat.ble (rest.map fun v => v.category).sum 8 = true) (kk : U G M Z pc' L (r :: rest) S') : U G M Z pc L (x0 :: .ref (gB G + k) :: rest) S := V_cv1 h hr hk ⟨Nat.lt_of_lt_of_le (Nat.lt_of_lt_of_le (Nat.lt_succ_self k) (Nat.le_of_ble_eq_true hn)) (Nat.le_refl _), Nat.le_of_ble_eq_true hw, Nat.le_refl _, Nat.le_refl _, Nat.le_refl _⟩ kk
theorem U_cv1v {Mc : MT} {k : Nat} {x0 : Value} {rest : List Value} {S' : AS} (h : CV M pc Mc 1 pc') (hr : Rm G Mc [.ref (gB G + k), x0] S none S') (hk : okd k = .inl (mK Mc)) (hn : Nat.ble (k + 1) 35 = true) (hw : Nat.ble (rest.map fun v => v.category).sum 8 = true) (kk : U G M Z pc' L rest S') : U G M Z pc L (x0 :: .ref (gB G + k) :: rest) S := V_cv1v h hr hk ⟨Nat.lt_of_lt_of_le (Nat.lt_of_lt_of_le (Nat.lt_succ_self k) (Nat.le_of_ble_eq_true hn)) (Nat.le_refl _), Nat.le_of_ble_eq_true hw, Nat.le_refl _, Nat.le_refl _, Nat.le_refl _⟩ kk
theorem U_cs1 {Mc : MT} {x0 : Value} {rest : List Value} {r : Value} {S' : AS} (h : CS M pc Mc 1 pc') (hr : Rm G Mc [x0] S (some r) S') (hw : Nat.ble (rest.map fun v => v.category).sum 8 = true) (kk : U G M Z pc' L (r :: rest) S') : U G M Z pc L (x0 :: rest) S := V_cs1 h hr ⟨Nat.le_of_ble_eq_true hw, Nat.le_refl _, Nat.le_refl _, Nat.le_refl _⟩ kk
theorem U_cs1v {Mc : MT} {x0 : Value} {rest : List Value} {S' : AS} (h : CS M pc Mc 1 pc') (hr : Rm G Mc [x0] S none S') (hw : Nat.ble (rest.map fun v => v.category).sum 8 = true) (kk : U G M Z pc' L rest S') : U G M Z pc L (x0 :: rest) S := V_cs1v h hr ⟨Nat.le_of_ble_eq_true hw, Nat.le_refl _, Nat.le_refl _, Nat.le_refl _⟩ kk
theorem U_cv2 {Mc : MT} {k : Nat} {x0 x1 : Value} {rest : List Value} {r : Value} {S' : AS} (h : CV M pc Mc 2 pc') (hr : Rm G Mc [.ref (gB G + k), x0, x1] S (some r) S') (hk : okd k = .inl (mK Mc)) (hn : Nat.ble (k + 1) 35 = true) (hw : Nat.ble (rest.map fun v => v.category).sum 8 = true) (kk : U G M Z pc' L (r :: rest) S') : U G M Z pc L (x1 :: x0 :: .ref (gB G + k) :: rest) S := V_cv2 h hr hk ⟨Nat.lt_of_lt_of_le (Nat.lt_of_lt_of_le (Nat.lt_succ_self k) (Nat.le_of_ble_eq_true hn)) (Nat.le_refl _), Nat.le_of_ble_eq_true hw, Nat.le_refl _, Nat.le_refl _, Nat.le_refl _⟩ kk
theorem U_cv2v {Mc : MT} {k : Nat} {x0 x1 : Value} {rest : List Value} {S' : AS} (h : CV M pc Mc 2 pc') (hr : Rm G Mc [.ref (gB G + k), x0, x1] S none S') (hk : okd k = .inl (mK Mc)) (hn : Nat.ble (k + 1) 35 = true) (hw : Nat.ble (rest.map fun v => v.category).sum 8 = true) (kk : U G M Z pc' L rest S') : U G M Z pc L (x1 :: x0 :: .ref (gB G + k) :: rest) S := V_cv2v h hr hk ⟨Nat.lt_of_lt_of_le (Nat.lt_of_lt_of_le (Nat.lt_succ_self k) (Nat.le_of_ble_eq_true hn)) (Nat.le_refl _), Nat.le_of_ble_eq_true hw, Nat.le_refl _, Nat.le_refl _, Nat.le_refl _⟩ kk
theorem U_cs2 {Mc : MT} {x0 x1 : Value} {rest : List Value} {r : Value} {S' : AS} (h : CS M pc Mc 2 pc') (hr : Rm G Mc [x0, x1] S (some r) S') (hw : Nat.ble (rest.map fun v => v.category).sum 8 = true) (kk : U G M Z pc' L (r :: rest) S') : U G M Z pc L (x1 :: x0 :: rest) S := V_cs2 h hr ⟨Nat.le_of_ble_eq_true hw, Nat.le_refl _, Nat.le_refl _, Nat.le_refl _⟩ kk
theorem U_cs2v {Mc : MT} {x0 x1 : Value} {rest : List Value} {S' : AS} (h : CS M pc Mc 2 pc') (hr : Rm G Mc [x0, x1] S none S') (hw : Nat.ble (rest.map fun v => v.category).sum 8 = true) (kk : U G M Z pc' L rest S') : U G M Z pc L (x1 :: x0 :: rest) S := V_cs2v h hr ⟨Nat.le_of_ble_eq_true hw, Nat.le_refl _, Nat.le_refl _, Nat.le_refl _⟩ kk
theorem U_cv3 {Mc : MT} {k : Nat} {x0 x1 x2 : Value} {rest : List Value} {r : Value} {S' : AS} (h : CV M pc Mc 3 pc') (hr : Rm G Mc [.ref (gB G + k), x0, x1, x2] S (some r) S') (hk : okd k = .inl (mK Mc)) (hn : Nat.ble (k + 1) 35 = true) (hw : Nat.ble (rest.map fun v => v.category).sum 8 = true) (kk : U G M Z pc' L (r :: rest) S') : U G M Z pc L (x2 :: x1 :: x0 :: .ref (gB G + k) :: rest) S := V_cv3 h hr hk ⟨Nat.lt_of_lt_of_le (Nat.lt_of_lt_of_le (Nat.lt_succ_self k) (Nat.le_of_ble_eq_true hn)) (Nat.le_refl _), Nat.le_of_ble_eq_true hw, Nat.le_refl _, Nat.le_refl _, Nat.le_refl _⟩ kk
theorem U_cv3v {Mc : MT} {k : Nat} {x0 x1 x2 : Value} {rest : List Value} {S' : AS} (h : CV M pc Mc 3 pc') (hr : Rm G Mc [.ref (gB G + k), x0, x1, x2] S none S') (hk : okd k = .inl (mK Mc)) (hn : Nat.ble (k + 1) 35 = true) (hw : Nat.ble (rest.map fun v => v.category).sum 8 = true) (kk : U G M Z pc' L rest S') : U G M Z pc L (x2 :: x1 :: x0 :: .ref (gB G + k) :: rest) S := V_cv3v h hr hk ⟨Nat.lt_of_lt_of_le (Nat.lt_of_lt_of_le (Nat.lt_succ_self k) (Nat.le_of_ble_eq_true hn)) (Nat.le_refl _), Nat.le_of_ble_eq_true hw, Nat.le_refl _, Nat.le_refl _, Nat.le_refl _⟩ kk
theorem U_cs3 {Mc : MT} {x0 x1 x2 : Value} {rest : List Value} {r : Value} {S' : AS} (h : CS M pc Mc 3 pc') (hr : Rm G Mc [x0, x1, x2] S (some r) S') (hw : Nat.ble (rest.map fun v => v.category).sum 8 = true) (kk : U G M Z pc' L (r :: rest) S') : U G M Z pc L (x2 :: x1 :: x0 :: rest) S := V_cs3 h hr ⟨Nat.le_of_ble_eq_true hw, Nat.le_refl _, Nat.le_refl _, Nat.le_refl _⟩ kk
theorem U_cs3v {Mc : MT} {x0 x1 x2 : Value} {rest : List Value} {S' : AS} (h : CS M pc Mc 3 pc') (hr : Rm G Mc [x0, x1, x2] S none S') (hw : Nat.ble (rest.map fun v => v.category).sum 8 = true) (kk : U G M Z pc' L rest S') : U G M Z pc L (x2 :: x1 :: x0 :: rest) S := V_cs3v h hr ⟨Nat.le_of_ble_eq_true hw, Nat.le_refl _, Nat.le_refl _, Nat.le_refl _⟩ kk
theorem U_cv4 {Mc : MT} {k : Nat} {x0 x1 x2 x3 : Value} {rest : List Value} {r : Value} {S' : AS} (h : CV M pc Mc 4 pc') (hr : Rm G Mc [.ref (gB G + k), x0, x1, x2, x3] S (some r) S') (hk : okd k = .inl (mK Mc)) (hn : Nat.ble (k + 1) 35 = true) (hw : Nat.ble (rest.map fun v => v.category).sum 8 = true) (kk : U G M Z pc' L (r :: rest) S') : U G M Z pc L (x3 :: x2 :: x1 :: x0 :: .ref (gB G + k) :: rest) S := V_cv4 h hr hk ⟨Nat.lt_of_lt_of_le (Nat.lt_of_lt_of_le (Nat.lt_succ_self k) (Nat.le_of_ble_eq_true hn)) (Nat.le_refl _), Nat.le_of_ble_eq_true hw, Nat.le_refl _, Nat.le_refl _, Nat.le_refl _⟩ kk
theorem U_cv4v {Mc : MT} {k : Nat} {x0 x1 x2 x3 : Value} {rest : List Value} {S' : AS} (h : CV M pc Mc 4 pc') (hr : Rm G Mc [.ref (gB G + k), x0, x1, x2, x3] S none S') (hk : okd k = .inl (mK Mc)) (hn : Nat.ble (k + 1) 35 = true) (hw : Nat.ble (rest.map fun v => v.category).sum 8 = true) (kk : U G M Z pc' L rest S') : U G M Z pc L (x3 :: x2 :: x1 :: x0 :: .ref (gB G + k) :: rest) S := V_cv4v h hr hk ⟨Nat.lt_of_lt_of_le (Nat.lt_of_lt_of_le (Nat.lt_succ_self k) (Nat.le_of_ble_eq_true hn)) (Nat.le_refl _), Nat.le_of_ble_eq_true hw, Nat.le_refl _, Nat.le_refl _, Nat.le_refl _⟩ kk
theorem U_cs4 {Mc : MT} {x0 x1 x2 x3 : Value} {rest : List Value} {r : Value} {S' : AS} (h : CS M pc Mc 4 pc') (hr : Rm G Mc [x0, x1, x2, x3] S (some r) S') (hw : Nat.ble (rest.map fun v => v.category).sum 8 = true) (kk : U G M Z pc' L (r :: rest) S') : U G M Z pc L (x3 :: x2 :: x1 :: x0 :: rest) S := V_cs4 h hr ⟨Nat.le_of_ble_eq_true hw, Nat.le_refl _, Nat.le_refl _, Nat.le_refl _⟩ kk
theorem U_cs4v {Mc : MT} {x0 x1 x2 x3 : Value} {rest : List Value} {S' : AS} (h : CS M pc Mc 4 pc') (hr : Rm G Mc [x0, x1, x2, x3] S none S') (hw : Nat.ble (rest.map fun v => v.category).sum 8 = true) (kk : U G M Z pc' L rest S') : U G M Z pc L (x3 :: x2 :: x1 :: x0 :: rest) S := V_cs4v h hr ⟨Nat.le_of_ble_eq_true hw, Nat.le_refl _, Nat.le_refl _, Nat.le_refl _⟩ kk
theorem U_cv5 {Mc : MT} {k : Nat} {x0 x1 x2 x3 x4 : Value} {rest : List Value} {r : Value} {S' : AS} (h : CV M pc Mc 5 pc') (hr : Rm G Mc [.ref (gB G + k), x0, x1, x2, x3, x4] S (some r) S') (hk : okd k = .inl (mK Mc)) (hn : Nat.ble (k + 1) 35 = true) (hw : Nat.ble (rest.map fun v => v.category).sum 8 = true) (kk : U G M Z pc' L (r :: rest) S') : U G M Z pc L (x4 :: x3 :: x2 :: x1 :: x0 :: .ref (gB G + k) :: rest) S := V_cv5 h hr hk ⟨Nat.lt_of_lt_of_le (Nat.lt_of_lt_of_le (Nat.lt_succ_self k) (Nat.le_of_ble_eq_true hn)) (Nat.le_refl _), Nat.le_of_ble_eq_true hw, Nat.le_refl _, Nat.le_refl _, Nat.le_refl _⟩ kk
theorem U_cv5v {Mc : MT} {k : Nat} {x0 x1 x2 x3 x4 : Value} {rest : List Value} {S' : AS} (h : CV M pc Mc 5 pc') (hr : Rm G Mc [.ref (gB G + k), x0, x1, x2, x3, x4] S none S') (hk : okd k = .inl (mK Mc)) (hn : Nat.ble (k + 1) 35 = true) (hw : Nat.ble (rest.map fun v => v.category).sum 8 = true) (kk : U G M Z pc' L rest S') : U G M Z pc L (x4 :: x3 :: x2 :: x1 :: x0 :: .ref (gB G + k) :: rest) S := V_cv5v h hr hk ⟨Nat.lt_of_lt_of_le (Nat.lt_of_lt_of_le (Nat.lt_succ_self k) (Nat.le_of_ble_eq_true hn)) (Nat.le_refl _), Nat.le_of_ble_eq_true hw, Nat.le_refl _, Nat.le_refl _, Nat.le_refl _⟩ kk
theorem U_cs5 {Mc : MT} {x0 x1 x2 x3 x4 : Value} {rest : List Value} {r : Value} {S' : AS} (h : CS M pc Mc 5 pc') (hr : Rm G Mc [x0, x1, x2, x3, x4] S (some r) S') (hw : Nat.ble (rest.map fun v => v.category).sum 8 = true) (kk : U G M Z pc' L (r :: rest) S') : U G M Z pc L (x4 :: x3 :: x2 :: x1 :: x0 :: rest) S := V_cs5 h hr ⟨Nat.le_of_ble_eq_true hw, Nat.le_refl _, Nat.le_refl _, Nat.le_refl _⟩ kk
theorem U_cs5v {Mc : MT} {x0 x1 x2 x3 x4 : Value} {rest : List Value} {S' : AS} (h : CS M pc Mc 5 pc') (hr : Rm G Mc [x0, x1, x2, x3, x4] S none S') (hw : Nat.ble (rest.map fun v => v.category).sum 8 = true) (kk : U G M Z pc' L rest S') : U G M Z pc L (x4 :: x3 :: x2 :: x1 :: x0 :: rest) S := V_cs5v h hr ⟨Nat.le_of_ble_eq_true hw, Nat.le_refl _, Nat.le_refl _, Nat.le_refl _⟩ kk
theorem U_cv6 {Mc : MT} {k : Nat} {x0 x1 x2 x3 x4 x5 : Value} {rest : List Value} {r : Value} {S' : AS} (h : CV M pc Mc 6 pc') (hr : Rm G Mc [.ref (gB G + k), x0, x1, x2, x3, x4, x5] S (some r) S') (hk : okd k = .inl (mK Mc)) (hn : Nat.ble (k + 1) 35 = true) (hw : Nat.ble (rest.map fun v => v.category).sum 8 = true) (kk : U G M Z pc' L (r :: rest) S') : U G M Z pc L (x5 :: x4 :: x3 :: x2 :: x1 :: x0 :: .ref (gB G + k) :: rest) S := V_cv6 h hr hk ⟨Nat.lt_of_lt_of_le (Nat.lt_of_lt_of_le (Nat.lt_succ_self k) (Nat.le_of_ble_eq_true hn)) (Nat.le_refl _), Nat.le_of_ble_eq_true hw, Nat.le_refl _, Nat.le_refl _, Nat.le_refl _⟩ kk
theorem U_cv6v {Mc : MT} {k : Nat} {x0 x1 x2 x3 x4 x5 : Value} {rest : List Value} {S' : AS} (h : CV M pc Mc 6 pc') (hr : Rm G Mc [.ref (gB G + k), x0, x1, x2, x3, x4, x5] S none S') (hk : okd k = .inl (mK Mc)) (hn : Nat.ble (k + 1) 35 = true) (hw : Nat.ble (rest.map fun v => v.category).sum 8 = true) (kk : U G M Z pc' L rest S') : U G M Z pc L (x5 :: x4 :: x3 :: x2 :: x1 :: x0 :: .ref (gB G + k) :: rest) S := V_cv6v h hr hk ⟨Nat.lt_of_lt_of_le (Nat.lt_of_lt_of_le (Nat.lt_succ_self k) (Nat.le_of_ble_eq_true hn)) (Nat.le_refl _), Nat.le_of_ble_eq_true hw, Nat.le_refl _, Nat.le_refl _, Nat.le_refl _⟩ kk
theorem U_cs6 {Mc : MT} {x0 x1 x2 x3 x4 x5 : Value} {rest : List Value} {r : Value} {S' : AS} (h : CS M pc Mc 6 pc') (hr : Rm G Mc [x0, x1, x2, x3, x4, x5] S (some r) S') (hw : Nat.ble (rest.map fun v => v.category).sum 8 = true) (kk : U G M Z pc' L (r :: rest) S') : U G M Z pc L (x5 :: x4 :: x3 :: x2 :: x1 :: x0 :: rest) S := V_cs6 h hr ⟨Nat.le_of_ble_eq_true hw, Nat.le_refl _, Nat.le_refl _, Nat.le_refl _⟩ kk
theorem U_cs6v {Mc : MT} {x0 x1 x2 x3 x4 x5 : Value} {rest : List Value} {S' : AS} (h : CS M pc Mc 6 pc') (hr : Rm G Mc [x0, x1, x2, x3, x4, x5] S none S') (hw : Nat.ble (rest.map fun v => v.category).sum 8 = true) (kk : U G M Z pc' L rest S') : U G M Z pc L (x5 :: x4 :: x3 :: x2 :: x1 :: x0 :: rest) S := V_cs6v h hr ⟨Nat.le_of_ble_eq_true hw, Nat.le_refl _, Nat.le_refl _, Nat.le_refl _⟩ kk
theorem U_ic_eqN {tgt x y : Nat} (h : Di M pc .eq tgt pc') (hx : x < 2 ^ 31) (hy : y < 2 ^ 31) (kt : x = y → U G M Z tgt L st S) (kf : ¬ x = y → U G M Z pc' L st S) : U G M Z pc L (.int (nI y) :: .int (nI x) :: st) S := V_ic_eq h (fun q => kt ((nI_eq hx hy).mp q)) (fun q => kf (fun e => q ((nI_eq hx hy).mpr e)))
theorem U_if_eqN {tgt x : Nat} (h : Db M pc .eq tgt pc') (hx : x < 2 ^ 31) (kt : x = 0 → U G M Z tgt L st S) (kf : ¬ x = 0 → U G M Z pc' L st S) : U G M Z pc L (.int (nI x) :: st) S := by
  have hy : 0 < 2 ^ 31 := by decide
  exact V_if_eq h (fun q => kt ((nI_eq hx hy).mp q)) (fun q => kf (fun e => q ((nI_eq hx hy).mpr e)))
theorem U_ic_neN {tgt x y : Nat} (h : Di M pc .ne tgt pc') (hx : x < 2 ^ 31) (hy : y < 2 ^ 31) (kt : ¬ x = y → U G M Z tgt L st S) (kf : x = y → U G M Z pc' L st S) : U G M Z pc L (.int (nI y) :: .int (nI x) :: st) S := V_ic_ne h (fun q => kt (fun e => q ((nI_eq hx hy).mpr e))) (fun q => kf ((nI_eq hx hy).mp q))
theorem U_if_neN {tgt x : Nat} (h : Db M pc .ne tgt pc') (hx : x < 2 ^ 31) (kt : ¬ x = 0 → U G M Z tgt L st S) (kf : x = 0 → U G M Z pc' L st S) : U G M Z pc L (.int (nI x) :: st) S := by
  have hy : 0 < 2 ^ 31 := by decide
  exact V_if_ne h (fun q => kt (fun e => q ((nI_eq hx hy).mpr e))) (fun q => kf ((nI_eq hx hy).mp q))
theorem U_ic_ltN {tgt x y : Nat} (h : Di M pc .lt tgt pc') (hx : x < 2 ^ 31) (hy : y < 2 ^ 31) (kt : x < y → U G M Z tgt L st S) (kf : y ≤ x → U G M Z pc' L st S) : U G M Z pc L (.int (nI y) :: .int (nI x) :: st) S := V_ic_lt h (fun q => kt ((nI_ltI hx hy).mp q)) (fun q => kf (Nat.le_of_not_lt (fun e => q ((nI_ltI hx hy).mpr e))))
theorem U_if_ltN {tgt x : Nat} (h : Db M pc .lt tgt pc') (hx : x < 2 ^ 31) (kt : x < 0 → U G M Z tgt L st S) (kf : 0 ≤ x → U G M Z pc' L st S) : U G M Z pc L (.int (nI x) :: st) S := by
  have hy : 0 < 2 ^ 31 := by decide
  exact V_if_lt h (fun q => kt ((nI_ltI hx hy).mp q)) (fun q => kf (Nat.le_of_not_lt (fun e => q ((nI_ltI hx hy).mpr e))))
theorem U_ic_geN {tgt x y : Nat} (h : Di M pc .ge tgt pc') (hx : x < 2 ^ 31) (hy : y < 2 ^ 31) (kt : y ≤ x → U G M Z tgt L st S) (kf : x < y → U G M Z pc' L st S) : U G M Z pc L (.int (nI y) :: .int (nI x) :: st) S := V_ic_ge h (fun q => kt ((nI_leI hy hx).mp q)) (fun q => kf (Nat.lt_of_not_le (fun e => q ((nI_leI hy hx).mpr e))))
theorem U_if_geN {tgt x : Nat} (h : Db M pc .ge tgt pc') (hx : x < 2 ^ 31) (kt : 0 ≤ x → U G M Z tgt L st S) (kf : x < 0 → U G M Z pc' L st S) : U G M Z pc L (.int (nI x) :: st) S := by
  have hy : 0 < 2 ^ 31 := by decide
  exact V_if_ge h (fun q => kt ((nI_leI hy hx).mp q)) (fun q => kf (Nat.lt_of_not_le (fun e => q ((nI_leI hy hx).mpr e))))
theorem U_ic_gtN {tgt x y : Nat} (h : Di M pc .gt tgt pc') (hx : x < 2 ^ 31) (hy : y < 2 ^ 31) (kt : y < x → U G M Z tgt L st S) (kf : x ≤ y → U G M Z pc' L st S) : U G M Z pc L (.int (nI y) :: .int (nI x) :: st) S := V_ic_gt h (fun q => kt ((nI_ltI hy hx).mp q)) (fun q => kf (Nat.le_of_not_lt (fun e => q ((nI_ltI hy hx).mpr e))))
theorem U_if_gtN {tgt x : Nat} (h : Db M pc .gt tgt pc') (hx : x < 2 ^ 31) (kt : 0 < x → U G M Z tgt L st S) (kf : x ≤ 0 → U G M Z pc' L st S) : U G M Z pc L (.int (nI x) :: st) S := by
  have hy : 0 < 2 ^ 31 := by decide
  exact V_if_gt h (fun q => kt ((nI_ltI hy hx).mp q)) (fun q => kf (Nat.le_of_not_lt (fun e => q ((nI_ltI hy hx).mpr e))))
theorem U_ic_leN {tgt x y : Nat} (h : Di M pc .le tgt pc') (hx : x < 2 ^ 31) (hy : y < 2 ^ 31) (kt : x ≤ y → U G M Z tgt L st S) (kf : y < x → U G M Z pc' L st S) : U G M Z pc L (.int (nI y) :: .int (nI x) :: st) S := V_ic_le h (fun q => kt ((nI_leI hx hy).mp q)) (fun q => kf (Nat.lt_of_not_le (fun e => q ((nI_leI hx hy).mpr e))))
theorem U_if_leN {tgt x : Nat} (h : Db M pc .le tgt pc') (hx : x < 2 ^ 31) (kt : x ≤ 0 → U G M Z tgt L st S) (kf : 0 < x → U G M Z pc' L st S) : U G M Z pc L (.int (nI x) :: st) S := by
  have hy : 0 < 2 ^ 31 := by decide
  exact V_if_le h (fun q => kt ((nI_leI hx hy).mp q)) (fun q => kf (Nat.lt_of_not_le (fun e => q ((nI_leI hx hy).mpr e))))
end UC
/-- a loop that counts up: from i, k turns to go -/
def lp {α : Type} (f : Nat → α → α) : Nat → Nat → α → α
  | 0, _, a => a
  | k + 1, i, a => lp f k (i + 1) (f i a)
theorem lp_ind {α : Type} {N : Nat} (f : Nat → α → α) (P : Nat → α → Prop) (hs : ∀ i a, i < N → P (i + 1) (f i a) → P i a) : ∀ k i a, i + k = N → P N (lp f k i a) → P i a := by
  intro k
  induction k with
  | zero => intro i a h hP; rw [← h, Nat.add_zero] at hP; exact hP
  | succ k ih =>
    intro i a h hP
    exact hs i a (by omega) (ih (i + 1) (f i a) (by omega) hP)
theorem lp_inv {α : Type} {N : Nat} (f : Nat → α → α) (I : Nat → α → Prop) (P : Nat → α → Prop) (hI : ∀ i a, i < N → I i a → I (i + 1) (f i a)) (hs : ∀ i a, i < N → I i a → P (i + 1) (f i a) → P i a) : ∀ k i a, i + k = N → I i a → P N (lp f k i a) → P i a := by
  intro k
  induction k with
  | zero => intro i a h _ hP; rw [← h, Nat.add_zero] at hP; exact hP
  | succ k ih =>
    intro i a h hi hP
    exact hs i a (by omega) hi (ih (i + 1) (f i a) (by omega) (hI i a (by omega) hi) hP)
theorem lp_keep {α : Type} {N : Nat} (f : Nat → α → α) (I : Nat → α → Prop) (hI : ∀ i a, i < N → I i a → I (i + 1) (f i a)) : ∀ k i a, i + k = N → I i a → I N (lp f k i a) := by
  intro k
  induction k with
  | zero => intro i a h hi; rw [← h, Nat.add_zero]; exact hi
  | succ k ih =>
    intro i a h hi
    exact ih (i + 1) (f i a) (by omega) (hI i a (by omega) hi)
theorem lp_succ {α : Type} (f : Nat → α → α) : ∀ k i a, lp f (k + 1) i a = f (i + k) (lp f k i a) := by
  intro k
  induction k with
  | zero => intro i a; rfl
  | succ k ih => intro i a; rw [lp, ih (i + 1) (f i a), lp, show i + 1 + k = i + (k + 1) by omega]
/-- an int of the range 0 to N, as a number -/
theorem i_cases (v : Int32) (N : Nat) (hN : N < 2 ^ 31) : (∃ j, j ≤ N ∧ v = nI j) ∨ ¬ (nI 0 ≤ v ∧ v ≤ nI N) := by
  by_cases h : nI 0 ≤ v ∧ v ≤ nI N
  · left
    have h0 : ¬ v < 0 := by
      intro q
      have h1 := Int32.le_iff_toInt_le.mp h.1
      have h2 := Int32.lt_iff_toInt_lt.mp q
      rw [nI_toInt (by decide)] at h1
      rw [Int32.toInt_zero] at h2
      omega
    obtain ⟨j, hj, rfl⟩ := nI_of h0
    exact ⟨j, (nI_leI hj hN).mp h.2, rfl⟩
  · exact Or.inr h
def inR (v lo hi : Int32) : Bool := decide (lo ≤ v) && decide (v ≤ hi)
theorem inR_t {v lo hi : Int32} (h1 : ¬ v < lo) (h2 : ¬ hi < v) : inR v lo hi = true := by simp [inR, Int32.not_lt.mp h1, Int32.not_lt.mp h2]
theorem inR_f1 {v lo hi : Int32} (h1 : v < lo) : inR v lo hi = false := by simp [inR, Int32.not_le.mpr h1]
theorem inR_f2 {v lo hi : Int32} (h1 : hi < v) : inR v lo hi = false := by simp [inR, Int32.not_le.mpr h1]
theorem inR_N {j lo hi : Nat} (hj : j < 2 ^ 31) (hl : lo < 2 ^ 31) (hh : hi < 2 ^ 31) : inR (nI j) (nI lo) (nI hi) = (decide (lo ≤ j) && decide (j ≤ hi)) := by
  unfold inR
  rw [Bool.eq_iff_iff]
  simp only [Bool.and_eq_true, decide_eq_true_eq, nI_leI hl hj, nI_leI hj hh]
theorem inR_ex {v : Int32} {N : Nat} (hN : N < 2 ^ 31) (h : inR v (nI 0) (nI N) = true) : ∃ j, j ≤ N ∧ v = nI j := by
  rcases i_cases v N hN with q | q
  · exact q
  · simp only [inR, Bool.and_eq_true, decide_eq_true_eq] at h
    exact absurd h q
def fillS (S : AS) (k n : Nat) (v : Int32) : AS := (fun a b => if a = k ∧ b < n then v else S.1 a b, S.2)
theorem fillS_0 (S : AS) (k : Nat) (v : Int32) : fillS S k 0 v = S := by
  unfold fillS
  refine Prod.ext (funext fun a => funext fun b => ?_) rfl
  simp
theorem fillS_s (S : AS) (k n : Nat) (v : Int32) : sI (fillS S k n v) k n v = fillS S k (n + 1) v := by
  unfold fillS sI
  refine Prod.ext (funext fun a => funext fun b => ?_) rfl
  by_cases h : a = k ∧ b = n
  · simp [h]
  · by_cases h2 : a = k ∧ b < n
    · simp [h2]; omega
    · simp only [h, h2, if_false]
      rw [if_neg (by omega)]
theorem inR_T {j hi : Nat} (h : j ≤ hi) (hh : hi < 2 ^ 31) : inR (nI j) (nI 0) (nI hi) = true := by
  rw [inR_N (by omega) (by decide) hh]; simp [h]
theorem inR_F {j hi : Nat} (h : hi < j) (hj : j < 2 ^ 31) : inR (nI j) (nI 0) (nI hi) = false := by
  rw [inR_N hj (by decide) (by omega)]; simp; omega
theorem bTF {b : Bool} (h : b = true) (h' : b = false) : False := by rw [h] at h'; cases h'
theorem nI_m1 {n : Nat} (h : n < 2 ^ 31) : ¬ nI n = -1 := by
  intro q
  have h1 := congrArg Int32.toInt q
  rw [nI_toInt h] at h1
  have h2 : (-1 : Int32).toInt = -1 := by decide
  omega
theorem nI_inj {a b : Nat} (ha : a < 2 ^ 31) (hb : b < 2 ^ 31) (h : nI a = nI b) : a = b := (nI_eq ha hb).mp h

