/-! thieves -/
def hlN (o : Option Nat) (lk nd wt m : Nat) : Nat := match o with
  | some c => if c < 60 ∧ c < m + nd ∧ m < c + lk then 0 else wt
  | none => wt
def hh (w wy : Nat → Nat) (lk nd : Nat) (q : List Nat) (x m : Nat) : Nat := hlN (arO wy lk q 0 x) lk nd (w x) m
theorem hlN_le (o : Option Nat) (lk nd wt m : Nat) : hlN o lk nd wt m ≤ wt := by
  cases o with
  | none => exact Nat.le_refl _
  | some c =>
    show (if c < 60 ∧ c < m + nd ∧ m < c + lk then 0 else wt) ≤ wt
    split
    · exact Nat.zero_le _
    · exact Nat.le_refl _
theorem hh_le {w wy : Nat → Nat} {lk nd : Nat} (h : HB w wy lk nd) (q : List Nat) (x m : Nat) : hh w wy lk nd q x m ≤ 99 := Nat.le_trans (hlN_le _ _ _ _ _) (h.1 x)
def mI (mo : Nat) : Int32 := if mo = 0 then -1 else nI (mo - 1)
theorem mI_le {v mo : Nat} (hv : v < 1000000) (hm : mo < 1000000) : nI v ≤ mI mo ↔ v + 1 ≤ mo := by
  unfold mI
  by_cases h : mo = 0
  · rw [if_pos h]
    constructor
    · intro q
      have h1 := Int32.le_iff_toInt_le.mp q
      rw [nI_toInt (by omega)] at h1
      have h2 : (-1 : Int32).toInt = -1 := by decide
      omega
    · intro q; omega
  · rw [if_neg h, nI_leI (by omega) (by omega)]
    omega
/-- the best break so far: 60 shed and minute; one more than the mean (0: none yet) -/
def tkB (x m v : Nat) (st : Nat × Nat) : Nat × Nat := if st.2 < v + 1 then (60 * x + m, v + 1) else st
def bestI (g : Nat → Nat → Nat) (k m0 x : Nat) (st : Nat × Nat) : Nat × Nat := lp (fun m st => tkB x m (g x m) st) k m0 st
def best (g : Nat → Nat → Nat) (k m0 lamp : Nat) : Nat × Nat := lp (fun x st => if x = lamp then st else bestI g k m0 x st) 6 0 (m0, 0)
def TVB (S : AS) (st : Nat × Nat) : Prop := S.1 13 5 = mI st.2 ∧ (0 < st.2 → S.1 13 3 = nI (st.1 / 60) ∧ S.1 13 4 = nI (st.1 % 60))
abbrev P13 : Nat → Nat → Bool := fun a b => a == 13 && (b == 3 || b == 4 || b == 5)
set_option maxRecDepth 100000 in
theorem c_X6_haul {G : Gm} {S : AS} {w wy : Nat → Nat} {lk nd x m : Nat} {o : Option Nat} (hH : HVc S w wy lk nd) (hB : HB w wy lk nd) (hx : x < 6) (hm : m < 1000) : Rm G M_X6_haul [.ref (gB G + 13), .int (nI x), .int (nI m), .int (ctI o)] S (some (.int (nI (hlN o lk nd (w x) m)))) S := by
  obtain ⟨l1, l2⟩ := hB.2.2.1
  obtain ⟨n1, n2⟩ := hB.2.2.2
  have hw := c_X3_worthOf (G := G) (S := S) (i := x) rfl hx
  rw [hH.1 x hx] at hw
  refine Rn_of hp_X6_haul [some (.ref (gB G + 13)), some (.int (nI x)), some (.int (nI m)), some (.int (ctI o)), none] rfl (Nat.le_of_ble_eq_true rfl) (Nat.le_of_ble_eq_true rfl) ?_
  rcases ctI_cases o with ⟨c, e1, e2, e3⟩ | ⟨e1, e2⟩
  · rw [e3]
    have e4 : hlN o lk nd (w x) m = if c < m + nd ∧ m < c + lk then 0 else w x := by rw [e1]; simp [hlN, e2]
    rw [e4]
    refine V_il3 d_X6_haul_0 ?_
    refine V_ki d_X6_haul_1 ?_
    refine V_ic_eq d_X6_haul_2 (fun q => (nI_m1 (by omega) q).elim) (fun h2 => ?_)
    refine V_il2 d_X6_haul_5 ?_
    refine V_al0 d_X6_haul_6 ?_
    refine V_getR d_X6_haul_7 rfl rfl (by decide) rfl ?_
    refine V_getIe d_X6_haul_10 rfl rfl (by decide) (hH.2.2.2) ?_
    first | with_reducible refine V_iaddN d_X6_haul_13 ?_ | refine V_iadd d_X6_haul_13 ?_
    refine V_il3 d_X6_haul_14 ?_
    refine U_ic_leN d_X6_haul_15 (by omega) (by omega) (fun h15 => ?_) (fun h15 => ?_)
    · refine V_ki d_X6_haul_31 ?_
      refine V_goto d_X6_haul_32 ?_
      refine V_is4 d_X6_haul_36 rfl ?_
      refine V_il4 d_X6_haul_38 ?_
      refine U_if_eqN d_X6_haul_40 (by omega) (fun h40 => ?_) (fun h40 => ?_)
      · have h40' := h40
        refine V_ki d_X6_haul_54 ?_
        exact V_iret d_X6_haul_55 rfl (by first | (exfalso; omega) | rw [if_neg (by omega)] | rw [if_pos (by omega)]) rfl
      · have h40' := h40
        refine V_al0 d_X6_haul_43 ?_
        refine V_getR d_X6_haul_44 rfl rfl (by decide) rfl ?_
        refine V_il1 d_X6_haul_47 ?_
        refine U_cv1 d_X6_haul_48 (hw) rfl rfl rfl ?_
        refine V_goto d_X6_haul_51 ?_
        exact V_iret d_X6_haul_55 rfl (by first | (exfalso; omega) | rw [if_neg (by omega)] | rw [if_pos (by omega)]) rfl
    · refine V_il2 d_X6_haul_18 ?_
      refine V_il3 d_X6_haul_19 ?_
      refine V_al0 d_X6_haul_20 ?_
      refine V_getR d_X6_haul_21 rfl rfl (by decide) rfl ?_
      refine V_getIe d_X6_haul_24 rfl rfl (by decide) (hH.2.2.1) ?_
      first | with_reducible refine V_iaddN d_X6_haul_27 ?_ | refine V_iadd d_X6_haul_27 ?_
      refine U_ic_ltN d_X6_haul_28 (by omega) (by omega) (fun h28 => ?_) (fun h28 => ?_)
      · refine V_ki d_X6_haul_35 ?_
        refine V_is4 d_X6_haul_36 rfl ?_
        refine V_il4 d_X6_haul_38 ?_
        refine U_if_eqN d_X6_haul_40 (by omega) (fun h40 => ?_) (fun h40 => ?_)
        · have h40' := h40
          refine V_ki d_X6_haul_54 ?_
          exact V_iret d_X6_haul_55 rfl (by first | (exfalso; omega) | rw [if_neg (by omega)] | rw [if_pos (by omega)]) rfl
        · have h40' := h40
          refine V_al0 d_X6_haul_43 ?_
          refine V_getR d_X6_haul_44 rfl rfl (by decide) rfl ?_
          refine V_il1 d_X6_haul_47 ?_
          refine U_cv1 d_X6_haul_48 (hw) rfl rfl rfl ?_
          refine V_goto d_X6_haul_51 ?_
          exact V_iret d_X6_haul_55 rfl (by first | (exfalso; omega) | rw [if_neg (by omega)] | rw [if_pos (by omega)]) rfl
      · refine V_ki d_X6_haul_31 ?_
        refine V_goto d_X6_haul_32 ?_
        refine V_is4 d_X6_haul_36 rfl ?_
        refine V_il4 d_X6_haul_38 ?_
        refine U_if_eqN d_X6_haul_40 (by omega) (fun h40 => ?_) (fun h40 => ?_)
        · have h40' := h40
          refine V_ki d_X6_haul_54 ?_
          exact V_iret d_X6_haul_55 rfl (by first | (exfalso; omega) | rw [if_neg (by omega)] | rw [if_pos (by omega)]) rfl
        · have h40' := h40
          refine V_al0 d_X6_haul_43 ?_
          refine V_getR d_X6_haul_44 rfl rfl (by decide) rfl ?_
          refine V_il1 d_X6_haul_47 ?_
          refine U_cv1 d_X6_haul_48 (hw) rfl rfl rfl ?_
          refine V_goto d_X6_haul_51 ?_
          exact V_iret d_X6_haul_55 rfl (by first | (exfalso; omega) | rw [if_neg (by omega)] | rw [if_pos (by omega)]) rfl
  · rw [e1]
    have e4 : hlN o lk nd (w x) m = w x := by
      cases o with
      | none => rfl
      | some c => have := e2 c rfl; simp [hlN, Nat.not_lt.mpr this]
    rw [e4]
    refine V_il3 d_X6_haul_0 ?_
    refine V_ki d_X6_haul_1 ?_
    refine V_ic_eq d_X6_haul_2 (fun h2 => ?_) (fun q => absurd rfl q)
    refine V_ki d_X6_haul_31 ?_
    refine V_goto d_X6_haul_32 ?_
    refine V_is4 d_X6_haul_36 rfl ?_
    refine V_il4 d_X6_haul_38 ?_
    refine U_if_eqN d_X6_haul_40 (by omega) (fun q => absurd q (by omega)) (fun h40 => ?_)
    refine V_al0 d_X6_haul_43 ?_
    refine V_getR d_X6_haul_44 rfl rfl (by decide) rfl ?_
    refine V_il1 d_X6_haul_47 ?_
    refine U_cv1 d_X6_haul_48 (hw) rfl rfl rfl ?_
    refine V_goto d_X6_haul_51 ?_
    exact V_iret d_X6_haul_55 rfl (by first | rfl | simp_all) rfl
set_option maxRecDepth 100000 in
theorem c_X6_take {G : Gm} {S : AS} {x m v : Nat} {st : Nat × Nat} (ht : TVB S st) (hm : m < 60) (hv : v < 100000) (hs : st.2 < 100001) : ∃ SE, Rm G M_X6_take [.ref (gB G + 13), .int (nI x), .int (nI m), .int (nI v)] S none SE ∧ TVB SE (tkB x m v st) ∧ Ag P13 S SE := by
  by_cases h : st.2 < v + 1
  · refine ⟨sI (sI (sI S 13 3 (nI x)) 13 4 (nI m)) 13 5 (nI v), ?_, ?_, ((Ag.rf.sI rfl).sI rfl).sI rfl⟩
    · refine Rn_of hp_X6_take [some (.ref (gB G + 13)), some (.int (nI x)), some (.int (nI m)), some (.int (nI v))] rfl (Nat.le_of_ble_eq_true rfl) (Nat.le_of_ble_eq_true rfl) ?_
      refine V_il3 d_X6_take_0 ?_
      refine V_al0 d_X6_take_1 ?_
      refine V_getIe d_X6_take_2 rfl rfl (by decide) (ht.1) ?_
      refine V_ic_le d_X6_take_5 (fun q => absurd ((mI_le (by omega) (by omega)).mp q) (by omega)) (fun h5 => ?_)
      refine V_al0 d_X6_take_8 ?_
      refine V_il1 d_X6_take_9 ?_
      refine V_putI d_X6_take_10 rfl rfl (by decide) rfl ?_
      refine V_al0 d_X6_take_13 ?_
      refine V_il2 d_X6_take_14 ?_
      refine V_putI d_X6_take_15 rfl rfl (by decide) rfl ?_
      refine V_al0 d_X6_take_18 ?_
      refine V_il3 d_X6_take_19 ?_
      refine V_putI d_X6_take_20 rfl rfl (by decide) rfl ?_
      exact V_vret d_X6_take_23 rfl rfl rfl
    · rw [tkB, if_pos h]
      refine ⟨rfl, fun _ => ⟨?_, ?_⟩⟩
      · show nI x = nI ((60 * x + m) / 60)
        rw [show (60 * x + m) / 60 = x by omega]
      · show nI m = nI ((60 * x + m) % 60)
        rw [show (60 * x + m) % 60 = m by omega]
  · refine ⟨S, ?_, ?_, Ag.rf⟩
    · refine Rn_of hp_X6_take [some (.ref (gB G + 13)), some (.int (nI x)), some (.int (nI m)), some (.int (nI v))] rfl (Nat.le_of_ble_eq_true rfl) (Nat.le_of_ble_eq_true rfl) ?_
      refine V_il3 d_X6_take_0 ?_
      refine V_al0 d_X6_take_1 ?_
      refine V_getIe d_X6_take_2 rfl rfl (by decide) (ht.1) ?_
      refine V_ic_le d_X6_take_5 (fun h5 => ?_) (fun q => absurd ((mI_le (by omega) (by omega)).mpr (by omega)) q)
      exact V_vret d_X6_take_23 rfl rfl rfl
    · rw [tkB, if_neg h]; exact ht
theorem tkB_le {x m v B : Nat} {st : Nat × Nat} (hv : v + 1 ≤ B) (hs : st.2 ≤ B) : (tkB x m v st).2 ≤ B := by
  unfold tkB
  split
  · exact hv
  · exact hs
set_option maxRecDepth 100000 in
theorem c_X6_seek {G : Gm} {S : AS} {w wy : Nat → Nat} {lk nd : Nat} {ft : Int32} {N : List (List Nat)} {a b pa pb m0 lamp : Nat} {lI : Int32} (hH : HVc S w wy lk nd) (hB : HB w wy lk nd) (hv : CNv S ft N) (hN : WFN N) (ha : a < N.length) (hb : b < N.length) (hpa : pa ≤ 99) (hpb : pb ≤ 99) (hm0 : m0 ≤ 1) (hlI : ∀ x, x < 6 → (nI x = lI ↔ x = lamp)) :
    ∃ SE, Rm G M_X6_seek [.ref (gB G + 13), .int (nI a), .int (nI pa), .int (nI b), .int (nI pb), .int (nI m0), .int lI] S none SE ∧ TVB SE (best (fun x m => pa * hh w wy lk nd (ni N a) x m + pb * hh w wy lk nd (ni N b) x m) (61 - nd - m0) m0 lamp) ∧ Ag P13 S SE := by
  obtain ⟨n1, n2⟩ := hB.2.2.2
  have h8 := hN.1
  have hgl : ∀ x m, pa * hh w wy lk nd (ni N a) x m + pb * hh w wy lk nd (ni N b) x m < 50000 := by
    intro x m
    have h1 := Nat.mul_le_mul hpa (hh_le hB (ni N a) x m)
    have h2 := Nat.mul_le_mul hpb (hh_le hB (ni N b) x m)
    omega
  have hgd : ∀ x m, pa * hlN (arO wy lk (ni N a) 0 x) lk nd (w x) m + pb * hlN (arO wy lk (ni N b) 0 x) lk nd (w x) m = pa * hh w wy lk nd (ni N a) x m + pb * hh w wy lk nd (ni N b) x m := fun x m => rfl
  generalize hg : (fun x m => pa * hh w wy lk nd (ni N a) x m + pb * hh w wy lk nd (ni N b) x m) = g
  have hge : ∀ x m, pa * hh w wy lk nd (ni N a) x m + pb * hh w wy lk nd (ni N b) x m = g x m := fun x m => by rw [← hg]
  have inner : ∀ (x : Nat), x < 6 → x ≠ lamp → ∀ (d m : Nat) (st : Nat × Nat) (S1 : AS), m + d = 61 - nd → st.2 < 100001 → TVB S1 st → Ag P13 S S1 →
      ∃ S2, TVB S2 (bestI g d m x st) ∧ (bestI g d m x st).2 < 100001 ∧ Ag P13 S S2 ∧ ∀ Z, U G M_X6_seek Z 105 [some (.ref (gB G + 13)), some (.int (nI a)), some (.int (nI pa)), some (.int (nI b)), some (.int (nI pb)), some (.int (nI m0)), some (.int lI), some (.int (nI x)), some (.int (ctI (arO wy lk (ni N a) 0 x))), some (.int (ctI (arO wy lk (ni N b) 0 x))), some (.int (nI (61 - nd)))] [] S2 → U G M_X6_seek Z 43 [some (.ref (gB G + 13)), some (.int (nI a)), some (.int (nI pa)), some (.int (nI b)), some (.int (nI pb)), some (.int (nI m0)), some (.int lI), some (.int (nI x)), some (.int (ctI (arO wy lk (ni N a) 0 x))), some (.int (ctI (arO wy lk (ni N b) 0 x))), some (.int (nI m))] [] S1 := by
    intro x hx hxl d
    induction d with
    | zero =>
      intro m st S1 hm hs ht hA
      rw [Nat.add_zero] at hm
      subst hm
      have hH1 := hH.ag hA (fun _ => rfl) (fun _ => rfl) (fun _ => rfl)
      refine ⟨S1, ht, hs, hA, fun Z kz => ?_⟩
      refine V_il7 d_X6_seek_43 ?_
      refine V_il6 d_X6_seek_45 ?_
      refine V_ic_eq d_X6_seek_47 (fun q => absurd ((hlI x hx).mp q) hxl) (fun h47 => ?_)
      refine V_il10 d_X6_seek_50 ?_
      refine V_ki d_X6_seek_52 ?_
      refine V_al0 d_X6_seek_54 ?_
      refine V_getR d_X6_seek_55 rfl rfl (by decide) rfl ?_
      refine V_getIe d_X6_seek_58 rfl rfl (by decide) (hH1.2.2.2) ?_
      refine V_isubN d_X6_seek_61 (by omega) ?_
      refine U_ic_gtN d_X6_seek_62 (by omega) (by omega) (fun h62 => ?_) (fun q => absurd q (by omega))
      exact kz
    | succ d ih =>
      intro m st S1 hm hs ht hA
      have hH1 := hH.ag hA (fun _ => rfl) (fun _ => rfl) (fun _ => rfl)
      have hgx := hgl x m
      rw [hge] at hgx
      obtain ⟨S2, t1, t2, t3⟩ := c_X6_take (G := G) (x := x) (m := m) (v := g x m) ht (by omega) (by omega) hs
      obtain ⟨S3, r1, r2, r3, r4⟩ := ih (m + 1) (tkB x m (g x m) st) S2 (by omega) (Nat.lt_succ_of_le (tkB_le (by omega) (by omega))) t2 (hA.tr t3)
      refine ⟨S3, r1, r2, r3, fun Z kz => ?_⟩
      refine V_il7 d_X6_seek_43 ?_
      refine V_il6 d_X6_seek_45 ?_
      refine V_ic_eq d_X6_seek_47 (fun q => absurd ((hlI x hx).mp q) hxl) (fun h47 => ?_)
      refine V_il10 d_X6_seek_50 ?_
      refine V_ki d_X6_seek_52 ?_
      refine V_al0 d_X6_seek_54 ?_
      refine V_getR d_X6_seek_55 rfl rfl (by decide) rfl ?_
      refine V_getIe d_X6_seek_58 rfl rfl (by decide) (hH1.2.2.2) ?_
      refine V_isubN d_X6_seek_61 (by omega) ?_
      refine U_ic_gtN d_X6_seek_62 (by omega) (by omega) (fun q => absurd q (by omega)) (fun h62 => ?_)
      refine V_al0 d_X6_seek_65 ?_
      refine V_il7 d_X6_seek_66 ?_
      refine V_il10 d_X6_seek_68 ?_
      refine V_il2 d_X6_seek_70 ?_
      refine V_al0 d_X6_seek_71 ?_
      refine V_il7 d_X6_seek_72 ?_
      refine V_il10 d_X6_seek_74 ?_
      refine V_il8 d_X6_seek_76 ?_
      refine U_cv3 d_X6_seek_78 (c_X6_haul (o := arO wy lk (ni N a) 0 x) hH1 hB hx (by omega)) rfl rfl rfl ?_
      first | with_reducible refine V_imulN d_X6_seek_81 ?_ | refine V_imul d_X6_seek_81 ?_
      refine V_il4 d_X6_seek_82 ?_
      refine V_al0 d_X6_seek_84 ?_
      refine V_il7 d_X6_seek_85 ?_
      refine V_il10 d_X6_seek_87 ?_
      refine V_il9 d_X6_seek_89 ?_
      refine U_cv3 d_X6_seek_91 (c_X6_haul (o := arO wy lk (ni N b) 0 x) hH1 hB hx (by omega)) rfl rfl rfl ?_
      first | with_reducible refine V_imulN d_X6_seek_94 ?_ | refine V_imul d_X6_seek_94 ?_
      first | with_reducible refine V_iaddN d_X6_seek_95 ?_ | refine V_iadd d_X6_seek_95 ?_
      rw [hgd, hge]
      refine U_cv3v d_X6_seek_96 (t1) rfl rfl rfl ?_
      refine V_icN10 d_X6_seek_99 rfl ?_
      refine V_goto d_X6_seek_102 ?_
      exact r4 Z kz
  have outer : ∀ (d x : Nat) (st : Nat × Nat) (S1 : AS) (y1 y2 y3 : Option Value), x + d = 6 → st.2 < 100001 → TVB S1 st → Ag P13 S S1 →
      ∃ S2, TVB S2 (lp (fun x st => if x = lamp then st else bestI g (61 - nd - m0) m0 x st) d x st) ∧ Ag P13 S S2 ∧ U G M_X6_seek (Ze G none S2) 8 [some (.ref (gB G + 13)), some (.int (nI a)), some (.int (nI pa)), some (.int (nI b)), some (.int (nI pb)), some (.int (nI m0)), some (.int lI), some (.int (nI x)), y1, y2, y3] [] S1 := by
    intro d
    induction d with
    | zero =>
      intro x st S1 y1 y2 y3 hx hs ht hA
      rw [Nat.add_zero] at hx
      subst hx
      refine ⟨S1, ht, hA, ?_⟩
      refine V_il7 d_X6_seek_8 ?_
      refine V_ki d_X6_seek_10 ?_
      refine U_ic_geN d_X6_seek_12 (by omega) (by omega) (fun h12 => ?_) (fun q => absurd q (by omega))
      exact V_vret d_X6_seek_111 rfl rfl rfl
    | succ d ih =>
      intro x st S1 y1 y2 y3 hx hs ht hA
      have hH1 := hH.ag hA (fun _ => rfl) (fun _ => rfl) (fun _ => rfl)
      have hv1 := hv.ag hA (fun _ => rfl) (fun _ => rfl) (fun _ => rfl)
      rw [lp]
      by_cases hxl : x = lamp
      · rw [if_pos hxl]
        obtain ⟨S2, r1, r2, r3⟩ := ih (x + 1) st S1 (some (.int (ctI (arO wy lk (ni N a) 0 x)))) (some (.int (ctI (arO wy lk (ni N b) 0 x)))) (some (.int (nI m0))) (by omega) hs ht hA
        refine ⟨S2, r1, r2, ?_⟩
        refine V_il7 d_X6_seek_8 ?_
        refine V_ki d_X6_seek_10 ?_
        refine U_ic_geN d_X6_seek_12 (by omega) (by omega) (fun q => absurd q (by omega)) (fun h12 => ?_)
        refine V_al0 d_X6_seek_15 ?_
        refine V_getR d_X6_seek_16 rfl rfl (by decide) rfl ?_
        refine V_il1 d_X6_seek_19 ?_
        refine V_il7 d_X6_seek_20 ?_
        refine U_cv2 d_X6_seek_22 (c_X7_comesTo hH1 hB hv1 hN ha (by omega)) rfl rfl rfl ?_
        refine V_is8 d_X6_seek_25 rfl ?_
        refine V_al0 d_X6_seek_27 ?_
        refine V_getR d_X6_seek_28 rfl rfl (by decide) rfl ?_
        refine V_il3 d_X6_seek_31 ?_
        refine V_il7 d_X6_seek_32 ?_
        refine U_cv2 d_X6_seek_34 (c_X7_comesTo hH1 hB hv1 hN hb (by omega)) rfl rfl rfl ?_
        refine V_is9 d_X6_seek_37 rfl ?_
        refine V_il5 d_X6_seek_39 ?_
        refine V_is10 d_X6_seek_41 rfl ?_
        refine V_il7 d_X6_seek_43 ?_
        refine V_il6 d_X6_seek_45 ?_
        refine V_ic_eq d_X6_seek_47 (fun h47 => ?_) (fun q => absurd ((hlI x (by omega)).mpr hxl) q)
        refine V_icN7 d_X6_seek_105 rfl ?_
        refine V_goto d_X6_seek_108 ?_
        exact r3
      · rw [if_neg hxl]
        obtain ⟨S2, q1, q2, q3, q4⟩ := inner x (by omega) hxl (61 - nd - m0) m0 st S1 (by omega) hs ht hA
        obtain ⟨S3, r1, r2, r3⟩ := ih (x + 1) _ S2 (some (.int (ctI (arO wy lk (ni N a) 0 x)))) (some (.int (ctI (arO wy lk (ni N b) 0 x)))) (some (.int (nI (61 - nd)))) (by omega) q2 q1 q3
        refine ⟨S3, r1, r2, ?_⟩
        refine V_il7 d_X6_seek_8 ?_
        refine V_ki d_X6_seek_10 ?_
        refine U_ic_geN d_X6_seek_12 (by omega) (by omega) (fun q => absurd q (by omega)) (fun h12 => ?_)
        refine V_al0 d_X6_seek_15 ?_
        refine V_getR d_X6_seek_16 rfl rfl (by decide) rfl ?_
        refine V_il1 d_X6_seek_19 ?_
        refine V_il7 d_X6_seek_20 ?_
        refine U_cv2 d_X6_seek_22 (c_X7_comesTo hH1 hB hv1 hN ha (by omega)) rfl rfl rfl ?_
        refine V_is8 d_X6_seek_25 rfl ?_
        refine V_al0 d_X6_seek_27 ?_
        refine V_getR d_X6_seek_28 rfl rfl (by decide) rfl ?_
        refine V_il3 d_X6_seek_31 ?_
        refine V_il7 d_X6_seek_32 ?_
        refine U_cv2 d_X6_seek_34 (c_X7_comesTo hH1 hB hv1 hN hb (by omega)) rfl rfl rfl ?_
        refine V_is9 d_X6_seek_37 rfl ?_
        refine V_il5 d_X6_seek_39 ?_
        refine V_is10 d_X6_seek_41 rfl ?_
        refine q4 _ ?_
        refine V_ic7 d_X6_seek_105 rfl (nI_1 x) ?_
        refine V_goto d_X6_seek_108 ?_
        exact r3
  obtain ⟨S2, r1, r2, r3⟩ := outer 6 0 (m0, 0) (sI S 13 5 (-1)) none none none rfl (show 0 < 100001 by decide) ⟨rfl, fun h => absurd h (Nat.lt_irrefl 0)⟩ (Ag.rf.sI rfl)
  refine ⟨S2, ?_, r1, r2⟩
  refine Rn_of hp_X6_seek [some (.ref (gB G + 13)), some (.int (nI a)), some (.int (nI pa)), some (.int (nI b)), some (.int (nI pb)), some (.int (nI m0)), some (.int lI), none, none, none, none] rfl (Nat.le_of_ble_eq_true rfl) (Nat.le_of_ble_eq_true rfl) ?_
  refine V_al0 d_X6_seek_0 ?_
  refine V_ki d_X6_seek_1 ?_
  refine V_putI d_X6_seek_2 rfl rfl (by decide) rfl ?_
  refine V_ki d_X6_seek_5 ?_
  refine V_is7 d_X6_seek_6 rfl ?_
  exact r3
