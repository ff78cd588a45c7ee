theorem best_le {g : Nat → Nat → Nat} {B : Nat} (hg : ∀ x m, g x m < B) (k m0 lamp : Nat) : (best g k m0 lamp).2 ≤ B := by
  unfold best
  refine lp_keep (N := 6) _ (fun _ (st : Nat × Nat) => st.2 ≤ B) (fun x st _ hs => ?_) 6 0 _ rfl (Nat.zero_le _)
  show (if x = lamp then st else bestI g k m0 x st).2 ≤ B
  split
  · exact hs
  · exact lp_keep (N := m0 + k) _ (fun _ (st : Nat × Nat) => st.2 ≤ B) (fun m st _ hs => tkB_le (hg x m) hs) k m0 st rfl hs
theorem bestI_pos {g : Nat → Nat → Nat} {k m0 x : Nat} {st : Nat × Nat} (h : 0 < k ∨ 0 < st.2) : 0 < (bestI g k m0 x st).2 := by
  unfold bestI
  have keep : ∀ k m0 st, 0 < st.2 → 0 < (lp (fun m st => tkB x m (g x m) st) k m0 st).2 := by
    intro k m0 st hs
    refine lp_keep (N := m0 + k) _ (fun _ (st : Nat × Nat) => 0 < st.2) (fun m st _ hs => ?_) k m0 st rfl hs
    show 0 < (tkB x m (g x m) st).2
    unfold tkB
    split
    · exact Nat.succ_pos _
    · exact hs
  rcases Nat.eq_zero_or_pos st.2 with g0 | g0
  · rcases h with h | h
    · cases k with
      | zero => omega
      | succ k =>
        rw [lp]
        refine keep k _ _ ?_
        unfold tkB
        rw [if_pos (by omega)]
        exact Nat.succ_pos _
    · omega
  · exact keep k m0 st g0
theorem best_pos {g : Nat → Nat → Nat} {k m0 lamp : Nat} (hk : 0 < k) : 0 < (best g k m0 lamp).2 := by
  unfold best
  have keep : ∀ d x st, x + d = 6 → 0 < st.2 → 0 < (lp (fun x st => if x = lamp then st else bestI g k m0 x st) d x st).2 := by
    intro d x st hx hs
    refine lp_keep (N := 6) _ (fun _ (st : Nat × Nat) => 0 < st.2) (fun x st _ hs => ?_) d x st hx hs
    show 0 < (if x = lamp then st else bestI g k m0 x st).2
    split
    · exact hs
    · exact bestI_pos (Or.inl hk)
  rw [lp]
  by_cases h0 : 0 = lamp
  · rw [if_pos h0, lp]
    refine keep 4 (0 + 1 + 1) _ rfl ?_
    rw [if_neg (by omega)]
    exact bestI_pos (Or.inl hk)
  · rw [if_neg h0]
    exact keep 5 (0 + 1) _ rfl (bestI_pos (Or.inl hk))
/-- the best break stands in the range -/
theorem best_in {g : Nat → Nat → Nat} {k m0 lamp M : Nat} (hk : m0 + k ≤ M) (hM : M ≤ 60) (h0 : 0 < M) : (best g k m0 lamp).2 = 0 ∨ ((best g k m0 lamp).1 / 60 < 6 ∧ (best g k m0 lamp).1 % 60 < M) := by
  unfold best
  refine lp_keep (N := 6) _ (fun _ (st : Nat × Nat) => st.2 = 0 ∨ (st.1 / 60 < 6 ∧ st.1 % 60 < M)) (fun x st hx hs => ?_) 6 0 _ rfl (Or.inl rfl)
  show (if x = lamp then st else bestI g k m0 x st).2 = 0 ∨ _
  split
  · exact hs
  · refine lp_keep (N := m0 + k) _ (fun _ (st : Nat × Nat) => st.2 = 0 ∨ (st.1 / 60 < 6 ∧ st.1 % 60 < M)) (fun m st hm hs => ?_) k m0 st rfl hs
    show (tkB x m (g x m) st).2 = 0 ∨ _
    unfold tkB
    split
    · right
      show (60 * x + m) / 60 < 6 ∧ (60 * x + m) % 60 < M
      omega
    · exact hs
/-- what the two nights' breaks have: in both, in the first alone, in the second alone -/
def wgS (u v : Nat) (st : Nat × Nat × Nat) : Nat × Nat × Nat := if 0 < u ∧ 0 < v then (max st.1 u, st.2.1, st.2.2) else (st.1, max st.2.1 u, max st.2.2 v)
def wgI (ga gb : Nat → Nat → Nat) (k x : Nat) (st : Nat × Nat × Nat) : Nat × Nat × Nat := lp (fun m st => wgS (ga x m) (gb x m) st) k 0 st
def wgF (ga gb : Nat → Nat → Nat) (k : Nat) : Nat × Nat × Nat := lp (fun x st => wgI ga gb k x st) 6 0 (0, 0, 0)
def WV (S : AS) (st : Nat × Nat × Nat) : Prop := S.1 13 6 = nI st.1 ∧ S.1 13 7 = nI st.2.1 ∧ S.1 13 8 = nI st.2.2
abbrev P13w : Nat → Nat → Bool := fun a b => a == 13 && (b == 6 || b == 7 || b == 8)
def W99 (st : Nat × Nat × Nat) : Prop := st.1 ≤ 99 ∧ st.2.1 ≤ 99 ∧ st.2.2 ≤ 99
theorem wgS_99 {u v : Nat} {st : Nat × Nat × Nat} (hu : u ≤ 99) (hv : v ≤ 99) (hs : W99 st) : W99 (wgS u v st) := by
  obtain ⟨h1, h2, h3⟩ := hs
  unfold wgS
  split
  · exact ⟨Nat.max_le.mpr ⟨h1, hu⟩, h2, h3⟩
  · exact ⟨h1, Nat.max_le.mpr ⟨h2, hu⟩, Nat.max_le.mpr ⟨h3, hv⟩⟩
theorem maxI {a b : Nat} (ha : a < 1000) (hb : b < 1000) : (if nI a < nI b then nI b else nI a) = nI (max a b) := by
  by_cases h : a < b
  · rw [if_pos ((nI_ltI (by omega) (by omega)).mpr h), Nat.max_eq_right (by omega)]
  · rw [if_neg (fun q => h ((nI_ltI (by omega) (by omega)).mp q)), Nat.max_eq_left (by omega)]
set_option maxRecDepth 100000 in
theorem c_X6_sort {G : Gm} {S : AS} {u v : Nat} {st : Nat × Nat × Nat} (ht : WV S st) (hu : u ≤ 99) (hv : v ≤ 99) (hs : W99 st) : ∃ SE, Rm G M_X6_sort [.ref (gB G + 13), .int (nI u), .int (nI v)] S none SE ∧ WV SE (wgS u v st) ∧ Ag P13w S SE := by
  obtain ⟨s1, s2, s3⟩ := hs
  by_cases h : 0 < u ∧ 0 < v
  · refine ⟨sI S 13 6 (nI (max st.1 u)), ?_, ?_, Ag.rf.sI rfl⟩
    · refine Rn_of hp_X6_sort [some (.ref (gB G + 13)), some (.int (nI u)), some (.int (nI v))] rfl (Nat.le_of_ble_eq_true rfl) (Nat.le_of_ble_eq_true rfl) ?_
      refine V_il1 d_X6_sort_0 ?_
      refine U_if_leN d_X6_sort_1 (by omega) (fun q => absurd q (by omega)) (fun h1 => ?_)
      refine V_il2 d_X6_sort_4 ?_
      refine U_if_leN d_X6_sort_5 (by omega) (fun q => absurd q (by omega)) (fun h5 => ?_)
      refine V_al0 d_X6_sort_8 ?_
      refine V_al0 d_X6_sort_9 ?_
      refine V_getIe d_X6_sort_10 rfl rfl (by decide) (ht.1) ?_
      refine V_il1 d_X6_sort_13 ?_
      refine V_max d_X6_sort_14 (by decide) (Nat.le_of_ble_eq_true rfl) (by decide) ?_
      refine V_topi (maxI (by omega) (by omega)) ?_
      refine V_putI d_X6_sort_17 rfl rfl (by decide) rfl ?_
      refine V_goto d_X6_sort_20 ?_
      exact V_vret d_X6_sort_47 rfl rfl rfl
    · rw [wgS, if_pos h]
      exact ⟨rfl, ht.2.1, ht.2.2⟩
  · refine ⟨sI (sI S 13 7 (nI (max st.2.1 u))) 13 8 (nI (max st.2.2 v)), ?_, ?_, (Ag.rf.sI rfl).sI rfl⟩
    · refine Rn_of hp_X6_sort [some (.ref (gB G + 13)), some (.int (nI u)), some (.int (nI v))] rfl (Nat.le_of_ble_eq_true rfl) (Nat.le_of_ble_eq_true rfl) ?_
      refine V_il1 d_X6_sort_0 ?_
      refine U_if_leN d_X6_sort_1 (by omega) (fun h1 => ?_) (fun h1 => ?_)
      · refine V_al0 d_X6_sort_23 ?_
        refine V_al0 d_X6_sort_24 ?_
        refine V_getIe d_X6_sort_25 rfl rfl (by decide) (ht.2.1) ?_
        refine V_il1 d_X6_sort_28 ?_
        refine V_max d_X6_sort_29 (by decide) (Nat.le_of_ble_eq_true rfl) (by decide) ?_
        refine V_topi (maxI (by omega) (by omega)) ?_
        refine V_putI d_X6_sort_32 rfl rfl (by decide) rfl ?_
        refine V_al0 d_X6_sort_35 ?_
        refine V_al0 d_X6_sort_36 ?_
        refine V_getIe d_X6_sort_37 rfl rfl (by decide) (ht.2.2) ?_
        refine V_il2 d_X6_sort_40 ?_
        refine V_max d_X6_sort_41 (by decide) (Nat.le_of_ble_eq_true rfl) (by decide) ?_
        refine V_topi (maxI (by omega) (by omega)) ?_
        refine V_putI d_X6_sort_44 rfl rfl (by decide) rfl ?_
        exact V_vret d_X6_sort_47 rfl rfl rfl
      · refine V_il2 d_X6_sort_4 ?_
        refine U_if_leN d_X6_sort_5 (by omega) (fun h5 => ?_) (fun q => absurd q (by omega))
        refine V_al0 d_X6_sort_23 ?_
        refine V_al0 d_X6_sort_24 ?_
        refine V_getIe d_X6_sort_25 rfl rfl (by decide) (ht.2.1) ?_
        refine V_il1 d_X6_sort_28 ?_
        refine V_max d_X6_sort_29 (by decide) (Nat.le_of_ble_eq_true rfl) (by decide) ?_
        refine V_topi (maxI (by omega) (by omega)) ?_
        refine V_putI d_X6_sort_32 rfl rfl (by decide) rfl ?_
        refine V_al0 d_X6_sort_35 ?_
        refine V_al0 d_X6_sort_36 ?_
        refine V_getIe d_X6_sort_37 rfl rfl (by decide) (ht.2.2) ?_
        refine V_il2 d_X6_sort_40 ?_
        refine V_max d_X6_sort_41 (by decide) (Nat.le_of_ble_eq_true rfl) (by decide) ?_
        refine V_topi (maxI (by omega) (by omega)) ?_
        refine V_putI d_X6_sort_44 rfl rfl (by decide) rfl ?_
        exact V_vret d_X6_sort_47 rfl rfl rfl
    · rw [wgS, if_neg h]
      exact ⟨ht.1, rfl, rfl⟩
theorem wgI_99 {ga gb : Nat → Nat → Nat} (ha : ∀ x m, ga x m ≤ 99) (hb : ∀ x m, gb x m ≤ 99) {k x : Nat} {st : Nat × Nat × Nat} (hs : W99 st) : W99 (wgI ga gb k x st) :=
  lp_keep (N := 0 + k) _ (fun _ st => W99 st) (fun m _ _ hs => wgS_99 (ha x m) (hb x m) hs) k 0 st rfl hs
theorem wgF_99 {ga gb : Nat → Nat → Nat} (ha : ∀ x m, ga x m ≤ 99) (hb : ∀ x m, gb x m ≤ 99) (k : Nat) : W99 (wgF ga gb k) :=
  lp_keep (N := 6) _ (fun _ st => W99 st) (fun x _ _ hs => wgI_99 ha hb hs) 6 0 (0, 0, 0) rfl ⟨by decide, by decide, by decide⟩
set_option maxRecDepth 100000 in
theorem c_X6_weigh {G : Gm} {S : AS} {w wy : Nat → Nat} {lk nd : Nat} {ft : Int32} {N : List (List Nat)} {a b : Nat} (hH : HVc S w wy lk nd) (hB : HB w wy lk nd) (hv : CNv S ft N) (hN : WFN N) (ha : a < N.length) (hb : b < N.length) :
    ∃ SE, Rm G M_X6_weigh [.ref (gB G + 13), .int (nI a), .int (nI b)] S none SE ∧ WV SE (wgF (hh w wy lk nd (ni N a)) (hh w wy lk nd (ni N b)) (61 - nd)) ∧ Ag P13w S SE := by
  obtain ⟨n1, n2⟩ := hB.2.2.2
  have h8 := hN.1
  have hga := hh_le hB (ni N a)
  have hgb := hh_le hB (ni N b)
  have hda : ∀ x m, hlN (arO wy lk (ni N a) 0 x) lk nd (w x) m = hh w wy lk nd (ni N a) x m := fun x m => rfl
  have hdb : ∀ x m, hlN (arO wy lk (ni N b) 0 x) lk nd (w x) m = hh w wy lk nd (ni N b) x m := fun x m => rfl
  generalize hh w wy lk nd (ni N a) = ga at hga hda ⊢
  generalize hh w wy lk nd (ni N b) = gb at hgb hdb ⊢
  have inner : ∀ (x : Nat), x < 6 → ∀ (d m : Nat) (st : Nat × Nat × Nat) (S1 : AS), m + d = 61 - nd → W99 st → WV S1 st → Ag P13w S S1 →
      ∃ S2, WV S2 (lp (fun m st => wgS (ga x m) (gb x m) st) d m st) ∧ Ag P13w S S2 ∧ ∀ Z, U G M_X6_weigh Z 91 [some (.ref (gB G + 13)), some (.int (nI a)), some (.int (nI b)), some (.int (nI x)), some (.int (ctI (arO wy lk (ni N a) 0 x))), some (.int (ctI (arO wy lk (ni N b) 0 x))), some (.int (nI (61 - nd)))] [] S2 → U G M_X6_weigh Z 48 [some (.ref (gB G + 13)), some (.int (nI a)), some (.int (nI b)), some (.int (nI x)), some (.int (ctI (arO wy lk (ni N a) 0 x))), some (.int (ctI (arO wy lk (ni N b) 0 x))), some (.int (nI m))] [] S1 := by
    intro x hx d
    induction d with
    | zero =>
      intro m st S1 hm hs ht hA
      rw [Nat.add_zero] at hm
      subst hm
      have hH1 := hH.ag hA (fun _ => rfl) (fun _ => rfl) (fun _ => rfl)
      refine ⟨S1, ht, hA, fun Z kz => ?_⟩
      refine V_il6 d_X6_weigh_48 ?_
      refine V_ki d_X6_weigh_50 ?_
      refine V_al0 d_X6_weigh_52 ?_
      refine V_getR d_X6_weigh_53 rfl rfl (by decide) rfl ?_
      refine V_getIe d_X6_weigh_56 rfl rfl (by decide) (hH1.2.2.2) ?_
      refine V_isubN d_X6_weigh_59 (by omega) ?_
      refine U_ic_gtN d_X6_weigh_60 (by omega) (by omega) (fun h60 => ?_) (fun q => absurd q (by omega))
      exact kz
    | succ d ih =>
      intro m st S1 hm hs ht hA
      have hH1 := hH.ag hA (fun _ => rfl) (fun _ => rfl) (fun _ => rfl)
      obtain ⟨S2, t1, t2, t3⟩ := c_X6_sort (G := G) ht (hga x m) (hgb x m) hs
      obtain ⟨S3, r1, r3, r4⟩ := ih (m + 1) (wgS (ga x m) (gb x m) st) S2 (by omega) (wgS_99 (hga x m) (hgb x m) hs) t2 (hA.tr t3)
      refine ⟨S3, r1, r3, fun Z kz => ?_⟩
      refine V_il6 d_X6_weigh_48 ?_
      refine V_ki d_X6_weigh_50 ?_
      refine V_al0 d_X6_weigh_52 ?_
      refine V_getR d_X6_weigh_53 rfl rfl (by decide) rfl ?_
      refine V_getIe d_X6_weigh_56 rfl rfl (by decide) (hH1.2.2.2) ?_
      refine V_isubN d_X6_weigh_59 (by omega) ?_
      refine U_ic_gtN d_X6_weigh_60 (by omega) (by omega) (fun q => absurd q (by omega)) (fun h60 => ?_)
      refine V_al0 d_X6_weigh_63 ?_
      refine V_al0 d_X6_weigh_64 ?_
      refine V_il3 d_X6_weigh_65 ?_
      refine V_il6 d_X6_weigh_66 ?_
      refine V_il4 d_X6_weigh_68 ?_
      refine U_cv3 d_X6_weigh_70 (c_X6_haul (o := arO wy lk (ni N a) 0 x) hH1 hB hx (by omega)) rfl rfl rfl ?_
      rw [hda]
      refine V_al0 d_X6_weigh_73 ?_
      refine V_il3 d_X6_weigh_74 ?_
      refine V_il6 d_X6_weigh_75 ?_
      refine V_il5 d_X6_weigh_77 ?_
      refine U_cv3 d_X6_weigh_79 (c_X6_haul (o := arO wy lk (ni N b) 0 x) hH1 hB hx (by omega)) rfl rfl rfl ?_
      rw [hdb]
      refine U_cv2v d_X6_weigh_82 (t1) rfl rfl rfl ?_
      refine V_icN6 d_X6_weigh_85 rfl ?_
      refine V_goto d_X6_weigh_88 ?_
      exact r4 Z kz
  have outer : ∀ (d x : Nat) (st : Nat × Nat × Nat) (S1 : AS) (y1 y2 y3 : Option Value), x + d = 6 → W99 st → WV S1 st → Ag P13w S S1 →
      ∃ S2, WV S2 (lp (fun x st => wgI ga gb (61 - nd) x st) d x st) ∧ Ag P13w S S2 ∧ U G M_X6_weigh (Ze G none S2) 17 [some (.ref (gB G + 13)), some (.int (nI a)), some (.int (nI b)), some (.int (nI x)), y1, y2, y3] [] S1 := by
    intro d
    induction d with
    | zero =>
      intro x st S1 y1 y2 y3 hx hs ht hA
      rw [Nat.add_zero] at hx
      subst hx
      refine ⟨S1, ht, hA, ?_⟩
      refine V_il3 d_X6_weigh_17 ?_
      refine V_ki d_X6_weigh_18 ?_
      refine U_ic_geN d_X6_weigh_20 (by omega) (by omega) (fun h20 => ?_) (fun q => absurd q (by omega))
      exact V_vret d_X6_weigh_97 rfl rfl rfl
    | succ d ih =>
      intro x st S1 y1 y2 y3 hx hs ht hA
      have hH1 := hH.ag hA (fun _ => rfl) (fun _ => rfl) (fun _ => rfl)
      have hv1 := hv.ag hA (fun _ => rfl) (fun _ => rfl) (fun _ => rfl)
      obtain ⟨S2, q1, q3, q4⟩ := inner x (by omega) (61 - nd) 0 st S1 (by omega) hs ht hA
      obtain ⟨S3, r1, r2, r3⟩ := ih (x + 1) _ S2 (some (.int (ctI (arO wy lk (ni N a) 0 x)))) (some (.int (ctI (arO wy lk (ni N b) 0 x)))) (some (.int (nI (61 - nd)))) (by omega) (wgI_99 hga hgb hs) q1 q3
      refine ⟨S3, r1, r2, ?_⟩
      refine V_il3 d_X6_weigh_17 ?_
      refine V_ki d_X6_weigh_18 ?_
      refine U_ic_geN d_X6_weigh_20 (by omega) (by omega) (fun q => absurd q (by omega)) (fun h20 => ?_)
      refine V_al0 d_X6_weigh_23 ?_
      refine V_getR d_X6_weigh_24 rfl rfl (by decide) rfl ?_
      refine V_il1 d_X6_weigh_27 ?_
      refine V_il3 d_X6_weigh_28 ?_
      refine U_cv2 d_X6_weigh_29 (c_X7_comesTo hH1 hB hv1 hN ha (by omega)) rfl rfl rfl ?_
      refine V_is4 d_X6_weigh_32 rfl ?_
      refine V_al0 d_X6_weigh_34 ?_
      refine V_getR d_X6_weigh_35 rfl rfl (by decide) rfl ?_
      refine V_il2 d_X6_weigh_38 ?_
      refine V_il3 d_X6_weigh_39 ?_
      refine U_cv2 d_X6_weigh_40 (c_X7_comesTo hH1 hB hv1 hN hb (by omega)) rfl rfl rfl ?_
      refine V_is5 d_X6_weigh_43 rfl ?_
      refine V_ki d_X6_weigh_45 ?_
      refine V_is6 d_X6_weigh_46 rfl ?_
      refine q4 _ ?_
      refine V_icN3 d_X6_weigh_91 rfl ?_
      refine V_goto d_X6_weigh_94 ?_
      exact r3
  obtain ⟨S2, r1, r2, r3⟩ := outer 6 0 (0, 0, 0) (sI (sI (sI S 13 6 (nI 0)) 13 7 (nI 0)) 13 8 (nI 0)) none none none rfl ⟨by decide, by decide, by decide⟩ ⟨rfl, rfl, rfl⟩ (((Ag.rf.sI rfl).sI rfl).sI rfl)
  refine ⟨S2, ?_, r1, r2⟩
  refine Rn_of hp_X6_weigh [some (.ref (gB G + 13)), some (.int (nI a)), some (.int (nI b)), none, none, none, none] rfl (Nat.le_of_ble_eq_true rfl) (Nat.le_of_ble_eq_true rfl) ?_
  refine V_al0 d_X6_weigh_0 ?_
  refine V_ki d_X6_weigh_1 ?_
  refine V_putI d_X6_weigh_2 rfl rfl (by decide) rfl ?_
  refine V_al0 d_X6_weigh_5 ?_
  refine V_ki d_X6_weigh_6 ?_
  refine V_putI d_X6_weigh_7 rfl rfl (by decide) rfl ?_
  refine V_al0 d_X6_weigh_10 ?_
  refine V_ki d_X6_weigh_11 ?_
  refine V_putI d_X6_weigh_12 rfl rfl (by decide) rfl ?_
  refine V_ki d_X6_weigh_15 ?_
  refine V_is3 d_X6_weigh_16 rfl ?_
  exact r3
set_option maxRecDepth 100000 in
theorem c_X6_meet {G : Gm} {S : AS} {st : Nat × Nat × Nat} (ht : WV S st) (hs : W99 st) : Rm G M_X6_meetAboveBoth [.ref (gB G + 13)] S (some (.int (bI (decide (st.1 * (st.2.1 + st.2.2) < st.2.1 * st.2.2))))) S := by
  obtain ⟨s1, s2, s3⟩ := hs
  have m1 : st.2.1 * st.2.2 ≤ 99 * 99 := Nat.mul_le_mul s2 s3
  have m2 : st.1 * (st.2.1 + st.2.2) ≤ 99 * 198 := Nat.mul_le_mul s1 (by omega)
  refine Rn_of hp_X6_meetAboveBoth [some (.ref (gB G + 13))] rfl (Nat.le_of_ble_eq_true rfl) (Nat.le_of_ble_eq_true rfl) ?_
  refine V_al0 d_X6_meetAboveBoth_0 ?_
  refine V_getIe d_X6_meetAboveBoth_1 rfl rfl (by decide) (ht.2.1) ?_
  refine V_al0 d_X6_meetAboveBoth_4 ?_
  refine V_getIe d_X6_meetAboveBoth_5 rfl rfl (by decide) (ht.2.2) ?_
  first | with_reducible refine V_imulN d_X6_meetAboveBoth_8 ?_ | refine V_imul d_X6_meetAboveBoth_8 ?_
  refine V_al0 d_X6_meetAboveBoth_9 ?_
  refine V_getIe d_X6_meetAboveBoth_10 rfl rfl (by decide) (ht.1) ?_
  refine V_al0 d_X6_meetAboveBoth_13 ?_
  refine V_getIe d_X6_meetAboveBoth_14 rfl rfl (by decide) (ht.2.1) ?_
  refine V_al0 d_X6_meetAboveBoth_17 ?_
  refine V_getIe d_X6_meetAboveBoth_18 rfl rfl (by decide) (ht.2.2) ?_
  first | with_reducible refine V_iaddN d_X6_meetAboveBoth_21 ?_ | refine V_iadd d_X6_meetAboveBoth_21 ?_
  first | with_reducible refine V_imulN d_X6_meetAboveBoth_22 ?_ | refine V_imul d_X6_meetAboveBoth_22 ?_
  refine U_ic_leN d_X6_meetAboveBoth_23 (by omega) (by omega) (fun h23 => ?_) (fun h23 => ?_)
  · refine V_ki d_X6_meetAboveBoth_30 ?_
    exact V_zret d_X6_meetAboveBoth_31 rfl rfl (by first | rw [bI_t (decide_eq_true (by omega))] | rw [bI_f (decide_eq_false (by omega))]) rfl
  · refine V_ki d_X6_meetAboveBoth_26 ?_
    refine V_goto d_X6_meetAboveBoth_27 ?_
    exact V_zret d_X6_meetAboveBoth_31 rfl rfl (by first | rw [bI_t (decide_eq_true (by omega))] | rw [bI_f (decide_eq_false (by omega))]) rfl
def lsA (st : Nat × Nat × Nat) : Nat × Nat := if st.1 * (st.2.1 + st.2.2) < st.2.1 * st.2.2 then (st.2.2, st.2.1 + st.2.2) else if st.1 < st.2.2 then (st.2.2 - st.1, st.2.2) else (0, 1)
def lsM (st : Nat × Nat × Nat) : Nat × Nat := if st.1 * (st.2.1 + st.2.2) < st.2.1 * st.2.2 then (st.2.1 * st.2.2, st.2.1 + st.2.2) else (st.1, 1)
theorem ls_sum {a b c : Nat} (h : a * (b + c) < b * c) : 0 < b + c := by
  rcases Nat.eq_zero_or_pos (b + c) with g | g
  · have e1 : b = 0 := by omega
    rw [e1] at h
    simp at h
  · exact g
abbrev P13a : Nat → Nat → Bool := fun a _ => a == 13
theorem P13w_a {S S1 : AS} (h : Ag P13w S S1) : Ag P13a S S1 := h.mono (fun a b q => by revert q; show (a == 13) = false → (a == 13 && (b == 6 || b == 7 || b == 8)) = false; intro q; rw [q]; rfl)
theorem P13_a {S S1 : AS} (h : Ag P13 S S1) : Ag P13a S S1 := h.mono (fun a b q => by revert q; show (a == 13) = false → (a == 13 && (b == 3 || b == 4 || b == 5)) = false; intro q; rw [q]; rfl)
set_option maxRecDepth 100000 in
theorem c_X6_leastLot {G : Gm} {S : AS} {w wy : Nat → Nat} {lk nd : Nat} {ft : Int32} {N : List (List Nat)} {a b : Nat} (hH : HVc S w wy lk nd) (hB : HB w wy lk nd) (hv : CNv S ft N) (hN : WFN N) (ha : a < N.length) (hb : b < N.length) :
    ∃ SE, Rm G M_X6_leastLot [.ref (gB G + 13), .int (nI a), .int (nI b)] S (some (.ref (gB G + 14))) SE ∧ (∀ j, j < 2 → SE.2 14 j = lN (fr (lsA (wgF (hh w wy lk nd (ni N a)) (hh w wy lk nd (ni N b)) (61 - nd))).1 (lsA (wgF (hh w wy lk nd (ni N a)) (hh w wy lk nd (ni N b)) (61 - nd))).2 j)) ∧ Ag P13a S SE := by
  obtain ⟨S1, h1, h2, h3⟩ := c_X6_weigh (G := G) hH hB hv hN ha hb
  have hs := wgF_99 (hh_le hB (ni N a)) (hh_le hB (ni N b)) (61 - nd)
  generalize wgF (hh w wy lk nd (ni N a)) (hh w wy lk nd (ni N b)) (61 - nd) = st at h2 hs ⊢
  have hm := c_X6_meet (G := G) h2 hs
  obtain ⟨s1, s2, s3⟩ := hs
  have fin : ∀ x y, ∀ j, j < 2 → (frS S1 14 x y).2 14 j = lN (fr x y j) := by
    intro x y j hj
    match j, hj with
    | 0, _ => rfl
    | 1, _ => rfl
  by_cases c1 : st.1 * (st.2.1 + st.2.2) < st.2.1 * st.2.2
  · have hp := ls_sum c1
    refine ⟨frS S1 14 st.2.2 (st.2.1 + st.2.2), ?_, ?_, (P13w_a h3).sL.sL⟩
    · rw [decide_eq_true c1] at hm
      refine Rn_of hp_X6_leastLot [some (.ref (gB G + 13)), some (.int (nI a)), some (.int (nI b))] rfl (Nat.le_of_ble_eq_true rfl) (Nat.le_of_ble_eq_true rfl) ?_
      refine V_al0 d_X6_leastLot_0 ?_
      refine V_il1 d_X6_leastLot_1 ?_
      refine V_il2 d_X6_leastLot_2 ?_
      refine U_cv2v d_X6_leastLot_3 (h1) rfl rfl rfl ?_
      refine V_al0 d_X6_leastLot_6 ?_
      refine U_cv0 d_X6_leastLot_7 (hm) rfl rfl rfl ?_
      refine V_eqB d_X6_leastLot_10 (fun q => (bTF rfl q).elim) (fun h10 => ?_)
      refine V_al0 d_X6_leastLot_13 ?_
      refine V_getR d_X6_leastLot_14 rfl rfl (by decide) rfl ?_
      refine V_al0 d_X6_leastLot_17 ?_
      refine V_getIe d_X6_leastLot_18 rfl rfl (by decide) (h2.2.2) ?_
      refine V_i2lN d_X6_leastLot_21 (by omega) ?_
      refine V_al0 d_X6_leastLot_22 ?_
      refine V_getIe d_X6_leastLot_23 rfl rfl (by decide) (h2.2.1) ?_
      refine V_al0 d_X6_leastLot_26 ?_
      refine V_getIe d_X6_leastLot_27 rfl rfl (by decide) (h2.2.2) ?_
      first | with_reducible refine V_iaddN d_X6_leastLot_30 ?_ | refine V_iadd d_X6_leastLot_30 ?_
      refine V_i2lN d_X6_leastLot_31 (by omega) ?_
      refine U_cv2 d_X6_leastLot_32 (c_X2_become rfl (by decide) (by omega) (by omega) hp) rfl rfl rfl ?_
      exact V_aret d_X6_leastLot_35 rfl (by first | rfl | simp_all) rfl
    · rw [lsA, if_pos c1]; exact fin _ _
  · rw [decide_eq_false c1] at hm
    by_cases c2 : st.1 < st.2.2
    · refine ⟨frS S1 14 (st.2.2 - st.1) st.2.2, ?_, ?_, (P13w_a h3).sL.sL⟩
      · refine Rn_of hp_X6_leastLot [some (.ref (gB G + 13)), some (.int (nI a)), some (.int (nI b))] rfl (Nat.le_of_ble_eq_true rfl) (Nat.le_of_ble_eq_true rfl) ?_
        refine V_al0 d_X6_leastLot_0 ?_
        refine V_il1 d_X6_leastLot_1 ?_
        refine V_il2 d_X6_leastLot_2 ?_
        refine U_cv2v d_X6_leastLot_3 (h1) rfl rfl rfl ?_
        refine V_al0 d_X6_leastLot_6 ?_
        refine U_cv0 d_X6_leastLot_7 (hm) rfl rfl rfl ?_
        refine V_eqB d_X6_leastLot_10 (fun h10 => ?_) (fun q => (bTF q rfl).elim)
        refine V_al0 d_X6_leastLot_36 ?_
        refine V_getIe d_X6_leastLot_37 rfl rfl (by decide) (h2.2.2) ?_
        refine V_al0 d_X6_leastLot_40 ?_
        refine V_getIe d_X6_leastLot_41 rfl rfl (by decide) (h2.1) ?_
        refine U_ic_leN d_X6_leastLot_44 (by omega) (by omega) (fun q => absurd q (by omega)) (fun h44 => ?_)
        refine V_al0 d_X6_leastLot_47 ?_
        refine V_getR d_X6_leastLot_48 rfl rfl (by decide) rfl ?_
        refine V_al0 d_X6_leastLot_51 ?_
        refine V_getIe d_X6_leastLot_52 rfl rfl (by decide) (h2.2.2) ?_
        refine V_al0 d_X6_leastLot_55 ?_
        refine V_getIe d_X6_leastLot_56 rfl rfl (by decide) (h2.1) ?_
        refine V_isubN d_X6_leastLot_59 (by omega) ?_
        refine V_i2lN d_X6_leastLot_60 (by omega) ?_
        refine V_al0 d_X6_leastLot_61 ?_
        refine V_getIe d_X6_leastLot_62 rfl rfl (by decide) (h2.2.2) ?_
        refine V_i2lN d_X6_leastLot_65 (by omega) ?_
        refine U_cv2 d_X6_leastLot_66 (c_X2_become rfl (by decide) (by omega) (by omega) (by omega)) rfl rfl rfl ?_
        refine V_goto d_X6_leastLot_69 ?_
        exact V_aret d_X6_leastLot_81 rfl (by first | rfl | simp_all) rfl
      · rw [lsA, if_neg c1, if_pos c2]; exact fin _ _
    · refine ⟨frS S1 14 0 1, ?_, ?_, (P13w_a h3).sL.sL⟩
      · refine Rn_of hp_X6_leastLot [some (.ref (gB G + 13)), some (.int (nI a)), some (.int (nI b))] rfl (Nat.le_of_ble_eq_true rfl) (Nat.le_of_ble_eq_true rfl) ?_
        refine V_al0 d_X6_leastLot_0 ?_
        refine V_il1 d_X6_leastLot_1 ?_
        refine V_il2 d_X6_leastLot_2 ?_
        refine U_cv2v d_X6_leastLot_3 (h1) rfl rfl rfl ?_
        refine V_al0 d_X6_leastLot_6 ?_
        refine U_cv0 d_X6_leastLot_7 (hm) rfl rfl rfl ?_
        refine V_eqB d_X6_leastLot_10 (fun h10 => ?_) (fun q => (bTF q rfl).elim)
        refine V_al0 d_X6_leastLot_36 ?_
        refine V_getIe d_X6_leastLot_37 rfl rfl (by decide) (h2.2.2) ?_
        refine V_al0 d_X6_leastLot_40 ?_
        refine V_getIe d_X6_leastLot_41 rfl rfl (by decide) (h2.1) ?_
        refine U_ic_leN d_X6_leastLot_44 (by omega) (by omega) (fun h44 => ?_) (fun q => absurd q (by omega))
        refine V_al0 d_X6_leastLot_72 ?_
        refine V_getR d_X6_leastLot_73 rfl rfl (by decide) rfl ?_
        refine V_lconst (v := lN 0) d_X6_leastLot_76 rfl ?_
        refine V_lconst (v := lN 1) d_X6_leastLot_77 rfl ?_
        refine U_cv2 d_X6_leastLot_78 (c_X2_become (a := 0) (b := 1) rfl (by decide) (by omega) (by omega) (by omega)) rfl rfl rfl ?_
        exact V_aret d_X6_leastLot_81 rfl (by first | rfl | simp_all) rfl
      · rw [lsA, if_neg c1, if_neg c2]; exact fin _ _
set_option maxRecDepth 100000 in
theorem c_X6_leastMean {G : Gm} {S : AS} {w wy : Nat → Nat} {lk nd : Nat} {ft : Int32} {N : List (List Nat)} {a b : Nat} (hH : HVc S w wy lk nd) (hB : HB w wy lk nd) (hv : CNv S ft N) (hN : WFN N) (ha : a < N.length) (hb : b < N.length) :
    ∃ SE, Rm G M_X6_leastMean [.ref (gB G + 13), .int (nI a), .int (nI b)] S (some (.ref (gB G + 14))) SE ∧ (∀ j, j < 2 → SE.2 14 j = lN (fr (lsM (wgF (hh w wy lk nd (ni N a)) (hh w wy lk nd (ni N b)) (61 - nd))).1 (lsM (wgF (hh w wy lk nd (ni N a)) (hh w wy lk nd (ni N b)) (61 - nd))).2 j)) ∧ Ag P13a S SE := by
  obtain ⟨S1, h1, h2, h3⟩ := c_X6_weigh (G := G) hH hB hv hN ha hb
  have hs := wgF_99 (hh_le hB (ni N a)) (hh_le hB (ni N b)) (61 - nd)
  generalize wgF (hh w wy lk nd (ni N a)) (hh w wy lk nd (ni N b)) (61 - nd) = st at h2 hs ⊢
  have hm := c_X6_meet (G := G) h2 hs
  obtain ⟨s1, s2, s3⟩ := hs
  have m1 : st.2.1 * st.2.2 ≤ 99 * 99 := Nat.mul_le_mul s2 s3
  have fin : ∀ x y, ∀ j, j < 2 → (frS S1 14 x y).2 14 j = lN (fr x y j) := by
    intro x y j hj
    match j, hj with
    | 0, _ => rfl
    | 1, _ => rfl
  by_cases c1 : st.1 * (st.2.1 + st.2.2) < st.2.1 * st.2.2
  · have hp := ls_sum c1
    refine ⟨frS S1 14 (st.2.1 * st.2.2) (st.2.1 + st.2.2), ?_, ?_, (P13w_a h3).sL.sL⟩
    · rw [decide_eq_true c1] at hm
      refine Rn_of hp_X6_leastMean [some (.ref (gB G + 13)), some (.int (nI a)), some (.int (nI b))] rfl (Nat.le_of_ble_eq_true rfl) (Nat.le_of_ble_eq_true rfl) ?_
      refine V_al0 d_X6_leastMean_0 ?_
      refine V_il1 d_X6_leastMean_1 ?_
      refine V_il2 d_X6_leastMean_2 ?_
      refine U_cv2v d_X6_leastMean_3 (h1) rfl rfl rfl ?_
      refine V_al0 d_X6_leastMean_6 ?_
      refine U_cv0 d_X6_leastMean_7 (hm) rfl rfl rfl ?_
      refine V_eqB d_X6_leastMean_10 (fun q => (bTF rfl q).elim) (fun h10 => ?_)
      refine V_al0 d_X6_leastMean_13 ?_
      refine V_getR d_X6_leastMean_14 rfl rfl (by decide) rfl ?_
      refine V_al0 d_X6_leastMean_17 ?_
      refine V_getIe d_X6_leastMean_18 rfl rfl (by decide) (h2.2.1) ?_
      refine V_al0 d_X6_leastMean_21 ?_
      refine V_getIe d_X6_leastMean_22 rfl rfl (by decide) (h2.2.2) ?_
      first | with_reducible refine V_imulN d_X6_leastMean_25 ?_ | refine V_imul d_X6_leastMean_25 ?_
      refine V_i2lN d_X6_leastMean_26 (by omega) ?_
      refine V_al0 d_X6_leastMean_27 ?_
      refine V_getIe d_X6_leastMean_28 rfl rfl (by decide) (h2.2.1) ?_
      refine V_al0 d_X6_leastMean_31 ?_
      refine V_getIe d_X6_leastMean_32 rfl rfl (by decide) (h2.2.2) ?_
      first | with_reducible refine V_iaddN d_X6_leastMean_35 ?_ | refine V_iadd d_X6_leastMean_35 ?_
      refine V_i2lN d_X6_leastMean_36 (by omega) ?_
      refine U_cv2 d_X6_leastMean_37 (c_X2_become rfl (by decide) (by omega) (by omega) hp) rfl rfl rfl ?_
      exact V_aret d_X6_leastMean_40 rfl (by first | rfl | simp_all) rfl
    · rw [lsM, if_pos c1]; exact fin _ _
  · rw [decide_eq_false c1] at hm
    refine ⟨frS S1 14 st.1 1, ?_, ?_, (P13w_a h3).sL.sL⟩
    · refine Rn_of hp_X6_leastMean [some (.ref (gB G + 13)), some (.int (nI a)), some (.int (nI b))] rfl (Nat.le_of_ble_eq_true rfl) (Nat.le_of_ble_eq_true rfl) ?_
      refine V_al0 d_X6_leastMean_0 ?_
      refine V_il1 d_X6_leastMean_1 ?_
      refine V_il2 d_X6_leastMean_2 ?_
      refine U_cv2v d_X6_leastMean_3 (h1) rfl rfl rfl ?_
      refine V_al0 d_X6_leastMean_6 ?_
      refine U_cv0 d_X6_leastMean_7 (hm) rfl rfl rfl ?_
      refine V_eqB d_X6_leastMean_10 (fun h10 => ?_) (fun q => (bTF q rfl).elim)
      refine V_al0 d_X6_leastMean_41 ?_
      refine V_getR d_X6_leastMean_42 rfl rfl (by decide) rfl ?_
      refine V_al0 d_X6_leastMean_45 ?_
      refine V_getIe d_X6_leastMean_46 rfl rfl (by decide) (h2.1) ?_
      refine V_i2lN d_X6_leastMean_49 (by omega) ?_
      refine V_lconst (v := lN 1) d_X6_leastMean_50 rfl ?_
      refine U_cv2 d_X6_leastMean_51 (c_X2_become (b := 1) rfl (by decide) (by omega) (by omega) (by omega)) rfl rfl rfl ?_
      exact V_aret d_X6_leastMean_54 rfl (by first | rfl | simp_all) rfl
    · rw [lsM, if_neg c1]; exact fin _ _
set_option maxRecDepth 100000 in
theorem c_X6_part {G : Gm} {S : AS} {st : Nat × Nat} {j : Nat} (ht : TVB S st) (hp : 0 < st.2) (hj : j ≤ 2) : Rm G M_X6_part [.ref (gB G + 13), .int (nI j)] S (some (.int (nI (if j = 0 then st.1 / 60 else if j = 1 then st.1 % 60 else st.2 - 1)))) S := by
  have e5 : S.1 13 5 = nI (st.2 - 1) := by rw [ht.1, mI, if_neg (by omega)]
  refine Rn_of hp_X6_part [some (.ref (gB G + 13)), some (.int (nI j))] rfl (Nat.le_of_ble_eq_true rfl) (Nat.le_of_ble_eq_true rfl) ?_
  refine V_il1 d_X6_part_0 ?_
  refine U_if_neN d_X6_part_1 (by omega) (fun h1 => ?_) (fun h1 => ?_)
  · refine V_il1 d_X6_part_11 ?_
    refine V_ki d_X6_part_12 ?_
    refine U_ic_neN d_X6_part_13 (by omega) (by omega) (fun h13 => ?_) (fun h13 => ?_)
    · refine V_al0 d_X6_part_23 ?_
      refine V_getIe d_X6_part_24 rfl rfl (by decide) (e5) ?_
      exact V_iret d_X6_part_27 rfl (by first | rw [if_pos h1] | rw [if_neg h1, if_pos h13] | rw [if_neg h1, if_neg h13]) rfl
    · refine V_al0 d_X6_part_16 ?_
      refine V_getIe d_X6_part_17 rfl rfl (by decide) ((ht.2 hp).2) ?_
      refine V_goto d_X6_part_20 ?_
      exact V_iret d_X6_part_27 rfl (by first | rw [if_pos h1] | rw [if_neg h1, if_pos h13] | rw [if_neg h1, if_neg h13]) rfl
  · refine V_al0 d_X6_part_4 ?_
    refine V_getIe d_X6_part_5 rfl rfl (by decide) ((ht.2 hp).1) ?_
    refine V_goto d_X6_part_8 ?_
    exact V_iret d_X6_part_27 rfl (by first | rw [if_pos h1] | rw [if_neg h1, if_pos h13] | rw [if_neg h1, if_neg h13]) rfl
/-- both sides learn: gone, had, and what was had of each -/
def lnS (ga gb : Nat → Nat → Nat) (K k : Nat) (st : Nat × Nat × Nat × Nat) : Nat × Nat × Nat × Nat :=
  let B := (best (fun x m => st.1 * ga x m + (k - st.1) * gb x m) K 0 6).1
  (st.1 + (if st.2.2.1 ≤ st.2.2.2 then 1 else 0), st.2.1 + (if st.2.2.1 ≤ st.2.2.2 then ga (B / 60) (B % 60) else gb (B / 60) (B % 60)), st.2.2.1 + ga (B / 60) (B % 60), st.2.2.2 + gb (B / 60) (B % 60))
def lnF (ga gb : Nat → Nat → Nat) (K n : Nat) : Nat × Nat × Nat × Nat := lp (fun k st => lnS ga gb K k st) n 0 (0, 0, 0, 0)
def P13l : Nat → Nat → Bool := fun a b => a == 13 && (b == 3 || b == 4 || b == 5 || b == 9 || b == 10)
set_option maxRecDepth 100000 in
theorem c_X6_learnBy {G : Gm} {S : AS} {w wy : Nat → Nat} {lk nd : Nat} {ft : Int32} {N : List (List Nat)} {a b n : Nat} (hH : HVc S w wy lk nd) (hB : HB w wy lk nd) (hv : CNv S ft N) (hN : WFN N) (ha : a < N.length) (hb : b < N.length) (hn : n ≤ 99) :
    ∃ SE, Rm G M_X6_learnBy [.ref (gB G + 13), .int (nI a), .int (nI b), .int (nI n)] S none SE ∧ SE.1 13 9 = nI (lnF (hh w wy lk nd (ni N a)) (hh w wy lk nd (ni N b)) (61 - nd) n).1 ∧ SE.1 13 10 = nI (lnF (hh w wy lk nd (ni N a)) (hh w wy lk nd (ni N b)) (61 - nd) n).2.1 ∧ Ag P13a S SE := by
  obtain ⟨n1, n2⟩ := hB.2.2.2
  have h8 := hN.1
  have hga := hh_le hB (ni N a)
  have hgb := hh_le hB (ni N b)
  have hda : ∀ x m, hlN (arO wy lk (ni N a) 0 x) lk nd (w x) m = hh w wy lk nd (ni N a) x m := fun x m => rfl
  have hdb : ∀ x m, hlN (arO wy lk (ni N b) 0 x) lk nd (w x) m = hh w wy lk nd (ni N b) x m := fun x m => rfl
  have loop : ∀ (d k : Nat) (st : Nat × Nat × Nat × Nat) (S1 : AS) (y1 y2 y3 : Option Value), k + d = n → st.1 ≤ k → st.2.1 ≤ 99 * k → st.2.2.1 ≤ 99 * k → st.2.2.2 ≤ 99 * k → S1.1 13 9 = nI st.1 → S1.1 13 10 = nI st.2.1 → Ag P13a S S1 →
      ∃ S2, U G M_X6_learnBy (Ze G none S2) 19 [some (.ref (gB G + 13)), some (.int (nI a)), some (.int (nI b)), some (.int (nI n)), some (.int (nI st.2.2.1)), some (.int (nI st.2.2.2)), some (.int (nI k)), y1, y2, y3] [] S1 ∧ S2.1 13 9 = nI (lp (fun k st => lnS (hh w wy lk nd (ni N a)) (hh w wy lk nd (ni N b)) (61 - nd) k st) d k st).1 ∧ S2.1 13 10 = nI (lp (fun k st => lnS (hh w wy lk nd (ni N a)) (hh w wy lk nd (ni N b)) (61 - nd) k st) d k st).2.1 ∧ Ag P13a S S2 := by
    intro d
    induction d with
    | zero =>
      intro k st S1 y1 y2 y3 hk b1 b2 b3 b4 g1 g2 hA
      rw [Nat.add_zero] at hk
      subst hk
      refine ⟨S1, ?_, g1, g2, hA⟩
      refine V_il6 d_X6_learnBy_19 ?_
      refine V_il3 d_X6_learnBy_21 ?_
      refine U_ic_geN d_X6_learnBy_22 (by omega) (by omega) (fun h22 => ?_) (fun q => absurd q (by omega))
      exact V_vret d_X6_learnBy_170 rfl rfl rfl
    | succ d ih =>
      intro k st S1 y1 y2 y3 hk b1 b2 b3 b4 g1 g2 hA
      have hH1 := hH.ag hA (fun _ => rfl) (fun _ => rfl) (fun _ => rfl)
      have hv1 := hv.ag hA (fun _ => rfl) (fun _ => rfl) (fun _ => rfl)
      obtain ⟨S2, t1, t2, t3⟩ := c_X6_seek (G := G) (pa := st.1) (pb := k - st.1) (m0 := 0) (lamp := 6) (lI := -1) hH1 hB hv1 hN ha hb (by omega) (by omega) (by omega) (fun x hx => ⟨fun q => absurd q (nI_m1 (by omega)), fun q => by omega⟩)
      have hpos := best_pos (g := fun x m => st.1 * hh w wy lk nd (ni N a) x m + (k - st.1) * hh w wy lk nd (ni N b) x m) (k := 61 - nd - 0) (m0 := 0) (lamp := 6) (by omega)
      have hin := best_in (g := fun x m => st.1 * hh w wy lk nd (ni N a) x m + (k - st.1) * hh w wy lk nd (ni N b) x m) (k := 61 - nd - 0) (m0 := 0) (lamp := 6) (M := 61 - nd) (by omega) (by omega) (by omega)
      obtain ⟨i1, i2⟩ : _ ∧ _ := by
        rcases hin with q | q
        · rw [q] at hpos; exact absurd hpos (Nat.lt_irrefl 0)
        · exact q
      obtain ⟨t4, t5⟩ := t2.2 hpos
      have hl : lnS (hh w wy lk nd (ni N a)) (hh w wy lk nd (ni N b)) (61 - nd) k st = (st.1 + (if st.2.2.1 ≤ st.2.2.2 then 1 else 0), st.2.1 + (if st.2.2.1 ≤ st.2.2.2 then hh w wy lk nd (ni N a) ((best (fun x m => st.1 * hh w wy lk nd (ni N a) x m + (k - st.1) * hh w wy lk nd (ni N b) x m) (61 - nd - 0) 0 6).1 / 60) ((best (fun x m => st.1 * hh w wy lk nd (ni N a) x m + (k - st.1) * hh w wy lk nd (ni N b) x m) (61 - nd - 0) 0 6).1 % 60) else hh w wy lk nd (ni N b) ((best (fun x m => st.1 * hh w wy lk nd (ni N a) x m + (k - st.1) * hh w wy lk nd (ni N b) x m) (61 - nd - 0) 0 6).1 / 60) ((best (fun x m => st.1 * hh w wy lk nd (ni N a) x m + (k - st.1) * hh w wy lk nd (ni N b) x m) (61 - nd - 0) 0 6).1 % 60)), st.2.2.1 + hh w wy lk nd (ni N a) ((best (fun x m => st.1 * hh w wy lk nd (ni N a) x m + (k - st.1) * hh w wy lk nd (ni N b) x m) (61 - nd - 0) 0 6).1 / 60) ((best (fun x m => st.1 * hh w wy lk nd (ni N a) x m + (k - st.1) * hh w wy lk nd (ni N b) x m) (61 - nd - 0) 0 6).1 % 60), st.2.2.2 + hh w wy lk nd (ni N b) ((best (fun x m => st.1 * hh w wy lk nd (ni N a) x m + (k - st.1) * hh w wy lk nd (ni N b) x m) (61 - nd - 0) 0 6).1 / 60) ((best (fun x m => st.1 * hh w wy lk nd (ni N a) x m + (k - st.1) * hh w wy lk nd (ni N b) x m) (61 - nd - 0) 0 6).1 % 60)) := rfl
      rw [lp, hl]
      clear hl hin hpos
      generalize (best (fun x m => st.1 * hh w wy lk nd (ni N a) x m + (k - st.1) * hh w wy lk nd (ni N b) x m) (61 - nd - 0) 0 6).1 = B at i1 i2 t4 t5 ⊢
      have ua := hga (B / 60) (B % 60)
      have ub := hgb (B / 60) (B % 60)
      have hA2 := hA.tr (P13_a t3)
      have hH2 := hH.ag hA2 (fun _ => rfl) (fun _ => rfl) (fun _ => rfl)
      have hv2 := hv.ag hA2 (fun _ => rfl) (fun _ => rfl) (fun _ => rfl)
      have g3 : S2.1 13 9 = nI st.1 := (t3.2 13 9 rfl).trans g1
      have g4 : S2.1 13 10 = nI st.2.1 := (t3.2 13 10 rfl).trans g2
      have hca := c_X6_haul (G := G) (m := B % 60) (o := arO wy lk (ni N a) 0 (B / 60)) hH2 hB i1 (by omega)
      have hcb := c_X6_haul (G := G) (m := B % 60) (o := arO wy lk (ni N b) 0 (B / 60)) hH2 hB i1 (by omega)
      rw [hda] at hca
      rw [hdb] at hcb
      generalize hh w wy lk nd (ni N a) (B / 60) (B % 60) = va at ua hca ⊢
      generalize hh w wy lk nd (ni N b) (B / 60) (B % 60) = vb at ub hcb ⊢
      by_cases cl : st.2.2.1 ≤ st.2.2.2
      · rw [if_pos cl, if_pos cl]
        obtain ⟨S3, r1, r2, r3, r4⟩ := ih (k + 1) (st.1 + 1, st.2.1 + va, st.2.2.1 + va, st.2.2.2 + vb) (sI (sI S2 13 9 (nI (st.1 + 1))) 13 10 (nI (st.2.1 + va))) (some (.int (nI va))) (some (.int (nI vb))) (some (.int (nI 1))) (by omega) (by show st.1 + 1 ≤ k + 1; omega) (by show st.2.1 + va ≤ 99 * (k + 1); omega) (by show st.2.2.1 + va ≤ 99 * (k + 1); omega) (by show st.2.2.2 + vb ≤ 99 * (k + 1); omega) rfl rfl ((hA2.sI rfl).sI rfl)
        refine ⟨S3, ?_, r2, r3, r4⟩
        refine V_il6 d_X6_learnBy_19 ?_
        refine V_il3 d_X6_learnBy_21 ?_
        refine U_ic_geN d_X6_learnBy_22 (by omega) (by omega) (fun q => absurd q (by omega)) (fun h22 => ?_)
        refine V_al0 d_X6_learnBy_25 ?_
        refine V_il1 d_X6_learnBy_26 ?_
        refine V_al0 d_X6_learnBy_27 ?_
        refine V_getIe d_X6_learnBy_28 rfl rfl (by decide) (g1) ?_
        refine V_il2 d_X6_learnBy_31 ?_
        refine V_il6 d_X6_learnBy_32 ?_
        refine V_al0 d_X6_learnBy_34 ?_
        refine V_getIe d_X6_learnBy_35 rfl rfl (by decide) (g1) ?_
        refine V_isubN d_X6_learnBy_38 (b1) ?_
        refine V_ki d_X6_learnBy_39 ?_
        refine V_ki d_X6_learnBy_40 ?_
        refine U_cv6v d_X6_learnBy_41 (t1) rfl rfl rfl ?_
        refine V_al0 d_X6_learnBy_44 ?_
        refine V_al0 d_X6_learnBy_45 ?_
        refine V_getIe d_X6_learnBy_46 rfl rfl (by decide) (t4) ?_
        refine V_al0 d_X6_learnBy_49 ?_
        refine V_getIe d_X6_learnBy_50 rfl rfl (by decide) (t5) ?_
        refine V_al0 d_X6_learnBy_53 ?_
        refine V_getR d_X6_learnBy_54 rfl rfl (by decide) rfl ?_
        refine V_il1 d_X6_learnBy_57 ?_
        refine V_al0 d_X6_learnBy_58 ?_
        refine V_getIe d_X6_learnBy_59 rfl rfl (by decide) (t4) ?_
        refine U_cv2 d_X6_learnBy_62 (c_X7_comesTo hH2 hB hv2 hN ha i1) rfl rfl rfl ?_
        refine U_cv3 d_X6_learnBy_65 (hca) rfl rfl rfl ?_
        refine V_is7 d_X6_learnBy_68 rfl ?_
        refine V_al0 d_X6_learnBy_70 ?_
        refine V_al0 d_X6_learnBy_71 ?_
        refine V_getIe d_X6_learnBy_72 rfl rfl (by decide) (t4) ?_
        refine V_al0 d_X6_learnBy_75 ?_
        refine V_getIe d_X6_learnBy_76 rfl rfl (by decide) (t5) ?_
        refine V_al0 d_X6_learnBy_79 ?_
        refine V_getR d_X6_learnBy_80 rfl rfl (by decide) rfl ?_
        refine V_il2 d_X6_learnBy_83 ?_
        refine V_al0 d_X6_learnBy_84 ?_
        refine V_getIe d_X6_learnBy_85 rfl rfl (by decide) (t4) ?_
        refine U_cv2 d_X6_learnBy_88 (c_X7_comesTo hH2 hB hv2 hN hb i1) rfl rfl rfl ?_
        refine U_cv3 d_X6_learnBy_91 (hcb) rfl rfl rfl ?_
        refine V_is8 d_X6_learnBy_94 rfl ?_
        refine V_il4 d_X6_learnBy_96 ?_
        refine V_il5 d_X6_learnBy_98 ?_
        refine U_ic_gtN d_X6_learnBy_100 (by omega) (by omega) (fun q => absurd q (by omega)) (fun h100 => ?_)
        refine V_ki d_X6_learnBy_103 ?_
        refine V_goto d_X6_learnBy_104 ?_
        refine V_is9 d_X6_learnBy_108 rfl ?_
        refine V_al0 d_X6_learnBy_110 ?_
        refine V_dup d_X6_learnBy_111 rfl ?_
        refine V_getIe d_X6_learnBy_112 rfl rfl (by decide) (g3) ?_
        refine V_il9 d_X6_learnBy_115 ?_
        refine U_if_eqN d_X6_learnBy_117 (by omega) (fun q => absurd q (by omega)) (fun h117 => ?_)
        refine V_ki d_X6_learnBy_120 ?_
        refine V_goto d_X6_learnBy_121 ?_
        first | with_reducible refine V_iaddN d_X6_learnBy_125 ?_ | refine V_iadd d_X6_learnBy_125 ?_
        refine V_putI d_X6_learnBy_126 rfl rfl (by decide) rfl ?_
        refine V_al0 d_X6_learnBy_129 ?_
        refine V_dup d_X6_learnBy_130 rfl ?_
        refine V_getIe d_X6_learnBy_131 rfl rfl (by decide) (g4) ?_
        refine V_il9 d_X6_learnBy_134 ?_
        refine U_if_eqN d_X6_learnBy_136 (by omega) (fun q => absurd q (by omega)) (fun h136 => ?_)
        refine V_il7 d_X6_learnBy_139 ?_
        refine V_goto d_X6_learnBy_141 ?_
        first | with_reducible refine V_iaddN d_X6_learnBy_146 ?_ | refine V_iadd d_X6_learnBy_146 ?_
        refine V_putI d_X6_learnBy_147 rfl rfl (by decide) rfl ?_
        refine V_il4 d_X6_learnBy_150 ?_
        refine V_il7 d_X6_learnBy_152 ?_
        first | with_reducible refine V_iaddN d_X6_learnBy_154 ?_ | refine V_iadd d_X6_learnBy_154 ?_
        refine V_is4 d_X6_learnBy_155 rfl ?_
        refine V_il5 d_X6_learnBy_157 ?_
        refine V_il8 d_X6_learnBy_159 ?_
        first | with_reducible refine V_iaddN d_X6_learnBy_161 ?_ | refine V_iadd d_X6_learnBy_161 ?_
        refine V_is5 d_X6_learnBy_162 rfl ?_
        refine V_icN6 d_X6_learnBy_164 rfl ?_
        refine V_goto d_X6_learnBy_167 ?_
        exact r1
      · rw [if_neg cl, if_neg cl]
        obtain ⟨S3, r1, r2, r3, r4⟩ := ih (k + 1) (st.1 + 0, st.2.1 + vb, st.2.2.1 + va, st.2.2.2 + vb) (sI (sI S2 13 9 (nI (st.1 + 0))) 13 10 (nI (st.2.1 + vb))) (some (.int (nI va))) (some (.int (nI vb))) (some (.int (nI 0))) (by omega) (by show st.1 + 0 ≤ k + 1; omega) (by show st.2.1 + vb ≤ 99 * (k + 1); omega) (by show st.2.2.1 + va ≤ 99 * (k + 1); omega) (by show st.2.2.2 + vb ≤ 99 * (k + 1); omega) rfl rfl ((hA2.sI rfl).sI rfl)
        refine ⟨S3, ?_, r2, r3, r4⟩
        refine V_il6 d_X6_learnBy_19 ?_
        refine V_il3 d_X6_learnBy_21 ?_
        refine U_ic_geN d_X6_learnBy_22 (by omega) (by omega) (fun q => absurd q (by omega)) (fun h22 => ?_)
        refine V_al0 d_X6_learnBy_25 ?_
        refine V_il1 d_X6_learnBy_26 ?_
        refine V_al0 d_X6_learnBy_27 ?_
        refine V_getIe d_X6_learnBy_28 rfl rfl (by decide) (g1) ?_
        refine V_il2 d_X6_learnBy_31 ?_
        refine V_il6 d_X6_learnBy_32 ?_
        refine V_al0 d_X6_learnBy_34 ?_
        refine V_getIe d_X6_learnBy_35 rfl rfl (by decide) (g1) ?_
        refine V_isubN d_X6_learnBy_38 (b1) ?_
        refine V_ki d_X6_learnBy_39 ?_
        refine V_ki d_X6_learnBy_40 ?_
        refine U_cv6v d_X6_learnBy_41 (t1) rfl rfl rfl ?_
        refine V_al0 d_X6_learnBy_44 ?_
        refine V_al0 d_X6_learnBy_45 ?_
        refine V_getIe d_X6_learnBy_46 rfl rfl (by decide) (t4) ?_
        refine V_al0 d_X6_learnBy_49 ?_
        refine V_getIe d_X6_learnBy_50 rfl rfl (by decide) (t5) ?_
        refine V_al0 d_X6_learnBy_53 ?_
        refine V_getR d_X6_learnBy_54 rfl rfl (by decide) rfl ?_
        refine V_il1 d_X6_learnBy_57 ?_
        refine V_al0 d_X6_learnBy_58 ?_
        refine V_getIe d_X6_learnBy_59 rfl rfl (by decide) (t4) ?_
        refine U_cv2 d_X6_learnBy_62 (c_X7_comesTo hH2 hB hv2 hN ha i1) rfl rfl rfl ?_
        refine U_cv3 d_X6_learnBy_65 (hca) rfl rfl rfl ?_
        refine V_is7 d_X6_learnBy_68 rfl ?_
        refine V_al0 d_X6_learnBy_70 ?_
        refine V_al0 d_X6_learnBy_71 ?_
        refine V_getIe d_X6_learnBy_72 rfl rfl (by decide) (t4) ?_
        refine V_al0 d_X6_learnBy_75 ?_
        refine V_getIe d_X6_learnBy_76 rfl rfl (by decide) (t5) ?_
        refine V_al0 d_X6_learnBy_79 ?_
        refine V_getR d_X6_learnBy_80 rfl rfl (by decide) rfl ?_
        refine V_il2 d_X6_learnBy_83 ?_
        refine V_al0 d_X6_learnBy_84 ?_
        refine V_getIe d_X6_learnBy_85 rfl rfl (by decide) (t4) ?_
        refine U_cv2 d_X6_learnBy_88 (c_X7_comesTo hH2 hB hv2 hN hb i1) rfl rfl rfl ?_
        refine U_cv3 d_X6_learnBy_91 (hcb) rfl rfl rfl ?_
        refine V_is8 d_X6_learnBy_94 rfl ?_
        refine V_il4 d_X6_learnBy_96 ?_
        refine V_il5 d_X6_learnBy_98 ?_
        refine U_ic_gtN d_X6_learnBy_100 (by omega) (by omega) (fun h100 => ?_) (fun q => absurd q (by omega))
        refine V_ki d_X6_learnBy_107 ?_
        refine V_is9 d_X6_learnBy_108 rfl ?_
        refine V_al0 d_X6_learnBy_110 ?_
        refine V_dup d_X6_learnBy_111 rfl ?_
        refine V_getIe d_X6_learnBy_112 rfl rfl (by decide) (g3) ?_
        refine V_il9 d_X6_learnBy_115 ?_
        refine U_if_eqN d_X6_learnBy_117 (by omega) (fun h117 => ?_) (fun q => absurd rfl q)
        refine V_ki d_X6_learnBy_124 ?_
        first | with_reducible refine V_iaddN d_X6_learnBy_125 ?_ | refine V_iadd d_X6_learnBy_125 ?_
        refine V_putI d_X6_learnBy_126 rfl rfl (by decide) rfl ?_
        refine V_al0 d_X6_learnBy_129 ?_
        refine V_dup d_X6_learnBy_130 rfl ?_
        refine V_getIe d_X6_learnBy_131 rfl rfl (by decide) (g4) ?_
        refine V_il9 d_X6_learnBy_134 ?_
        refine U_if_eqN d_X6_learnBy_136 (by omega) (fun h136 => ?_) (fun q => absurd rfl q)
        refine V_il8 d_X6_learnBy_144 ?_
        first | with_reducible refine V_iaddN d_X6_learnBy_146 ?_ | refine V_iadd d_X6_learnBy_146 ?_
        refine V_putI d_X6_learnBy_147 rfl rfl (by decide) rfl ?_
        refine V_il4 d_X6_learnBy_150 ?_
        refine V_il7 d_X6_learnBy_152 ?_
        first | with_reducible refine V_iaddN d_X6_learnBy_154 ?_ | refine V_iadd d_X6_learnBy_154 ?_
        refine V_is4 d_X6_learnBy_155 rfl ?_
        refine V_il5 d_X6_learnBy_157 ?_
        refine V_il8 d_X6_learnBy_159 ?_
        first | with_reducible refine V_iaddN d_X6_learnBy_161 ?_ | refine V_iadd d_X6_learnBy_161 ?_
        refine V_is5 d_X6_learnBy_162 rfl ?_
        refine V_icN6 d_X6_learnBy_164 rfl ?_
        refine V_goto d_X6_learnBy_167 ?_
        exact r1
  obtain ⟨S2, r1, r2, r3, r4⟩ := loop n 0 (0, 0, 0, 0) (sI (sI S 13 9 (nI 0)) 13 10 (nI 0)) none none none (by omega) (Nat.le_refl _) (Nat.zero_le _) (Nat.zero_le _) (Nat.zero_le _) rfl rfl ((Ag.rf.sI rfl).sI rfl)
  refine ⟨S2, ?_, r2, r3, r4⟩
  refine Rn_of hp_X6_learnBy [some (.ref (gB G + 13)), some (.int (nI a)), some (.int (nI b)), some (.int (nI n)), none, none, none, none, none, none] rfl (Nat.le_of_ble_eq_true rfl) (Nat.le_of_ble_eq_true rfl) ?_
  refine V_al0 d_X6_learnBy_0 ?_
  refine V_ki d_X6_learnBy_1 ?_
  refine V_putI d_X6_learnBy_2 rfl rfl (by decide) rfl ?_
  refine V_al0 d_X6_learnBy_5 ?_
  refine V_ki d_X6_learnBy_6 ?_
  refine V_putI d_X6_learnBy_7 rfl rfl (by decide) rfl ?_
  refine V_ki d_X6_learnBy_10 ?_
  refine V_is4 d_X6_learnBy_11 rfl ?_
  refine V_ki d_X6_learnBy_13 ?_
  refine V_is5 d_X6_learnBy_14 rfl ?_
  refine V_ki d_X6_learnBy_16 ?_
  refine V_is6 d_X6_learnBy_17 rfl ?_
  exact r1
