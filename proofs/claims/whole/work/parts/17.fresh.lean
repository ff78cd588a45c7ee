/-! new rows: the class's table of endings -/
def pcn (s : Nat) : Nat := sumN (fun i => if s.testBit i then 1 else 0) 6
def eB (f : Nat → Nat → Nat) : Nat → Nat → Nat → Nat
  | 0, _, _ => 1
  | k + 1, set, p => sumN (fun s => if (set.testBit s || decide (0 < f p s)) = true then 0 else eB f k (set ||| 2 ^ s) s) 6
def eY (f : Nat → Nat → Nat) (set p s : Nat) : Nat := if (set.testBit s || decide (0 < f p s)) = true then 0 else eB f (5 - pcn set) (set ||| 2 ^ s) s
theorem pcn_set : ∀ set, set < 64 → ∀ s, s < 6 → set.testBit s = false → pcn (set ||| 2 ^ s) = pcn set + 1 ∧ set ||| 2 ^ s < 64 ∧ set < set ||| 2 ^ s := by decide +kernel
theorem pcn_or : ∀ set, set < 64 → ∀ s, s < 6 → set ||| 2 ^ s < 64 := by decide +kernel
theorem pcn_le : ∀ set, set < 64 → pcn set ≤ 6 ∧ (pcn set = 6 ↔ set = 63) := by decide +kernel
theorem eB_le (f : Nat → Nat → Nat) : ∀ k set p, eB f k set p ≤ 6 ^ k
  | 0, _, _ => Nat.le_refl _
  | k + 1, set, p => by
    have h : ∀ s, (if (set.testBit s || decide (0 < f p s)) = true then 0 else eB f k (set ||| 2 ^ s) s) ≤ 6 ^ k := by
      intro s
      split
      · exact Nat.zero_le _
      · exact eB_le f k _ _
    have := sumN_le h 6
    rw [eB, Nat.pow_succ]
    exact this
theorem eY_le (f : Nat → Nat → Nat) (set p s : Nat) : eY f set p s ≤ 6 ^ 6 := by
  unfold eY
  split
  · exact Nat.zero_le _
  · exact Nat.le_trans (eB_le f _ _ _) (Nat.pow_le_pow_right (by decide) (by omega))
def EV (S : AS) (f : Nat → Nat → Nat) (lo : Nat) : Prop := ∀ set, lo ≤ set → set < 64 → ∀ p, p < 6 → S.1 11 (set * 6 + p) = nI (eB f (6 - pcn set) set p)
theorem eB_eY (f : Nat → Nat → Nat) (set p : Nat) (h : pcn set ≤ 5) : eB f (6 - pcn set) set p = sumN (eY f set p) 6 := by
  rw [show 6 - pcn set = (5 - pcn set) + 1 by omega]
  rfl
set_option maxRecDepth 100000 in
theorem c_X0_endingsBy {G : Gm} {S : AS} {f : Nat → Nat → Nat} {set p s : Nat} (hb : BV S f) (hf : ∀ a b, f a b ≤ 48) (he : EV S f (set + 1)) (hset : set < 64) (hp : p < 7) (hs : s < 6) : Rm G M_X0_endingsBy [.ref (gB G + 9), .int (nI set), .int (pv p), .int (nI s)] S (some (.int (nI (eY f set p s)))) S := by
  have hg := c_X0_gone (G := G) (S := S) hp hs
  rw [hb p hp s hs] at hg
  have hfp := hf p s
  refine Rn_of hp_X0_endingsBy [some (.ref (gB G + 9)), some (.int (nI set)), some (.int (pv p)), some (.int (nI s)), none] rfl (Nat.le_of_ble_eq_true rfl) (Nat.le_of_ble_eq_true rfl) ?_
  cases ht : set.testBit s with
  | true =>
    refine V_il1 d_X0_endingsBy_0 ?_
    refine V_il3 d_X0_endingsBy_1 ?_
    refine V_ishr d_X0_endingsBy_2 ?_
    refine V_ki d_X0_endingsBy_3 ?_
    refine V_iand d_X0_endingsBy_4 ?_
    refine V_topi (y := nI 1) (by rw [bit_get _ hset _ hs, ht]; rfl) ?_
    refine U_if_eqN d_X0_endingsBy_5 (by omega) (fun q => absurd q (by omega)) (fun h5 => ?_)
    refine V_ki d_X0_endingsBy_8 ?_
    refine V_goto d_X0_endingsBy_9 ?_
    refine V_is4 d_X0_endingsBy_13 rfl ?_
    refine V_il4 d_X0_endingsBy_15 ?_
    refine U_if_neN d_X0_endingsBy_17 (by omega) (fun h17 => ?_) (fun q => absurd q (by omega))
    refine V_ki d_X0_endingsBy_29 ?_
    refine V_goto d_X0_endingsBy_30 ?_
    exact V_iret d_X0_endingsBy_50 rfl (by simp [eY, ht]) rfl
  | false =>
    obtain ⟨g1, g2, g3⟩ := pcn_set set hset s hs ht
    have hi : Rm G M_X8_item [.ref (gB G + 11), .int (nI ((set ||| 2 ^ s) * 6 + s))] S (some (.int (nI (eB f (5 - pcn set) (set ||| 2 ^ s) s)))) S := by
      have h := c_X8_item (G := G) (S := S) (k := 11) (len := 384) (j := (set ||| 2 ^ s) * 6 + s) rfl (by decide) rfl (by omega)
      rw [he _ g3 g2 s hs, g1, show 6 - (pcn set + 1) = 5 - pcn set by omega] at h
      exact h
    refine V_il1 d_X0_endingsBy_0 ?_
    refine V_il3 d_X0_endingsBy_1 ?_
    refine V_ishr d_X0_endingsBy_2 ?_
    refine V_ki d_X0_endingsBy_3 ?_
    refine V_iand d_X0_endingsBy_4 ?_
    refine V_topi (y := nI 0) (by rw [bit_get _ hset _ hs, ht]; rfl) ?_
    refine U_if_eqN d_X0_endingsBy_5 (by omega) (fun h5 => ?_) (fun q => absurd rfl q)
    refine V_ki d_X0_endingsBy_12 ?_
    refine V_is4 d_X0_endingsBy_13 rfl ?_
    refine V_il4 d_X0_endingsBy_15 ?_
    refine U_if_neN d_X0_endingsBy_17 (by omega) (fun q => absurd rfl q) (fun h17 => ?_)
    refine V_al0 d_X0_endingsBy_20 ?_
    refine V_il2 d_X0_endingsBy_21 ?_
    refine V_il3 d_X0_endingsBy_22 ?_
    refine U_cv2 d_X0_endingsBy_23 (hg) rfl rfl rfl ?_
    refine U_if_leN d_X0_endingsBy_26 (by omega) (fun h26 => ?_) (fun h26 => ?_)
    · refine V_al0 d_X0_endingsBy_33 ?_
      refine V_getR d_X0_endingsBy_34 rfl rfl (by decide) rfl ?_
      refine V_il1 d_X0_endingsBy_37 ?_
      refine V_ki d_X0_endingsBy_38 ?_
      refine V_il3 d_X0_endingsBy_39 ?_
      refine V_ishl d_X0_endingsBy_40 ?_
      refine V_ior d_X0_endingsBy_41 ?_
      refine V_topi (bit_set _ hset _ hs) ?_
      refine V_ki d_X0_endingsBy_42 ?_
      first | with_reducible refine V_imulN d_X0_endingsBy_44 ?_ | refine V_imul d_X0_endingsBy_44 ?_
      refine V_il3 d_X0_endingsBy_45 ?_
      first | with_reducible refine V_iaddN d_X0_endingsBy_46 ?_ | refine V_iadd d_X0_endingsBy_46 ?_
      refine U_cs2 d_X0_endingsBy_47 (hi) rfl ?_
      exact V_iret d_X0_endingsBy_50 rfl (by rw [eY, if_neg (by rw [ht, Bool.false_or, decide_eq_true_eq]; omega)]) rfl
      skip
    · refine V_ki d_X0_endingsBy_29 ?_
      refine V_goto d_X0_endingsBy_30 ?_
      exact V_iret d_X0_endingsBy_50 rfl (by rw [eY, if_pos (by rw [Bool.or_eq_true]; exact Or.inr (decide_eq_true h26))]) rfl
set_option maxRecDepth 100000 in
theorem c_X0_endingsBehind {G : Gm} {S : AS} {f : Nat → Nat → Nat} {set p : Nat} (hb : BV S f) (hf : ∀ a b, f a b ≤ 48) (he : EV S f (set + 1)) (hset : set < 64) (hp : p < 7) : Rm G M_X0_endingsBehind [.ref (gB G + 9), .int (nI set), .int (pv p)] S (some (.int (nI (eB f (6 - pcn set) set p)))) S := by
  refine Rn_of hp_X0_endingsBehind [some (.ref (gB G + 9)), some (.int (nI set)), some (.int (pv p)), none, none] rfl (Nat.le_of_ble_eq_true rfl) (Nat.le_of_ble_eq_true rfl) ?_
  by_cases h63 : set = 63
  · subst h63
    refine V_il1 d_X0_endingsBehind_0 ?_
    refine V_ki d_X0_endingsBehind_1 ?_
    refine U_ic_neN d_X0_endingsBehind_3 (by omega) (by omega) (fun q => absurd rfl q) (fun h3 => ?_)
    refine V_ki d_X0_endingsBehind_6 ?_
    exact V_iret d_X0_endingsBehind_7 rfl (by first | rfl | simp_all) rfl
  · have hp5 : pcn set ≤ 5 := by
      have := pcn_le set hset
      have h1 := this.2
      have h2 := this.1
      rcases Nat.lt_or_eq_of_le h2 with g | g
      · omega
      · exact absurd (h1.mp g) h63
    rw [eB_eY f set p hp5]
    have loop : ∀ (d i : Nat), i + d = 6 → U G M_X0_endingsBehind (Ze G (some (.int (nI (sumN (eY f set p) 6)))) S) 13 [some (.ref (gB G + 9)), some (.int (nI set)), some (.int (pv p)), some (.int (nI (sumN (eY f set p) i))), some (.int (nI i))] [] S := by
      intro d
      induction d with
      | zero =>
        intro i hi
        rw [Nat.add_zero] at hi
        subst hi
        refine V_il4 d_X0_endingsBehind_13 ?_
        refine V_ki d_X0_endingsBehind_15 ?_
        refine U_ic_geN d_X0_endingsBehind_17 (by omega) (by omega) (fun h17 => ?_) (fun q => absurd q (by omega))
        refine V_il3 d_X0_endingsBehind_37 ?_
        exact V_iret d_X0_endingsBehind_38 rfl (by first | rfl | simp_all) rfl
      | succ d ih =>
        intro i hi
        refine V_il4 d_X0_endingsBehind_13 ?_
        refine V_ki d_X0_endingsBehind_15 ?_
        refine U_ic_geN d_X0_endingsBehind_17 (by omega) (by omega) (fun q => absurd q (by omega)) (fun h17 => ?_)
        refine V_il3 d_X0_endingsBehind_20 ?_
        refine V_al0 d_X0_endingsBehind_21 ?_
        refine V_il1 d_X0_endingsBehind_22 ?_
        refine V_il2 d_X0_endingsBehind_23 ?_
        refine V_il4 d_X0_endingsBehind_24 ?_
        refine U_cv3 d_X0_endingsBehind_26 (c_X0_endingsBy hb hf he hset hp (by omega)) rfl rfl rfl ?_
        first | with_reducible refine V_iaddN d_X0_endingsBehind_29 ?_ | refine V_iadd d_X0_endingsBehind_29 ?_
        refine V_is3 d_X0_endingsBehind_30 rfl ?_
        refine V_icN4 d_X0_endingsBehind_31 rfl ?_
        refine V_goto d_X0_endingsBehind_34 ?_
        exact ih (i + 1) (by omega)
    refine V_il1 d_X0_endingsBehind_0 ?_
    refine V_ki d_X0_endingsBehind_1 ?_
    refine U_ic_neN d_X0_endingsBehind_3 (by omega) (by omega) (fun h3 => ?_) (fun q => absurd q h63)
    refine V_ki d_X0_endingsBehind_8 ?_
    refine V_is3 d_X0_endingsBehind_9 rfl ?_
    refine V_ki d_X0_endingsBehind_10 ?_
    refine V_is4 d_X0_endingsBehind_11 rfl ?_
    exact loop 6 0 rfl
abbrev P11 : Nat → Nat → Bool := fun a _ => a == 10 || a == 11
set_option maxRecDepth 100000 in
theorem c_X0_findEndings {G : Gm} {S : AS} {ft : Int32} {N : List (List Nat)} (hv : CNv S ft N) (hN : WFN N) : ∃ SE, Rm G M_X0_findEndings [.ref (gB G + 9)] S none SE ∧ BV SE (stN N N.length) ∧ EV SE (stN N N.length) 1 ∧ Ag P11 S SE := by
  obtain ⟨S1, h1, h2, h3⟩ := c_X0_tell (G := G) hv hN (Nat.le_refl _)
  have hf : ∀ a b, stN N N.length a b ≤ 48 := fun a b => stN_48 hN a b _ (Nat.le_refl _)
  generalize stN N N.length = f at h2 hf ⊢
  have inner : ∀ (set : Nat), 0 < set → set < 64 → ∀ (d i : Nat) (S2 : AS), i + d = 6 → BV S2 f → EV S2 f (set + 1) → (∀ p, p < i → S2.1 11 (set * 6 + p) = nI (eB f (6 - pcn set) set p)) →
      ∃ S3, Ag P11 S2 S3 ∧ BV S3 f ∧ EV S3 f set ∧ ∀ Z, U G M_X0_findEndings Z 51 [some (.ref (gB G + 9)), some (.int (nI set)), some (.int (nI 6))] [] S3 → U G M_X0_findEndings Z 20 [some (.ref (gB G + 9)), some (.int (nI set)), some (.int (nI i))] [] S2 := by
    intro set hs0 hset d
    induction d with
    | zero =>
      intro i S2 hi hb he hp
      rw [Nat.add_zero] at hi
      subst hi
      refine ⟨S2, Ag.rf, hb, fun s' q1 q2 p q3 => ?_, fun Z kz => ?_⟩
      · rcases Nat.eq_or_lt_of_le q1 with g | g
        · subst g; exact hp p q3
        · exact he s' g q2 p q3
      · refine V_il2 d_X0_findEndings_20 ?_
        refine V_ki d_X0_findEndings_21 ?_
        refine U_ic_geN d_X0_findEndings_23 (by omega) (by omega) (fun h23 => ?_) (fun q => absurd q (by omega))
        exact kz
    | succ d ih =>
      intro i S2 hi hb he hp
      have hE := c_X0_endingsBehind (G := G) (p := i) hb hf he hset (by omega)
      rw [show pv i = nI i from if_neg (by omega)] at hE
      obtain ⟨S3, r1, r2, r3, r4⟩ := ih (i + 1) (sI S2 11 (set * 6 + i) (nI (eB f (6 - pcn set) set i))) (by omega) hb (fun s' q1 q2 p q3 => by
          rw [sI_1, if_neg (fun z => by omega)]
          exact he s' q1 q2 p q3) (fun p hpi => by
          rw [sI_1]
          by_cases g : p = i
          · subst g; rw [if_pos ⟨rfl, rfl⟩]
          · rw [if_neg (fun z => g (by omega))]
            exact hp p (by omega))
      refine ⟨S3, (Ag.rf.sI rfl).tr r1, r2, r3, fun Z kz => ?_⟩
      refine V_il2 d_X0_findEndings_20 ?_
      refine V_ki d_X0_findEndings_21 ?_
      refine U_ic_geN d_X0_findEndings_23 (by omega) (by omega) (fun q => absurd q (by omega)) (fun h23 => ?_)
      refine V_al0 d_X0_findEndings_26 ?_
      refine V_getR d_X0_findEndings_27 rfl rfl (by decide) rfl ?_
      refine V_il1 d_X0_findEndings_30 ?_
      refine V_ki d_X0_findEndings_31 ?_
      first | with_reducible refine V_imulN d_X0_findEndings_33 ?_ | refine V_imul d_X0_findEndings_33 ?_
      refine V_il2 d_X0_findEndings_34 ?_
      first | with_reducible refine V_iaddN d_X0_findEndings_35 ?_ | refine V_iadd d_X0_findEndings_35 ?_
      refine V_al0 d_X0_findEndings_36 ?_
      refine V_il1 d_X0_findEndings_37 ?_
      refine V_il2 d_X0_findEndings_38 ?_
      refine U_cv2 d_X0_findEndings_39 (hE) rfl rfl rfl ?_
      refine U_cs3v d_X0_findEndings_42 (c_X8_keep (j := set * 6 + i) rfl (by decide) rfl (by omega)) rfl ?_
      refine V_icN2 d_X0_findEndings_45 rfl ?_
      refine V_goto d_X0_findEndings_48 ?_
      exact r4 Z kz
  have outer : ∀ (set : Nat) (S2 : AS) (x2 : Option Value), set < 64 → BV S2 f → EV S2 f (set + 1) → ∃ S3, Ag P11 S2 S3 ∧ BV S3 f ∧ EV S3 f 1 ∧ U G M_X0_findEndings (Ze G none S3) 14 [some (.ref (gB G + 9)), some (.int (nI set)), x2] [] S2 := by
    intro set
    induction set with
    | zero =>
      intro S2 x2 hset hb he
      refine ⟨S2, Ag.rf, hb, he, ?_⟩
      refine V_il1 d_X0_findEndings_14 ?_
      refine U_if_leN d_X0_findEndings_15 (by omega) (fun h15 => ?_) (fun q => absurd q (by omega))
      exact V_vret d_X0_findEndings_57 rfl rfl rfl
    | succ set ih =>
      intro S2 x2 hset hb he
      obtain ⟨S3, r1, r2, r3, r4⟩ := inner (set + 1) (by omega) hset 6 0 S2 rfl hb he (fun p hp => absurd hp (Nat.not_lt_zero _))
      obtain ⟨S4, q1, q2, q3, q4⟩ := ih S3 (some (.int (nI 6))) (by omega) r2 r3
      refine ⟨S4, r1.tr q1, q2, q3, ?_⟩
      refine V_il1 d_X0_findEndings_14 ?_
      refine U_if_leN d_X0_findEndings_15 (by omega) (fun q => absurd q (by omega)) (fun h15 => ?_)
      refine V_ki d_X0_findEndings_18 ?_
      refine V_is2 d_X0_findEndings_19 rfl ?_
      refine r4 _ ?_
      refine V_icM1 d_X0_findEndings_51 rfl ?_
      refine V_goto d_X0_findEndings_54 ?_
      exact q4
  obtain ⟨S3, r1, r2, r3, r4⟩ := outer 63 S1 none (by omega) h2 (fun s' q1 q2 => by omega)
  have hv1 := hv.ag h3 (fun _ => rfl) (fun _ => rfl) (fun _ => rfl)
  refine ⟨S3, ?_, r2, r3, (h3.mono (fun a b h => by revert h; show (a == 10 || a == 11) = false → (a == 10) = false; cases (a == 10) <;> simp)).tr r1⟩
  refine Rn_of hp_X0_findEndings [some (.ref (gB G + 9)), none, none] rfl (Nat.le_of_ble_eq_true rfl) (Nat.le_of_ble_eq_true rfl) ?_
  refine V_al0 d_X0_findEndings_0 ?_
  refine V_al0 d_X0_findEndings_1 ?_
  refine V_getR d_X0_findEndings_2 rfl rfl (by decide) rfl ?_
  refine V_getIe d_X0_findEndings_5 rfl rfl (by decide) (hv.2.1) ?_
  refine U_cv1v d_X0_findEndings_8 (h1) rfl rfl rfl ?_
  refine V_ki d_X0_findEndings_11 ?_
  refine V_is1 d_X0_findEndings_13 rfl ?_
  exact r4
def fstN (g : Nat → Bool) : Nat → Nat → Option Nat
  | 0, _ => none
  | k + 1, i => if g i = true then some i else fstN g k (i + 1)
def oI (o : Option Nat) : Int32 := match o with
  | some s => nI s
  | none => -1
def lnR (f : Nat → Nat → Nat) : Nat → Nat → Nat → Option Nat
  | 0, _, p => some p
  | k + 1, set, p => match fstN (fun s => decide (0 < eY f set p s)) 6 0 with
    | none => none
    | some s => lnR f k (set ||| 2 ^ s) s
theorem fstN_lt (g : Nat → Bool) : ∀ k i s, fstN g k i = some s → s < i + k
  | 0, i, s, h => by cases h
  | k + 1, i, s, h => by
    rw [fstN] at h
    split at h
    · cases h; omega
    · have := fstN_lt g k (i + 1) s h
      omega
set_option maxRecDepth 100000 in
theorem c_X0_leastOn {G : Gm} {S : AS} {f : Nat → Nat → Nat} {set p : Nat} (hb : BV S f) (hf : ∀ a b, f a b ≤ 48) (he : EV S f 1) (hset : set < 64) (hp : p < 7) : Rm G M_X0_leastOn [.ref (gB G + 9), .int (nI set), .int (pv p)] S (some (.int (oI (fstN (fun s => decide (0 < eY f set p s)) 6 0)))) S := by
  have he' : EV S f (set + 1) := fun s' q1 q2 => he s' (by omega) q2
  have loop : ∀ (d i : Nat), i + d = 6 → U G M_X0_leastOn (Ze G (some (.int (oI (fstN (fun s => decide (0 < eY f set p s)) d i)))) S) 2 [some (.ref (gB G + 9)), some (.int (nI set)), some (.int (pv p)), some (.int (nI i))] [] S := by
    intro d
    induction d with
    | zero =>
      intro i hi
      refine V_il3 d_X0_leastOn_2 ?_
      refine V_ki d_X0_leastOn_3 ?_
      refine U_ic_geN d_X0_leastOn_5 (by omega) (by omega) (fun h5 => ?_) (fun q => absurd q (by omega))
      refine V_ki d_X0_leastOn_26 ?_
      exact V_iret d_X0_leastOn_27 rfl (by first | rfl | simp_all) rfl
    | succ d ih =>
      intro i hi
      have hle := eY_le f set p i
      refine V_il3 d_X0_leastOn_2 ?_
      refine V_ki d_X0_leastOn_3 ?_
      refine U_ic_geN d_X0_leastOn_5 (by omega) (by omega) (fun q => absurd q (by omega)) (fun h5 => ?_)
      refine V_al0 d_X0_leastOn_8 ?_
      refine V_il1 d_X0_leastOn_9 ?_
      refine V_il2 d_X0_leastOn_10 ?_
      refine V_il3 d_X0_leastOn_11 ?_
      refine U_cv3 d_X0_leastOn_12 (c_X0_endingsBy hb hf he' hset hp (by omega)) rfl rfl rfl ?_
      refine U_if_leN d_X0_leastOn_15 (Nat.lt_of_le_of_lt hle (by decide)) (fun h15 => ?_) (fun h15 => ?_)
      · rw [fstN, if_neg (by rw [decide_eq_true_eq]; omega)]
        refine V_icN3 d_X0_leastOn_20 rfl ?_
        refine V_goto d_X0_leastOn_23 ?_
        exact ih (i + 1) (by omega)
      · refine V_il3 d_X0_leastOn_18 ?_
        exact V_iret d_X0_leastOn_19 rfl (by rw [fstN, if_pos (decide_eq_true h15)]; rfl) rfl
  refine Rn_of hp_X0_leastOn [some (.ref (gB G + 9)), some (.int (nI set)), some (.int (pv p)), none] rfl (Nat.le_of_ble_eq_true rfl) (Nat.le_of_ble_eq_true rfl) ?_
  refine V_ki d_X0_leastOn_0 ?_
  refine V_is3 d_X0_leastOn_1 rfl ?_
  exact loop 6 0 rfl
set_option maxRecDepth 100000 in
theorem c_X0_leastNewRow {G : Gm} {S : AS} {f : Nat → Nat → Nat} {i : Nat} (hb : BV S f) (hf : ∀ a b, f a b ≤ 48) (he : EV S f 1) (hi : i < 6) : Rm G M_X0_leastNewRow [.ref (gB G + 9), .int (nI i)] S (some (.int (oI (lnR f (i + 1) 0 6)))) S := by
  have loop : ∀ (d j set p : Nat), j + d = i + 1 → set < 64 → p < 7 → (0 < j → p < 6) → U G M_X0_leastNewRow (Ze G (some (.int (if j = 0 then oI (lnR f d set p) else oI (lnR f d set p)))) S) 7 [some (.ref (gB G + 9)), some (.int (nI i)), some (.int (nI set)), some (.int (pv p)), some (.int (nI j))] [] S := by
    intro d
    induction d with
    | zero =>
      intro j set p hj hset hp hp6
      have e : pv p = nI p := by
        have := hp6 (by omega)
        exact if_neg (by omega)
      refine V_il4 d_X0_leastNewRow_7 ?_
      refine V_il1 d_X0_leastNewRow_9 ?_
      refine U_ic_gtN d_X0_leastNewRow_10 (by omega) (by omega) (fun h10 => ?_) (fun q => absurd q (by omega))
      refine V_il3 d_X0_leastNewRow_46 ?_
      exact V_iret d_X0_leastNewRow_47 rfl (by rw [e]; simp [lnR, oI]) rfl
    | succ d ih =>
      intro j set p hj hset hp hp6
      have hL := c_X0_leastOn (G := G) hb hf he hset hp
      rw [ite_self, lnR]
      cases hq : fstN (fun s => decide (0 < eY f set p s)) 6 0 with
      | none =>
        rw [hq] at hL
        refine V_il4 d_X0_leastNewRow_7 ?_
        refine V_il1 d_X0_leastNewRow_9 ?_
        refine U_ic_gtN d_X0_leastNewRow_10 (by omega) (by omega) (fun q => absurd q (by omega)) (fun h10 => ?_)
        refine V_il4 d_X0_leastNewRow_13 ?_
        refine V_ki d_X0_leastNewRow_15 ?_
        refine U_ic_geN d_X0_leastNewRow_17 (by omega) (by omega) (fun q => absurd q (by omega)) (fun h17 => ?_)
        refine V_al0 d_X0_leastNewRow_20 ?_
        refine V_il2 d_X0_leastNewRow_21 ?_
        refine V_il3 d_X0_leastNewRow_22 ?_
        refine U_cv2 d_X0_leastNewRow_23 (hL) rfl rfl rfl ?_
        refine V_is3 d_X0_leastNewRow_26 rfl ?_
        refine V_il3 d_X0_leastNewRow_27 ?_
        refine V_ki d_X0_leastNewRow_28 ?_
        refine V_ic_ne d_X0_leastNewRow_29 (fun q => absurd rfl q) (fun h29 => ?_)
        refine V_ki d_X0_leastNewRow_32 ?_
        exact V_iret d_X0_leastNewRow_33 rfl (by first | rfl | simp_all) rfl
      | some s =>
        rw [hq] at hL
        have hs : s < 6 := by have := fstN_lt _ _ _ _ hq; omega
        have ih' := ih (j + 1) (set ||| 2 ^ s) s (by omega) (pcn_or set hset s hs) (by omega) (fun _ => hs)
        rw [ite_self, show pv s = nI s from if_neg (by omega)] at ih'
        refine V_il4 d_X0_leastNewRow_7 ?_
        refine V_il1 d_X0_leastNewRow_9 ?_
        refine U_ic_gtN d_X0_leastNewRow_10 (by omega) (by omega) (fun q => absurd q (by omega)) (fun h10 => ?_)
        refine V_il4 d_X0_leastNewRow_13 ?_
        refine V_ki d_X0_leastNewRow_15 ?_
        refine U_ic_geN d_X0_leastNewRow_17 (by omega) (by omega) (fun q => absurd q (by omega)) (fun h17 => ?_)
        refine V_al0 d_X0_leastNewRow_20 ?_
        refine V_il2 d_X0_leastNewRow_21 ?_
        refine V_il3 d_X0_leastNewRow_22 ?_
        refine U_cv2 d_X0_leastNewRow_23 (hL) rfl rfl rfl ?_
        refine V_is3 d_X0_leastNewRow_26 rfl ?_
        refine V_il3 d_X0_leastNewRow_27 ?_
        refine V_ki d_X0_leastNewRow_28 ?_
        refine V_ic_ne d_X0_leastNewRow_29 (fun h29 => ?_) (fun q => (nI_m1 (by omega) q).elim)
        refine V_il2 d_X0_leastNewRow_34 ?_
        refine V_ki d_X0_leastNewRow_35 ?_
        refine V_il3 d_X0_leastNewRow_36 ?_
        refine V_ishl d_X0_leastNewRow_37 ?_
        refine V_ior d_X0_leastNewRow_38 ?_
        refine V_topi (bit_set _ hset _ hs) ?_
        refine V_is2 d_X0_leastNewRow_39 rfl ?_
        refine V_icN4 d_X0_leastNewRow_40 rfl ?_
        refine V_goto d_X0_leastNewRow_43 ?_
        exact ih'
  have l0 := loop (i + 1) 0 0 6 (by omega) (by decide) (by decide) (fun z => absurd z (Nat.lt_irrefl 0))
  rw [ite_self] at l0
  refine Rn_of hp_X0_leastNewRow [some (.ref (gB G + 9)), some (.int (nI i)), none, none, none] rfl (Nat.le_of_ble_eq_true rfl) (Nat.le_of_ble_eq_true rfl) ?_
  refine V_ki d_X0_leastNewRow_0 ?_
  refine V_is2 d_X0_leastNewRow_1 rfl ?_
  refine V_ki d_X0_leastNewRow_2 ?_
  refine V_is3 d_X0_leastNewRow_3 rfl ?_
  refine V_ki d_X0_leastNewRow_4 ?_
  refine V_is4 d_X0_leastNewRow_5 rfl ?_
  exact l0
set_option maxRecDepth 100000 in
theorem c_X0_allSteps {G : Gm} {S : AS} {ft : Int32} {N : List (List Nat)} (hv : CNv S ft N) (hN : WFN N) : ∃ SE, Rm G M_X0_allSteps [.ref (gB G + 9)] S (some (.int (nI (sumN (fun x => stN N N.length (x / 6) (x % 6)) 42)))) SE ∧ Ag P10 S SE := by
  obtain ⟨S1, h1, h2, h3⟩ := c_X0_tell (G := G) hv hN (Nat.le_refl _)
  generalize stN N N.length = f at h2 ⊢
  have loop : ∀ (d i : Nat), i + d = 42 → U G M_X0_allSteps (Ze G (some (.int (nI (sumN (fun x => f (x / 6) (x % 6)) 42)))) S1) 15 [some (.ref (gB G + 9)), some (.int (nI (sumN (fun x => f (x / 6) (x % 6)) i))), some (.int (nI i))] [] S1 := by
    intro d
    induction d with
    | zero =>
      intro i hi
      rw [Nat.add_zero] at hi
      subst hi
      refine V_il2 d_X0_allSteps_15 ?_
      refine V_al0 d_X0_allSteps_16 ?_
      refine V_getR d_X0_allSteps_17 rfl rfl (by decide) rfl ?_
      refine V_alen d_X0_allSteps_20 rfl (by decide) ?_
      refine U_ic_geN d_X0_allSteps_21 (by omega) (by omega) (fun h21 => ?_) (fun q => absurd q (by omega))
      refine V_il1 d_X0_allSteps_41 ?_
      exact V_iret d_X0_allSteps_42 rfl (by first | rfl | simp_all) rfl
    | succ d ih =>
      intro i hi
      have hI := c_X8_item (G := G) (S := S1) (k := 10) (len := 42) (j := i) rfl (by decide) rfl (by omega)
      have e := h2 (i / 6) (by omega) (i % 6) (by omega)
      rw [show i / 6 * 6 + i % 6 = i by omega] at e
      rw [e] at hI
      refine V_il2 d_X0_allSteps_15 ?_
      refine V_al0 d_X0_allSteps_16 ?_
      refine V_getR d_X0_allSteps_17 rfl rfl (by decide) rfl ?_
      refine V_alen d_X0_allSteps_20 rfl (by decide) ?_
      refine U_ic_geN d_X0_allSteps_21 (by omega) (by omega) (fun q => absurd q (by omega)) (fun h21 => ?_)
      refine V_il1 d_X0_allSteps_24 ?_
      refine V_al0 d_X0_allSteps_25 ?_
      refine V_getR d_X0_allSteps_26 rfl rfl (by decide) rfl ?_
      refine V_il2 d_X0_allSteps_29 ?_
      refine U_cs2 d_X0_allSteps_30 (hI) rfl ?_
      first | with_reducible refine V_iaddN d_X0_allSteps_33 ?_ | refine V_iadd d_X0_allSteps_33 ?_
      refine V_is1 d_X0_allSteps_34 rfl ?_
      refine V_icN2 d_X0_allSteps_35 rfl ?_
      refine V_goto d_X0_allSteps_38 ?_
      exact ih (i + 1) (by omega)
  refine ⟨S1, ?_, h3⟩
  refine Rn_of hp_X0_allSteps [some (.ref (gB G + 9)), none, none] rfl (Nat.le_of_ble_eq_true rfl) (Nat.le_of_ble_eq_true rfl) ?_
  refine V_al0 d_X0_allSteps_0 ?_
  refine V_al0 d_X0_allSteps_1 ?_
  refine V_getR d_X0_allSteps_2 rfl rfl (by decide) rfl ?_
  refine V_getIe d_X0_allSteps_5 rfl rfl (by decide) (hv.2.1) ?_
  refine U_cv1v d_X0_allSteps_8 (h1) rfl rfl rfl ?_
  refine V_ki d_X0_allSteps_11 ?_
  refine V_is1 d_X0_allSteps_12 rfl ?_
  refine V_ki d_X0_allSteps_13 ?_
  refine V_is2 d_X0_allSteps_14 rfl ?_
  exact loop 42 0 rfl
set_option maxRecDepth 100000 in
theorem c_X0_unlikeSteps {G : Gm} {S : AS} {ft : Int32} {N : List (List Nat)} (hv : CNv S ft N) (hN : WFN N) : ∃ SE, Rm G M_X0_unlikeSteps [.ref (gB G + 9)] S (some (.int (nI (sumN (fun x => if 0 < stN N N.length (x / 6) (x % 6) then 1 else 0) 42)))) SE ∧ Ag P10 S SE := by
  obtain ⟨S1, h1, h2, h3⟩ := c_X0_tell (G := G) hv hN (Nat.le_refl _)
  have hf : ∀ a b, stN N N.length a b ≤ 48 := fun a b => stN_48 hN a b _ (Nat.le_refl _)
  generalize stN N N.length = f at h2 hf ⊢
  have loop : ∀ (d i : Nat), i + d = 42 → U G M_X0_unlikeSteps (Ze G (some (.int (nI (sumN (fun x => if 0 < f (x / 6) (x % 6) then 1 else 0) 42)))) S1) 15 [some (.ref (gB G + 9)), some (.int (nI (sumN (fun x => if 0 < f (x / 6) (x % 6) then 1 else 0) i))), some (.int (nI i))] [] S1 := by
    intro d
    induction d with
    | zero =>
      intro i hi
      rw [Nat.add_zero] at hi
      subst hi
      refine V_il2 d_X0_unlikeSteps_15 ?_
      refine V_al0 d_X0_unlikeSteps_16 ?_
      refine V_getR d_X0_unlikeSteps_17 rfl rfl (by decide) rfl ?_
      refine V_alen d_X0_unlikeSteps_20 rfl (by decide) ?_
      refine U_ic_geN d_X0_unlikeSteps_21 (by omega) (by omega) (fun h21 => ?_) (fun q => absurd q (by omega))
      refine V_il1 d_X0_unlikeSteps_49 ?_
      exact V_iret d_X0_unlikeSteps_50 rfl (by first | rfl | simp_all) rfl
    | succ d ih =>
      intro i hi
      have hI := c_X8_item (G := G) (S := S1) (k := 10) (len := 42) (j := i) rfl (by decide) rfl (by omega)
      have e := h2 (i / 6) (by omega) (i % 6) (by omega)
      rw [show i / 6 * 6 + i % 6 = i by omega] at e
      rw [e] at hI
      have hx := hf (i / 6) (i % 6)
      have ih' := ih (i + 1) (by omega)
      have e9 : sumN (fun x => if 0 < f (x / 6) (x % 6) then 1 else 0) (i + 1) = sumN (fun x => if 0 < f (x / 6) (x % 6) then 1 else 0) i + (if 0 < f (i / 6) (i % 6) then 1 else 0) := rfl
      rw [e9] at ih'
      refine V_il2 d_X0_unlikeSteps_15 ?_
      refine V_al0 d_X0_unlikeSteps_16 ?_
      refine V_getR d_X0_unlikeSteps_17 rfl rfl (by decide) rfl ?_
      refine V_alen d_X0_unlikeSteps_20 rfl (by decide) ?_
      refine U_ic_geN d_X0_unlikeSteps_21 (by omega) (by omega) (fun q => absurd q (by omega)) (fun h21 => ?_)
      refine V_il1 d_X0_unlikeSteps_24 ?_
      refine V_al0 d_X0_unlikeSteps_25 ?_
      refine V_getR d_X0_unlikeSteps_26 rfl rfl (by decide) rfl ?_
      refine V_il2 d_X0_unlikeSteps_29 ?_
      refine U_cs2 d_X0_unlikeSteps_30 (hI) rfl ?_
      refine U_if_leN d_X0_unlikeSteps_33 (by omega) (fun h33 => ?_) (fun h33 => ?_)
      · rw [if_neg (by omega)] at ih'
        refine V_ki d_X0_unlikeSteps_40 ?_
        first | with_reducible refine V_iaddN d_X0_unlikeSteps_41 ?_ | refine V_iadd d_X0_unlikeSteps_41 ?_
        refine V_is1 d_X0_unlikeSteps_42 rfl ?_
        refine V_icN2 d_X0_unlikeSteps_43 rfl ?_
        refine V_goto d_X0_unlikeSteps_46 ?_
        exact ih'
      · rw [if_pos h33] at ih'
        refine V_ki d_X0_unlikeSteps_36 ?_
        refine V_goto d_X0_unlikeSteps_37 ?_
        first | with_reducible refine V_iaddN d_X0_unlikeSteps_41 ?_ | refine V_iadd d_X0_unlikeSteps_41 ?_
        refine V_is1 d_X0_unlikeSteps_42 rfl ?_
        refine V_icN2 d_X0_unlikeSteps_43 rfl ?_
        refine V_goto d_X0_unlikeSteps_46 ?_
        exact ih'
  refine ⟨S1, ?_, h3⟩
  refine Rn_of hp_X0_unlikeSteps [some (.ref (gB G + 9)), none, none] rfl (Nat.le_of_ble_eq_true rfl) (Nat.le_of_ble_eq_true rfl) ?_
  refine V_al0 d_X0_unlikeSteps_0 ?_
  refine V_al0 d_X0_unlikeSteps_1 ?_
  refine V_getR d_X0_unlikeSteps_2 rfl rfl (by decide) rfl ?_
  refine V_getIe d_X0_unlikeSteps_5 rfl rfl (by decide) (hv.2.1) ?_
  refine U_cv1v d_X0_unlikeSteps_8 (h1) rfl rfl rfl ?_
  refine V_ki d_X0_unlikeSteps_11 ?_
  refine V_is1 d_X0_unlikeSteps_12 rfl ?_
  refine V_ki d_X0_unlikeSteps_13 ?_
  refine V_is2 d_X0_unlikeSteps_14 rfl ?_
  exact loop 42 0 rfl
