def ab (f : Nat → Nat → Nat) (p b : Nat) : Nat := if p = b then 0 else f p b + 1
def be (f : Nat → Nat → Nat) (p : Nat) : Nat := (if p = 6 then 6 else 5) + sumN (f p) 6
theorem sumN_le {g : Nat → Nat} {B : Nat} (h : ∀ i, g i ≤ B) : ∀ k, sumN g k ≤ B * k
  | 0 => Nat.le_refl _
  | k + 1 => by
    have h1 := sumN_le h k
    have h2 := h k
    rw [sumN, Nat.mul_succ]
    omega
theorem be_le {f : Nat → Nat → Nat} (h : ∀ a b, f a b ≤ 48) (p : Nat) : be f p ≤ 294 := by
  have := sumN_le (h p) 6
  unfold be
  split <;> omega
theorem be_pos (f : Nat → Nat → Nat) (p : Nat) : 0 < be f p := by unfold be; split <;> omega
theorem ab_le {f : Nat → Nat → Nat} (h : ∀ a b, f a b ≤ 48) (p b : Nat) : ab f p b ≤ 49 := by
  have := h p b
  unfold ab
  split <;> omega
set_option maxRecDepth 100000 in
theorem c_X0_above {G : Gm} {S : AS} {f : Nat → Nat → Nat} {p b : Nat} (h : BV S f) (hp : p < 7) (hb : b < 6) : Rm G M_X0_above [.ref (gB G + 9), .int (pv p), .int (nI b)] S (some (.int (nI (ab f p b)))) S := by
  have hg := c_X0_gone (G := G) (S := S) hp hb
  rw [h p hp b hb] at hg
  refine Rn_of hp_X0_above [some (.ref (gB G + 9)), some (.int (pv p)), some (.int (nI b))] rfl (Nat.le_of_ble_eq_true rfl) (Nat.le_of_ble_eq_true rfl) ?_
  by_cases e : p = b
  · have e1 : pv p = nI b := by rw [pv, if_neg (by omega), e]
    refine V_il1 d_X0_above_0 ?_
    refine V_il2 d_X0_above_1 ?_
    refine V_ic_ne d_X0_above_2 (fun q => absurd e1 q) (fun h2 => ?_)
    refine V_ki d_X0_above_5 ?_
    refine V_goto d_X0_above_6 ?_
    exact V_iret d_X0_above_17 rfl (by rw [ab, if_pos e]) rfl
  · have e1 : ¬ pv p = nI b := by
      intro q
      by_cases h6 : p = 6
      · rw [pv, if_pos h6] at q
        exact nI_m1 (by omega) q.symm
      · rw [pv, if_neg h6] at q
        exact e (nI_inj (by omega) (by omega) q)
    refine V_il1 d_X0_above_0 ?_
    refine V_il2 d_X0_above_1 ?_
    refine V_ic_ne d_X0_above_2 (fun h2 => ?_) (fun q => (e1 q).elim)
    refine V_al0 d_X0_above_9 ?_
    refine V_il1 d_X0_above_10 ?_
    refine V_il2 d_X0_above_11 ?_
    refine U_cv2 d_X0_above_12 (hg) rfl rfl rfl ?_
    refine V_ki d_X0_above_15 ?_
    first | with_reducible refine V_iaddN d_X0_above_16 ?_ | refine V_iadd d_X0_above_16 ?_
    exact V_iret d_X0_above_17 rfl (by rw [ab, if_neg e]) rfl
set_option maxRecDepth 100000 in
theorem c_X0_below {G : Gm} {S : AS} {f : Nat → Nat → Nat} {p : Nat} (h : BV S f) (hp : p < 7) : Rm G M_X0_below [.ref (gB G + 9), .int (pv p)] S (some (.int (nI (be f p)))) S := by
  have loop : ∀ (d i : Nat), i + d = 6 → U G M_X0_below (Ze G (some (.int (nI (be f p)))) S) 14 [some (.ref (gB G + 9)), some (.int (pv p)), some (.int (nI ((if p = 6 then 6 else 5) + sumN (f p) i))), some (.int (nI i))] [] S := by
    intro d
    induction d with
    | zero =>
      intro i hi
      rw [Nat.add_zero] at hi
      subst hi
      refine V_il3 d_X0_below_14 ?_
      refine V_ki d_X0_below_15 ?_
      refine U_ic_geN d_X0_below_17 (by omega) (by omega) (fun h17 => ?_) (fun q => absurd q (by omega))
      refine V_il2 d_X0_below_35 ?_
      exact V_iret d_X0_below_36 rfl (by first | rfl | simp_all) rfl
    | succ d ih =>
      intro i hi
      have hg := c_X0_gone (G := G) (S := S) hp (show i < 6 by omega)
      rw [h p hp i (by omega)] at hg
      refine V_il3 d_X0_below_14 ?_
      refine V_ki d_X0_below_15 ?_
      refine U_ic_geN d_X0_below_17 (by omega) (by omega) (fun q => absurd q (by omega)) (fun h17 => ?_)
      refine V_il2 d_X0_below_20 ?_
      refine V_al0 d_X0_below_21 ?_
      refine V_il1 d_X0_below_22 ?_
      refine V_il3 d_X0_below_23 ?_
      refine U_cv2 d_X0_below_24 (hg) rfl rfl rfl ?_
      first | with_reducible refine V_iaddN d_X0_below_27 ?_ | refine V_iadd d_X0_below_27 ?_
      refine V_is2 d_X0_below_28 rfl ?_
      refine V_icN3 d_X0_below_29 rfl ?_
      refine V_goto d_X0_below_32 ?_
      rw [Nat.add_assoc]
      exact ih (i + 1) (by omega)
  have l0 := loop 6 0 (by omega)
  refine Rn_of hp_X0_below [some (.ref (gB G + 9)), some (.int (pv p)), none, none] rfl (Nat.le_of_ble_eq_true rfl) (Nat.le_of_ble_eq_true rfl) ?_
  by_cases h6 : p = 6
  · subst h6
    refine V_il1 d_X0_below_0 ?_
    refine V_ki d_X0_below_1 ?_
    refine V_ic_ne d_X0_below_2 (fun q => absurd rfl q) (fun h2 => ?_)
    refine V_ki d_X0_below_5 ?_
    refine V_goto d_X0_below_7 ?_
    refine V_is2 d_X0_below_11 rfl ?_
    refine V_ki d_X0_below_12 ?_
    refine V_is3 d_X0_below_13 rfl ?_
    exact l0
  · rw [if_neg h6] at l0
    have e1 : ¬ pv p = -1 := by rw [pv, if_neg h6]; exact nI_m1 (by omega)
    refine V_il1 d_X0_below_0 ?_
    refine V_ki d_X0_below_1 ?_
    refine V_ic_ne d_X0_below_2 (fun h2 => ?_) (fun q => (e1 q).elim)
    refine V_ki d_X0_below_10 ?_
    refine V_is2 d_X0_below_11 rfl ?_
    refine V_ki d_X0_below_12 ?_
    refine V_is3 d_X0_below_13 rfl ?_
    exact l0
set_option maxRecDepth 100000 in
theorem c_X0_nextBehind {G : Gm} {S : AS} {ft : Int32} {N : List (List Nat)} {k p b : Nat} (hv : CNv S ft N) (hN : WFN N) (hk : k ≤ N.length) (hp : p < 7) (hb : b < 6) : ∃ SE, Rm G M_X0_nextBehind [.ref (gB G + 9), .int (nI k), .int (pv p), .int (nI b)] S (some (.ref (gB G + 12))) SE ∧ SE.2 12 0 = lN (fr (ab (stN N k) p b) (be (stN N k) p) 0) ∧ SE.2 12 1 = lN (fr (ab (stN N k) p b) (be (stN N k) p) 1) ∧ Ag P10 S SE := by
  obtain ⟨S1, h1, h2, h3⟩ := c_X0_tell (G := G) hv hN hk
  have hf : ∀ a b, stN N k a b ≤ 48 := fun a b => stN_48 hN a b k hk
  have q1 := ab_le hf p b
  have q2 := be_le hf p
  have q3 := be_pos (stN N k) p
  refine ⟨frS S1 12 (ab (stN N k) p b) (be (stN N k) p), ?_, rfl, rfl, h3.sL.sL⟩
  refine Rn_of hp_X0_nextBehind [some (.ref (gB G + 9)), some (.int (nI k)), some (.int (pv p)), some (.int (nI b))] rfl (Nat.le_of_ble_eq_true rfl) (Nat.le_of_ble_eq_true rfl) ?_
  refine V_al0 d_X0_nextBehind_0 ?_
  refine V_il1 d_X0_nextBehind_1 ?_
  refine U_cv1v d_X0_nextBehind_2 (h1) rfl rfl rfl ?_
  refine V_al0 d_X0_nextBehind_5 ?_
  refine V_getR d_X0_nextBehind_6 rfl rfl (by decide) rfl ?_
  refine V_al0 d_X0_nextBehind_9 ?_
  refine V_il2 d_X0_nextBehind_10 ?_
  refine V_il3 d_X0_nextBehind_11 ?_
  refine U_cv2 d_X0_nextBehind_12 (c_X0_above h2 hp hb) rfl rfl rfl ?_
  refine V_i2lN d_X0_nextBehind_15 (by omega) ?_
  refine V_al0 d_X0_nextBehind_16 ?_
  refine V_il2 d_X0_nextBehind_17 ?_
  refine U_cv1 d_X0_nextBehind_18 (c_X0_below h2 hp) rfl rfl rfl ?_
  refine V_i2lN d_X0_nextBehind_21 (by omega) ?_
  refine U_cv2 d_X0_nextBehind_22 (c_X2_become rfl (by decide) (by omega) (by omega) q3) rfl rfl rfl ?_
  exact V_aret d_X0_nextBehind_25 rfl (by first | rfl | simp_all) rfl
/-- the product of the steps' fractions, in lowest terms at every step -/
def lkS (f : Nat → Nat → Nat) : List Nat → Nat → Nat × Nat → Nat × Nat
  | [], _, q => q
  | s :: t, p, q => lkS f t s (fr (q.1 * ab f p s) (q.2 * be f p) 0, fr (q.1 * ab f p s) (q.2 * be f p) 1)
theorem fr_le0 (a b : Nat) : fr a b 0 ≤ a := Nat.div_le_self _ _
theorem fr_le1 (a b : Nat) : fr a b 1 ≤ b := Nat.div_le_self _ _
theorem fr_pos1 {a b : Nat} (hb : 0 < b) : 0 < fr a b 1 := Nat.div_pos (Nat.gcd_le_right a hb) (Nat.gcd_pos_of_pos_right a hb)
theorem mul_300 {a b x y i : Nat} (h1 : a ≤ 300 ^ i) (h2 : x ≤ 300) : a * x ≤ 300 ^ (i + 1) := by
  rw [Nat.pow_succ]
  exact Nat.mul_le_mul h1 h2
set_option maxRecDepth 100000 in
theorem c_X0_likelihood {G : Gm} {S : AS} {ft : Int32} {N : List (List Nat)} {n : Nat} (hv : CNv S ft N) (hN : WFN N) (hn : n < N.length) : ∃ SE, Rm G M_X0_likelihood [.ref (gB G + 9), .int (nI n)] S (some (.ref (gB G + 12))) SE ∧ SE.2 12 0 = lN (lkS (stN N n) (ni N n) 6 (1, 1)).1 ∧ SE.2 12 1 = lN (lkS (stN N n) (ni N n) 6 (1, 1)).2 ∧ Ag P10 S SE := by
  obtain ⟨S1, h1, h2, h3⟩ := c_X0_tell (G := G) hv hN (Nat.le_of_lt hn)
  have hf : ∀ a b, stN N n a b ≤ 48 := fun a b => stN_48 hN a b n (Nat.le_of_lt hn)
  have h8 := hN.1
  have h6 := ni_le hN hn
  have hw := (ni_wf hN hn).2
  generalize stN N n = f at h2 hf ⊢
  have loop : ∀ (d i p : Nat) (q : Nat × Nat) (S2 : AS) (x3 : Option Value), i + d = (ni N n).length → p < 7 → (0 < i → ∃ h : i - 1 < (ni N n).length, (ni N n)[i - 1] = p) → (i = 0 → p = 6) → q.1 ≤ 300 ^ i → q.2 ≤ 300 ^ i → 0 < q.2 → CNv S2 ft N → BV S2 f → S2.2 12 0 = lN q.1 → S2.2 12 1 = lN q.2 →
      ∃ SE, U G M_X0_likelihood (Ze G (some (.ref (gB G + 12))) SE) 17 [some (.ref (gB G + 9)), some (.int (nI n)), some (.int (nI i)), x3] [] S2 ∧ SE.2 12 0 = lN (lkS f ((ni N n).drop i) p q).1 ∧ SE.2 12 1 = lN (lkS f ((ni N n).drop i) p q).2 ∧ Ag P10 S2 SE := by
    intro d
    induction d with
    | zero =>
      intro i p q S2 x3 hi hp hpi hp0 hq1 hq2 hq3 hv2 hb2 g1 g2
      rw [Nat.add_zero] at hi
      subst hi
      rw [List.drop_eq_nil_of_le (Nat.le_refl _)]
      refine ⟨S2, ?_, g1, g2, Ag.rf⟩
      refine V_il2 d_X0_likelihood_17 ?_
      refine V_al0 d_X0_likelihood_18 ?_
      refine V_getR d_X0_likelihood_19 rfl rfl (by decide) rfl ?_
      refine V_il1 d_X0_likelihood_22 ?_
      refine U_cv1 d_X0_likelihood_23 (c_X4_lengthOf hv2 hN hn) rfl rfl rfl ?_
      refine U_ic_geN d_X0_likelihood_26 (by omega) (by omega) (fun h26 => ?_) (fun q => absurd q (by omega))
      refine V_al0 d_X0_likelihood_75 ?_
      refine V_getR d_X0_likelihood_76 rfl rfl (by decide) rfl ?_
      exact V_aret d_X0_likelihood_79 rfl (by first | rfl | simp_all) rfl
    | succ d ih =>
      intro i p q S2 x3 hi hp hpi hp0 hq1 hq2 hq3 hv2 hb2 g1 g2
      have hl : i < (ni N n).length := by omega
      have hs : (ni N n)[i] < 6 := hw.2 _ (List.getElem_mem hl)
      have b1 := ab_le hf p (ni N n)[i]
      have b2 := be_le hf p
      have b3 := be_pos f p
      have m1 : q.1 * ab f p (ni N n)[i] ≤ 300 ^ (i + 1) := by rw [Nat.pow_succ]; exact Nat.mul_le_mul hq1 (by omega)
      have m2 : q.2 * be f p ≤ 300 ^ (i + 1) := by rw [Nat.pow_succ]; exact Nat.mul_le_mul hq2 (by omega)
      have m3 : (300 : Nat) ^ (i + 1) ≤ 300 ^ 6 := Nat.pow_le_pow_right (by decide) (by omega)
      have m4 : (300 : Nat) ^ 6 < 2 ^ 62 := by decide
      have m5 : 0 < q.2 * be f p := Nat.mul_pos hq3 b3
      have hsp : Rm G M_X4_shedOf [.ref (gB G + 4), .int (nI n), .int (nI i - nI 1)] S2 (some (.int (pv p))) S2 := by
        rcases Nat.eq_zero_or_pos i with g | g
        · have e := hp0 g
          subst g; subst e
          exact c_X4_shedOf_m1 hv2 hN hn
        · obtain ⟨k1, k2⟩ := hpi g
          have h := c_X4_shedOf (G := G) (j := i - 1) hv2 hN hn (by omega)
          rw [sh_pv hw k1, k2] at h
          rw [pk_sub g]
          exact h
      have hsi := c_X4_shedOf (G := G) (j := i) hv2 hN hn (by omega)
      rw [sh_in hl] at hsi
      have hmul := c_X2_multiply (G := G) (S := S2) (k := 12) rfl rfl g1 g2 (Nat.lt_of_le_of_lt m1 (Nat.lt_of_le_of_lt m3 m4)) (Nat.lt_of_le_of_lt m2 (Nat.lt_of_le_of_lt m3 m4)) m5
      obtain ⟨SE, r1, r2, r3, r4⟩ := ih (i + 1) (ni N n)[i] (fr (q.1 * ab f p (ni N n)[i]) (q.2 * be f p) 0, fr (q.1 * ab f p (ni N n)[i]) (q.2 * be f p) 1) (frS S2 12 (q.1 * ab f p (ni N n)[i]) (q.2 * be f p)) (some (.int (pv p))) (by omega) (by omega) (fun _ => ⟨by omega, rfl⟩) (fun z => by omega) (Nat.le_trans (fr_le0 _ _) m1) (Nat.le_trans (fr_le1 _ _) m2) (fr_pos1 m5) hv2 hb2 rfl rfl
      rw [drop_cons hl]
      refine ⟨SE, ?_, r2, r3, (Ag.rf.sL.sL).tr r4⟩
      refine V_il2 d_X0_likelihood_17 ?_
      refine V_al0 d_X0_likelihood_18 ?_
      refine V_getR d_X0_likelihood_19 rfl rfl (by decide) rfl ?_
      refine V_il1 d_X0_likelihood_22 ?_
      refine U_cv1 d_X0_likelihood_23 (c_X4_lengthOf hv2 hN hn) rfl rfl rfl ?_
      refine U_ic_geN d_X0_likelihood_26 (by omega) (by omega) (fun q => absurd q (by omega)) (fun h26 => ?_)
      refine V_al0 d_X0_likelihood_29 ?_
      refine V_getR d_X0_likelihood_30 rfl rfl (by decide) rfl ?_
      refine V_il1 d_X0_likelihood_33 ?_
      refine V_il2 d_X0_likelihood_34 ?_
      refine V_ki d_X0_likelihood_35 ?_
      refine V_isub d_X0_likelihood_36 ?_
      refine U_cv2 d_X0_likelihood_37 (hsp) rfl rfl rfl ?_
      refine V_is3 d_X0_likelihood_40 rfl ?_
      refine V_al0 d_X0_likelihood_41 ?_
      refine V_getR d_X0_likelihood_42 rfl rfl (by decide) rfl ?_
      refine V_al0 d_X0_likelihood_45 ?_
      refine V_il3 d_X0_likelihood_46 ?_
      refine V_al0 d_X0_likelihood_47 ?_
      refine V_getR d_X0_likelihood_48 rfl rfl (by decide) rfl ?_
      refine V_il1 d_X0_likelihood_51 ?_
      refine V_il2 d_X0_likelihood_52 ?_
      refine U_cv2 d_X0_likelihood_53 (hsi) rfl rfl rfl ?_
      refine U_cv2 d_X0_likelihood_56 (c_X0_above hb2 hp hs) rfl rfl rfl ?_
      refine V_i2lN d_X0_likelihood_59 (by omega) ?_
      refine V_al0 d_X0_likelihood_60 ?_
      refine V_il3 d_X0_likelihood_61 ?_
      refine U_cv1 d_X0_likelihood_62 (c_X0_below hb2 hp) rfl rfl rfl ?_
      refine V_i2lN d_X0_likelihood_65 (by omega) ?_
      refine U_cv2v d_X0_likelihood_66 (hmul) rfl rfl rfl ?_
      refine V_icN2 d_X0_likelihood_69 rfl ?_
      refine V_goto d_X0_likelihood_72 ?_
      exact r1
  obtain ⟨SE, r1, r2, r3, r4⟩ := loop (ni N n).length 0 6 (1, 1) (frS S1 12 1 1) none (Nat.zero_add _) (by omega) (fun z => absurd z (Nat.lt_irrefl 0)) (fun _ => rfl) (Nat.le_refl _) (Nat.le_refl _) (Nat.le_refl _) (hv.ag h3 (fun _ => rfl) (fun _ => rfl) (fun _ => rfl)) h2 rfl rfl
  refine ⟨SE, ?_, r2, r3, (h3.sL.sL).tr r4⟩
  refine Rn_of hp_X0_likelihood [some (.ref (gB G + 9)), some (.int (nI n)), none, none] rfl (Nat.le_of_ble_eq_true rfl) (Nat.le_of_ble_eq_true rfl) ?_
  refine V_al0 d_X0_likelihood_0 ?_
  refine V_il1 d_X0_likelihood_1 ?_
  refine U_cv1v d_X0_likelihood_2 (h1) rfl rfl rfl ?_
  refine V_al0 d_X0_likelihood_5 ?_
  refine V_getR d_X0_likelihood_6 rfl rfl (by decide) rfl ?_
  refine V_lconst (v := lN 1) d_X0_likelihood_9 rfl ?_
  refine V_lconst (v := lN 1) d_X0_likelihood_10 rfl ?_
  refine U_cv2 d_X0_likelihood_11 (c_X2_become (a := 1) (b := 1) rfl (by decide) (by omega) (by omega) (by omega)) rfl rfl rfl ?_
  refine V_pop d_X0_likelihood_14 rfl ?_
  refine V_ki d_X0_likelihood_15 ?_
  refine V_is2 d_X0_likelihood_16 rfl ?_
  exact r1
