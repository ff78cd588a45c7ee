/-! the reference: new rows, code by code -/
theorem bNT {b : Bool} (h : ¬ b = true) : b = false := by
  cases b
  · rfl
  · exact absurd rfl h
theorem fstN_some (g : Nat → Bool) : ∀ k i c, fstN g k i = some c → i ≤ c ∧ c < i + k ∧ g c = true ∧ ∀ j, i ≤ j → j < c → g j = false
  | 0, _, _, h => by cases h
  | k + 1, i, c, h => by
    rw [fstN] at h
    by_cases q : g i = true
    · rw [if_pos q] at h
      cases h
      exact ⟨Nat.le_refl _, by omega, q, fun j h1 h2 => by omega⟩
    · rw [if_neg q] at h
      obtain ⟨h1, h2, h3, h4⟩ := fstN_some g k (i + 1) c h
      refine ⟨by omega, by omega, h3, fun j j1 j2 => ?_⟩
      rcases Nat.eq_or_lt_of_le j1 with e | e
      · rw [← e]; exact bNT q
      · exact h4 j e j2
theorem fstN_none (g : Nat → Bool) : ∀ k i, fstN g k i = none → ∀ j, i ≤ j → j < i + k → g j = false
  | 0, i, _, j, h1, h2 => by omega
  | k + 1, i, h, j, h1, h2 => by
    rw [fstN] at h
    by_cases q : g i = true
    · rw [if_pos q] at h; cases h
    · rw [if_neg q] at h
      rcases Nat.eq_or_lt_of_le h1 with e | e
      · rw [← e]; exact bNT q
      · exact fstN_none g k (i + 1) h j e (by omega)
theorem fstN_is (g : Nat → Bool) (c : Nat) (hc : g c = true) : ∀ k i, i ≤ c → c < i + k → (∀ j, i ≤ j → j < c → g j = false) → fstN g k i = some c
  | 0, i, h1, h2, _ => by omega
  | k + 1, i, h1, h2, h3 => by
    rw [fstN]
    rcases Nat.eq_or_lt_of_le h1 with e | e
    · subst e; rw [if_pos hc]
    · rw [if_neg (by rw [h3 i (Nat.le_refl _) e]; decide)]
      exact fstN_is g c hc k (i + 1) e (by omega) (fun j j1 j2 => h3 j (by omega) j2)
theorem fstN_no (g : Nat → Bool) : ∀ k i, (∀ j, i ≤ j → j < i + k → g j = false) → fstN g k i = none
  | 0, _, _ => rfl
  | k + 1, i, h => by
    rw [fstN, if_neg (by rw [h i (Nat.le_refl _) (by omega)]; decide)]
    exact fstN_no g k (i + 1) (fun j j1 j2 => h j (by omega) (by omega))
def cntB (g : Nat → Bool) (n : Nat) : Nat := sumN (fun c => if g c = true then 1 else 0) n
theorem cntB_pos (g : Nat → Bool) : ∀ n, 0 < cntB g n ↔ ∃ c, c < n ∧ g c = true
  | 0 => ⟨fun h => absurd h (Nat.lt_irrefl 0), fun ⟨c, h, _⟩ => absurd h (Nat.not_lt_zero _)⟩
  | n + 1 => by
    have ih := cntB_pos g n
    have e : cntB g (n + 1) = cntB g n + (if g n = true then 1 else 0) := rfl
    rw [e]
    by_cases q : g n = true
    · rw [if_pos q]
      exact ⟨fun _ => ⟨n, by omega, q⟩, fun _ => by omega⟩
    · rw [if_neg q, Nat.add_zero, ih]
      constructor
      · rintro ⟨c, h1, h2⟩
        exact ⟨c, by omega, h2⟩
      · rintro ⟨c, h1, h2⟩
        refine ⟨c, ?_, h2⟩
        rcases Nat.eq_or_lt_of_le (Nat.le_of_lt_succ h1) with e | e
        · subst e; exact absurd h2 q
        · exact e
theorem sumN_app (g : Nat → Nat) (m : Nat) : ∀ n, sumN g (m + n) = sumN g m + sumN (fun r => g (m + r)) n
  | 0 => rfl
  | n + 1 => by
    show sumN g (m + n) + g (m + n) = sumN g m + (sumN (fun r => g (m + r)) n + g (m + n))
    rw [sumN_app g m n]; omega
theorem sumN_mul (g : Nat → Nat) (b : Nat) : ∀ a, sumN g (a * b) = sumN (fun s => sumN (fun r => g (s * b + r)) b) a
  | 0 => by rw [Nat.zero_mul]; rfl
  | a + 1 => by
    rw [Nat.succ_mul, sumN_app, sumN_mul g b a]
    rfl
/-- a row that goes on from a set of sheds and the last of them, by the lower digits of a code -/
def gP (f : Nat → Nat → Nat) : Nat → Nat → Nat → Nat → Bool
  | 0, _, _, _ => true
  | k + 1, set, p, c => (!(set.testBit (c / 6 ^ k % 6) || decide (0 < f p (c / 6 ^ k % 6)))) && gP f k (set ||| 2 ^ (c / 6 ^ k % 6)) (c / 6 ^ k % 6) c
theorem dig_add (k s c j : Nat) (h : j < k) : (s * 6 ^ k + c) / 6 ^ j % 6 = c / 6 ^ j % 6 := by
  have e : s * 6 ^ k = 6 ^ j * (6 * (s * 6 ^ (k - j - 1))) := by
    have e1 : (6 : Nat) ^ k = 6 ^ j * (6 * 6 ^ (k - j - 1)) := by
      rw [← Nat.pow_succ', ← Nat.pow_add]
      congr 1
      omega
    rw [e1]; ac_rfl
  rw [e, Nat.mul_add_div (Nat.pow_pos (by decide)), Nat.mul_add_mod]
theorem gP_add (f : Nat → Nat → Nat) (K s : Nat) : ∀ k set p c, k ≤ K → gP f k set p (s * 6 ^ K + c) = gP f k set p c
  | 0, _, _, _, _ => rfl
  | k + 1, set, p, c, h => by
    rw [gP, gP, dig_add K s c k (by omega), gP_add f K s k _ _ c (by omega)]
theorem top_dig {k s r : Nat} (hs : s < 6) (hr : r < 6 ^ k) : (s * 6 ^ k + r) / 6 ^ k % 6 = s := by
  rw [Nat.mul_comm, Nat.mul_add_div (Nat.pow_pos (by decide)), Nat.div_eq_of_lt hr, Nat.add_zero, Nat.mod_eq_of_lt hs]
theorem gP_top (f : Nat → Nat → Nat) {k set p s r : Nat} (hs : s < 6) (hr : r < 6 ^ k) : gP f (k + 1) set p (s * 6 ^ k + r) = ((!(set.testBit s || decide (0 < f p s))) && gP f k (set ||| 2 ^ s) s r) := by
  rw [gP, top_dig hs hr, gP_add f k s k _ _ r (Nat.le_refl _)]
theorem gP_cnt (f : Nat → Nat → Nat) : ∀ k set p, cntB (gP f k set p) (6 ^ k) = eB f k set p
  | 0, _, _ => rfl
  | k + 1, set, p => by
    unfold cntB
    rw [Nat.pow_succ, Nat.mul_comm, sumN_mul, eB]
    refine sumN_congr (fun s hs => ?_)
    have e : sumN (fun r => if gP f (k + 1) set p (s * 6 ^ k + r) = true then 1 else 0) (6 ^ k) = sumN (fun r => if ((!(set.testBit s || decide (0 < f p s))) && gP f k (set ||| 2 ^ s) s r) = true then 1 else 0) (6 ^ k) := sumN_congr (fun r hr => by rw [gP_top f hs hr])
    rw [e]
    by_cases q : (set.testBit s || decide (0 < f p s)) = true
    · rw [if_pos q, q]
      have z : ∀ n, sumN (fun r => if ((!true) && gP f k (set ||| 2 ^ s) s r) = true then 1 else 0) n = 0 := by
        intro n
        induction n with
        | zero => rfl
        | succ n ih => rw [sumN, ih]; rfl
      exact z _
    · rw [if_neg q, bNT q]
      exact gP_cnt f k _ _
theorem lnR_some (f : Nat → Nat → Nat) : ∀ k set p c i, set < 64 → pcn set + k = 6 → i < k → c < 6 ^ k → gP f k set p c = true → (∀ c', c' < c → gP f k set p c' = false) → lnR f (i + 1) set p = some (c / 6 ^ (k - 1 - i) % 6)
  | 0, _, _, _, _, _, _, h, _, _, _ => absurd h (Nat.not_lt_zero _)
  | k + 1, set, p, c, i, hset, hk, hi, hc, hg, hmin => by
    have h6 : 0 < 6 ^ k := Nat.pow_pos (by decide)
    have hs : c / 6 ^ k < 6 := Nat.div_lt_of_lt_mul (by rw [← Nat.pow_succ]; exact hc)
    have hr : c % 6 ^ k < 6 ^ k := Nat.mod_lt _ h6
    have hcs : c / 6 ^ k * 6 ^ k + c % 6 ^ k = c := by rw [Nat.mul_comm]; exact Nat.div_add_mod c (6 ^ k)
    generalize c / 6 ^ k = s at hs hcs
    generalize c % 6 ^ k = r at hr hcs
    subst hcs
    rw [gP_top f hs hr, Bool.and_eq_true] at hg
    obtain ⟨hg1, hg2⟩ := hg
    have hb : (set.testBit s || decide (0 < f p s)) = false := by
      cases q : (set.testBit s || decide (0 < f p s)) with
      | false => rfl
      | true => rw [q] at hg1; cases hg1
    have hbt : set.testBit s = false := by
      rw [Bool.or_eq_false_iff] at hb; exact hb.1
    have ek : 5 - pcn set = k := by omega
    obtain ⟨p1, p2, p3⟩ := pcn_set set hset s hs hbt
    have hfst : fstN (fun s => decide (0 < eY f set p s)) 6 0 = some s := by
      refine fstN_is _ s ?_ 6 0 (Nat.zero_le _) (by omega) (fun j _ j2 => ?_)
      · refine decide_eq_true ?_
        unfold eY
        rw [if_neg (by rw [hb]; decide), ek, ← gP_cnt, cntB_pos]
        exact ⟨r, hr, hg2⟩
      · refine decide_eq_false (fun q => ?_)
        unfold eY at q
        by_cases z : (set.testBit j || decide (0 < f p j)) = true
        · rw [if_pos z] at q; exact absurd q (Nat.lt_irrefl 0)
        · rw [if_neg z, ek, ← gP_cnt, cntB_pos] at q
          obtain ⟨r', q1, q2⟩ := q
          have hlt : j * 6 ^ k + r' < s * 6 ^ k + r := by
            have : (j + 1) * 6 ^ k ≤ s * 6 ^ k := Nat.mul_le_mul_right _ j2
            rw [Nat.succ_mul] at this
            omega
          have := hmin _ hlt
          rw [gP_top f (by omega) q1, bNT z, q2] at this
          cases this
    rw [lnR, hfst]
    show lnR f i (set ||| 2 ^ s) s = _
    cases i with
    | zero =>
      rw [show k + 1 - 1 - 0 = k by omega, top_dig hs hr]
      rfl
    | succ i =>
      have ih := lnR_some f k (set ||| 2 ^ s) s r i p2 (by omega) (by omega) hr hg2 (fun c' hc' => by
        have := hmin (s * 6 ^ k + c') (by omega)
        rw [gP_top f hs (by omega), hb] at this
        exact this)
      rw [ih, show k + 1 - 1 - (i + 1) = k - 1 - i by omega, dig_add k s r _ (by omega)]
theorem lnR_none (f : Nat → Nat → Nat) {k set p i : Nat} (hk : pcn set + (k + 1) = 6) (h : ∀ c, c < 6 ^ (k + 1) → gP f (k + 1) set p c = false) : lnR f (i + 1) set p = none := by
  have ek : 5 - pcn set = k := by omega
  have hf : fstN (fun s => decide (0 < eY f set p s)) 6 0 = none := by
    refine fstN_no _ 6 0 (fun j _ j2 => decide_eq_false (fun q => ?_))
    unfold eY at q
    by_cases z : (set.testBit j || decide (0 < f p j)) = true
    · rw [if_pos z] at q; exact absurd q (Nat.lt_irrefl 0)
    · rw [if_neg z, ek, ← gP_cnt, cntB_pos] at q
      obtain ⟨r', q1, q2⟩ := q
      have hlt : j * 6 ^ k + r' < 6 ^ (k + 1) := by
        have : (j + 1) * 6 ^ k ≤ 6 * 6 ^ k := Nat.mul_le_mul_right _ (by omega)
        rw [Nat.succ_mul] at this
        have e6 : 6 ^ (k + 1) = 6 * 6 ^ k := Nat.pow_succ'
        rw [e6]
        omega
      have := h _ hlt
      rw [gP_top f (by omega) q1, bNT z, q2] at this
      cases this
  rw [lnR, hf]
/-- the sheds among the lower digits of a code -/
def uD : Nat → Nat → Nat
  | 0, _ => 0
  | k + 1, c => uD k c ||| 2 ^ (c / 6 ^ k % 6)
def gDg : Nat → Nat → Nat → Bool
  | 0, _, _ => true
  | k + 1, set, c => (!set.testBit (c / 6 ^ k % 6)) && gDg k (set ||| 2 ^ (c / 6 ^ k % 6)) c
def vG (f : Nat → Nat → Nat) : Nat → Nat → Nat → Bool
  | 0, _, _ => true
  | k + 1, p, c => (!decide (0 < f p (c / 6 ^ k % 6))) && vG f k (c / 6 ^ k % 6) c
theorem gP_split (f : Nat → Nat → Nat) : ∀ k set p c, gP f k set p c = (gDg k set c && vG f k p c)
  | 0, _, _, _ => rfl
  | k + 1, set, p, c => by
    rw [gP, gDg, vG, gP_split f k, Bool.not_or]
    ac_rfl
theorem pcn_up : ∀ set, set < 64 → ∀ s, s < 6 → pcn (set ||| 2 ^ s) ≤ pcn set + 1 := by decide +kernel
theorem or_in : ∀ set, set < 64 → ∀ s, s < 6 → set.testBit s = true → set ||| 2 ^ s = set := by decide +kernel
theorem mod6 (x : Nat) : x % 6 < 6 := Nat.mod_lt _ (by decide)
theorem uD_lt : ∀ k c, uD k c < 64
  | 0, c => (show 0 < 64 by decide)
  | k + 1, c => pcn_or _ (uD_lt k c) _ (mod6 _)
theorem or_lt {a b : Nat} (ha : a < 64) (hb : b < 64) : a ||| b < 64 := Nat.or_lt_two_pow (n := 6) ha hb
theorem uD_pcn : ∀ k set c, set < 64 → pcn (set ||| uD k c) ≤ pcn set + k
  | 0, set, c, _ => by rw [uD, Nat.or_zero]; exact Nat.le_refl _
  | k + 1, set, c, h => by
    have h1 := uD_pcn k set c h
    have h2 := pcn_up (set ||| uD k c) (or_lt h (uD_lt k c)) (c / 6 ^ k % 6) (mod6 _)
    rw [uD, ← Nat.or_assoc]
    omega
theorem gD_uD : ∀ k set c, set < 64 → pcn set + k = 6 → gDg k set c = decide (set ||| uD k c = 63)
  | 0, set, c, h, hk => by
    have := (pcn_le set h).2.mp (by omega)
    rw [gDg, uD, Nat.or_zero, this]
    rfl
  | k + 1, set, c, h, hk => by
    have hs := mod6 (c / 6 ^ k)
    rw [gDg, uD]
    generalize c / 6 ^ k % 6 = s at hs ⊢
    have er : set ||| (uD k c ||| 2 ^ s) = (set ||| 2 ^ s) ||| uD k c := by
      rw [Nat.or_comm (uD k c), Nat.or_assoc]
    rw [er]
    cases q : set.testBit s with
    | true =>
      rw [or_in set h s hs q]
      have h1 := uD_pcn k set c h
      have : ¬ set ||| uD k c = 63 := fun z => by
        have h2 := (pcn_le 63 (by decide)).2.mpr rfl
        rw [z] at h1
        omega
      rw [decide_eq_false this]
      rfl
    | false =>
      obtain ⟨p1, p2, p3⟩ := pcn_set set h s hs q
      rw [gD_uD k _ c p2 (by omega)]
      rfl
def aC (f : Nat → Nat → Nat) (c t : Nat) : Bool := !decide (0 < f (if t = 5 then 6 else c / 6 ^ (t + 1) % 6) (c / 6 ^ t % 6))
def aF (f : Nat → Nat → Nat) (c : Nat) : Nat → Nat → Bool
  | 0, _ => true
  | d + 1, t => aC f c t && aF f c d (t + 1)
theorem aF_vG (f : Nat → Nat → Nat) (c : Nat) : aF f c 6 0 = vG f 6 6 c := by
  show (aC f c 0 && (aC f c 1 && (aC f c 2 && (aC f c 3 && (aC f c 4 && (aC f c 5 && true)))))) = (aC f c 5 && (aC f c 4 && (aC f c 3 && (aC f c 2 && (aC f c 1 && (aC f c 0 && true))))))
  ac_rfl
theorem isNew_eq (f : Nat → Nat → Nat) (c : Nat) : gP f 6 0 6 c = (decide (uD 6 c = 63) && aF f c 6 0) := by
  rw [gP_split, gD_uD 6 0 c (by decide) (by decide), Nat.zero_or, aF_vG]
set_option maxRecDepth 100000 in
theorem c_X9_isFresh {G : Gm} {S : AS} {N : List (List Nat)} {c : Nat} (hv : MNv S N) (hN : WFN N) (hc : c < 46656) : Rm G M_X9_isFresh [.ref (gB G + 22), .int (nI c)] S (some (.int (bI (aF (stN N N.length) c 6 0)))) S := by
  have h8 := hN.1
  have hf : ∀ a b, stN N N.length a b ≤ 48 := fun a b => stN_48 hN a b _ (Nat.le_refl _)
  have hgo := fun a b (ha : a < 7) (hb : b < 6) => c_X9_goneIn (G := G) (k := N.length) (a := a) (b := b) hv hN (Nat.le_refl _) ha hb
  generalize stN N N.length = f at hf hgo ⊢
  have loop : ∀ (d t : Nat) (y4 y5 : Option Value), t + d = 6 → U G M_X9_isFresh (Ze G (some (.int (bI (aF f c d t)))) S) 4 [some (.ref (gB G + 22)), some (.int (nI c)), some (.int (nI (c / 6 ^ t))), some (.int (if t = 6 then -1 else nI (5 - t))), y4, y5] [] S := by
    intro d
    induction d with
    | zero =>
      intro t y4 y5 ht
      rw [Nat.add_zero] at ht
      subst ht
      refine V_il3 d_X9_isFresh_4 ?_
      refine V_if_lt d_X9_isFresh_5 (fun h5 => ?_) (fun q => absurd (show (-1 : Int32) < 0 by decide) q)
      refine V_ki d_X9_isFresh_57 ?_
      exact V_zret d_X9_isFresh_58 rfl rfl (by first | rfl | simp_all) rfl
    | succ d ih =>
      intro t y4 y5 ht
      have hle : c / 6 ^ t ≤ c := Nat.div_le_self _ _
      have hle2 : c / 6 ^ (t + 1) ≤ c := Nat.div_le_self _ _
      have ed : c / 6 ^ t / 6 = c / 6 ^ (t + 1) := by rw [Nat.div_div_eq_div_mul, ← Nat.pow_succ]
      have m1 := mod6 (c / 6 ^ t)
      have m2 := mod6 (c / 6 ^ (t + 1))
      have r1 := ih (t + 1) (some (.int (nI (c / 6 ^ t % 6)))) (some (.int (nI (if t = 5 then 6 else c / 6 ^ (t + 1) % 6)))) (by omega)
      rw [if_neg (by omega), aF]
      by_cases ct : t = 5
      · subst ct
        have hC : aC f c 5 = !decide (0 < f 6 (c / 6 ^ 5 % 6)) := rfl
        rw [if_pos rfl, if_pos rfl] at r1
        have hg := hgo 6 (c / 6 ^ 5 % 6) (by omega) m1
        have hfb := hf 6 (c / 6 ^ 5 % 6)
        refine V_il3 d_X9_isFresh_4 ?_
        refine U_if_ltN d_X9_isFresh_5 (by omega) (fun q => absurd q (by omega)) (fun h5 => ?_)
        refine V_il2 d_X9_isFresh_8 ?_
        refine V_ki d_X9_isFresh_9 ?_
        refine V_irem d_X9_isFresh_11 (by decide) ?_
        rw [pk_rem (by omega) (by decide) (by decide)]
        refine V_is4 d_X9_isFresh_12 rfl ?_
        refine V_il2 d_X9_isFresh_14 ?_
        refine V_ki d_X9_isFresh_15 ?_
        refine V_idiv d_X9_isFresh_17 (by decide) ?_
        rw [pk_div (by omega) (by decide) (by decide), ed]
        refine V_is2 d_X9_isFresh_18 rfl ?_
        refine V_il3 d_X9_isFresh_19 ?_
        refine U_if_neN d_X9_isFresh_20 (by omega) (fun q => absurd q (by decide)) (fun h20 => ?_)
        refine V_ki d_X9_isFresh_23 ?_
        refine V_goto d_X9_isFresh_25 ?_
        refine V_is5 d_X9_isFresh_32 rfl ?_
        refine V_al0 d_X9_isFresh_34 ?_
        refine V_al0 d_X9_isFresh_35 ?_
        refine V_getIe d_X9_isFresh_36 rfl rfl (by decide) (hv.1) ?_
        refine V_il5 d_X9_isFresh_39 ?_
        refine V_il4 d_X9_isFresh_41 ?_
        refine U_cv3 d_X9_isFresh_43 (hg) rfl rfl rfl ?_
        refine U_if_leN d_X9_isFresh_46 (by omega) (fun h46 => ?_) (fun h46 => ?_)
        · refine V_ic3 d_X9_isFresh_51 rfl (show nI (5 - 5) + Int32.ofInt (-1) = -1 by decide) ?_
          refine V_goto d_X9_isFresh_54 ?_
          rw [hC, decide_eq_false (by omega)]
          exact r1
        · refine V_ki d_X9_isFresh_49 ?_
          exact V_zret d_X9_isFresh_50 rfl rfl (by rw [hC, decide_eq_true (by omega)]; rfl) rfl
      · have hC : aC f c t = !decide (0 < f (c / 6 ^ (t + 1) % 6) (c / 6 ^ t % 6)) := by rw [aC, if_neg ct]
        rw [if_neg (by omega), if_neg ct] at r1
        have hg := hgo (c / 6 ^ (t + 1) % 6) (c / 6 ^ t % 6) (by omega) m1
        have hfb := hf (c / 6 ^ (t + 1) % 6) (c / 6 ^ t % 6)
        rw [show 5 - t = (5 - (t + 1)) + 1 by omega]
        refine V_il3 d_X9_isFresh_4 ?_
        refine U_if_ltN d_X9_isFresh_5 (by omega) (fun q => absurd q (by omega)) (fun h5 => ?_)
        refine V_il2 d_X9_isFresh_8 ?_
        refine V_ki d_X9_isFresh_9 ?_
        refine V_irem d_X9_isFresh_11 (by decide) ?_
        rw [pk_rem (by omega) (by decide) (by decide)]
        refine V_is4 d_X9_isFresh_12 rfl ?_
        refine V_il2 d_X9_isFresh_14 ?_
        refine V_ki d_X9_isFresh_15 ?_
        refine V_idiv d_X9_isFresh_17 (by decide) ?_
        rw [pk_div (by omega) (by decide) (by decide), ed]
        refine V_is2 d_X9_isFresh_18 rfl ?_
        refine V_il3 d_X9_isFresh_19 ?_
        refine U_if_neN d_X9_isFresh_20 (by omega) (fun h20 => ?_) (fun q => absurd q (by omega))
        refine V_il2 d_X9_isFresh_28 ?_
        refine V_ki d_X9_isFresh_29 ?_
        refine V_irem d_X9_isFresh_31 (by decide) ?_
        rw [pk_rem (by omega) (by decide) (by decide)]
        refine V_is5 d_X9_isFresh_32 rfl ?_
        refine V_al0 d_X9_isFresh_34 ?_
        refine V_al0 d_X9_isFresh_35 ?_
        refine V_getIe d_X9_isFresh_36 rfl rfl (by decide) (hv.1) ?_
        refine V_il5 d_X9_isFresh_39 ?_
        refine V_il4 d_X9_isFresh_41 ?_
        refine U_cv3 d_X9_isFresh_43 (hg) rfl rfl rfl ?_
        refine U_if_leN d_X9_isFresh_46 (by omega) (fun h46 => ?_) (fun h46 => ?_)
        · refine V_icM3 d_X9_isFresh_51 rfl ?_
          refine V_goto d_X9_isFresh_54 ?_
          rw [hC, decide_eq_false (by omega)]
          exact r1
        · refine V_ki d_X9_isFresh_49 ?_
          exact V_zret d_X9_isFresh_50 rfl rfl (by rw [hC, decide_eq_true (by omega)]; rfl) rfl
  have l0 := loop 6 0 none none rfl
  rw [if_neg (by decide), Nat.pow_zero, Nat.div_one] at l0
  refine Rn_of hp_X9_isFresh [some (.ref (gB G + 22)), some (.int (nI c)), none, none, none, none] rfl (Nat.le_of_ble_eq_true rfl) (Nat.le_of_ble_eq_true rfl) ?_
  refine V_il1 d_X9_isFresh_0 ?_
  refine V_is2 d_X9_isFresh_1 rfl ?_
  refine V_ki d_X9_isFresh_2 ?_
  refine V_is3 d_X9_isFresh_3 rfl ?_
  exact l0
set_option maxRecDepth 100000 in
theorem c_X9_freshOf {G : Gm} {S : AS} {b : Nat → Nat} {sz : Nat} {ft vI r : Int32} {N : List (List Nat)} (hv : MTv S b sz) (hx : TXT b sz ft N) (hr : (vI = -1 ∧ r = nI (eB (stN N N.length) 6 0 6)) ∨ ∃ i, i < 6 ∧ vI = nI i ∧ r = oI (lnR (stN N N.length) (i + 1) 0 6)) : ∃ SE, Rm G M_X9_freshOf [.ref (gB G + 22), .int vI] S (some (.int r)) SE ∧ MNv SE N ∧ Ag PM S SE := by
  obtain ⟨S1, f1, f2, f3⟩ := c_X9_faultNow (G := G) hv hx
  have hN := PR_wf hx.2.2
  have h8 := hN.1
  refine ⟨S1, ?_, f2, f3⟩
  have hfr := fun c (hc : c < 46656) => c_X9_isFresh (G := G) (c := c) f2 hN hc
  generalize stN N N.length = f at hr hfr
  have e46 : 6 ^ 6 = 46656 := by decide
  have hcnt := gP_cnt f 6 0 6
  rw [e46] at hcnt
  have inner : ∀ (many : Nat) (lI : Int32) (c : Nat), c < 46656 → ∀ (d k : Nat), k + d = 6 → ∀ Z, U G M_X9_freshOf Z 62 [some (.ref (gB G + 22)), some (.int vI), some (.int ft), some (.int (nI many)), some (.int lI), some (.int (nI c)), some (.int (nI (uD 6 c))), some (.int (nI (c / 6 ^ 6))), some (.int (nI 6))] [] S1 → U G M_X9_freshOf Z 30 [some (.ref (gB G + 22)), some (.int vI), some (.int ft), some (.int (nI many)), some (.int lI), some (.int (nI c)), some (.int (nI (uD k c))), some (.int (nI (c / 6 ^ k))), some (.int (nI k))] [] S1 := by
    intro many lI c hc d
    induction d with
    | zero =>
      intro k hk Z kz
      rw [Nat.add_zero] at hk
      subst hk
      refine V_il8 d_X9_freshOf_30 ?_
      refine V_ki d_X9_freshOf_32 ?_
      refine U_ic_geN d_X9_freshOf_34 (by omega) (by omega) (fun h34 => ?_) (fun q => absurd q (by omega))
      exact kz
    | succ d ih =>
      intro k hk Z kz
      have hle : c / 6 ^ k ≤ c := Nat.div_le_self _ _
      have ed : c / 6 ^ k / 6 = c / 6 ^ (k + 1) := by rw [Nat.div_div_eq_div_mul, ← Nat.pow_succ]
      have m1 := mod6 (c / 6 ^ k)
      have r1 := ih (k + 1) (by omega) Z kz
      rw [uD] at r1
      refine V_il8 d_X9_freshOf_30 ?_
      refine V_ki d_X9_freshOf_32 ?_
      refine U_ic_geN d_X9_freshOf_34 (by omega) (by omega) (fun q => absurd q (by omega)) (fun h34 => ?_)
      refine V_il6 d_X9_freshOf_37 ?_
      refine V_ki d_X9_freshOf_39 ?_
      refine V_il7 d_X9_freshOf_40 ?_
      refine V_ki d_X9_freshOf_42 ?_
      refine V_irem d_X9_freshOf_44 (by decide) ?_
      rw [pk_rem (by omega) (by decide) (by decide)]
      refine V_ishl d_X9_freshOf_45 ?_
      refine V_ior d_X9_freshOf_46 ?_
      refine V_topi (bit_set _ (uD_lt k c) _ m1) ?_
      refine V_is6 d_X9_freshOf_47 rfl ?_
      refine V_il7 d_X9_freshOf_49 ?_
      refine V_ki d_X9_freshOf_51 ?_
      refine V_idiv d_X9_freshOf_53 (by decide) ?_
      rw [pk_div (by omega) (by decide) (by decide), ed]
      refine V_is7 d_X9_freshOf_54 rfl ?_
      refine V_icN8 d_X9_freshOf_56 rfl ?_
      refine V_goto d_X9_freshOf_59 ?_
      exact r1
  have tail : ∀ (y5 y6 y7 y8 : Option Value), U G M_X9_freshOf (Ze G (some (.int r)) S1) 100 [some (.ref (gB G + 22)), some (.int vI), some (.int ft), some (.int (nI (cntB (gP f 6 0 6) 46656))), some (.int (oI (fstN (gP f 6 0 6) 46656 0))), y5, y6, y7, y8] [] S1 := by
    intro y5 y6 y7 y8
    rcases hr with ⟨e1, e2⟩ | ⟨i, hi, e1, e2⟩
    · subst e1; subst e2
      rw [hcnt]
      refine V_il1 d_X9_freshOf_100 ?_
      refine V_ki d_X9_freshOf_101 ?_
      refine V_ic_eq d_X9_freshOf_102 (fun h102 => ?_) (fun q => absurd rfl q)
      refine V_il1 d_X9_freshOf_111 ?_
      refine V_ki d_X9_freshOf_112 ?_
      refine V_ic_ne d_X9_freshOf_113 (fun q => absurd rfl q) (fun h113 => ?_)
      refine V_il3 d_X9_freshOf_116 ?_
      refine V_goto d_X9_freshOf_117 ?_
      exact V_iret d_X9_freshOf_121 rfl (by first | rfl | simp_all) rfl
    · subst e1; subst e2
      cases hc : fstN (gP f 6 0 6) 46656 0 with
      | none =>
        have hno := fstN_none _ _ _ hc
        rw [lnR_none f (k := 5) (by decide) (fun c' hc' => hno c' (Nat.zero_le _) (by rw [Nat.zero_add, ← e46]; exact hc'))]
        refine V_il1 d_X9_freshOf_100 ?_
        refine V_ki d_X9_freshOf_101 ?_
        refine V_ic_eq d_X9_freshOf_102 (fun q => (nI_m1 (by omega) q).elim) (fun h102 => ?_)
        refine V_il4 d_X9_freshOf_105 ?_
        refine V_ki d_X9_freshOf_107 ?_
        refine V_ic_ne d_X9_freshOf_108 (fun q => absurd rfl q) (fun h108 => ?_)
        refine V_il1 d_X9_freshOf_111 ?_
        refine V_ki d_X9_freshOf_112 ?_
        refine V_ic_ne d_X9_freshOf_113 (fun h113 => ?_) (fun q => (nI_m1 (by omega) q).elim)
        refine V_ki d_X9_freshOf_120 ?_
        exact V_iret d_X9_freshOf_121 rfl (by first | rfl | simp_all) rfl
      | some c =>
        obtain ⟨c1, c2, c3, c4⟩ := fstN_some _ _ _ _ hc
        rw [Nat.zero_add] at c2
        rw [lnR_some f 6 0 6 c i (by decide) (by decide) hi (by rw [e46]; exact c2) c3 (fun c' hc' => c4 c' (Nat.zero_le _) hc')]
        have down : ∀ (d j m : Nat), j = i + d → j < 6 → m + d = 5 - i → U G M_X9_freshOf (Ze G (some (.int (oI (some (c / 6 ^ (6 - 1 - i) % 6))))) S1) 125 [some (.ref (gB G + 22)), some (.int (nI i)), some (.int ft), some (.int (nI (cntB (gP f 6 0 6) 46656))), some (.int (nI (c / 6 ^ m))), some (.int (nI j)), y6, y7, y8] [] S1 := by
          intro d
          induction d with
          | zero =>
            intro j m hj hj6 hm
            rw [Nat.add_zero] at hj hm
            subst hj
            have hle : c / 6 ^ m ≤ c := Nat.div_le_self _ _
            rw [show 6 - 1 - j = m by omega]
            refine V_il5 d_X9_freshOf_125 ?_
            refine V_il1 d_X9_freshOf_127 ?_
            refine U_ic_leN d_X9_freshOf_128 (by omega) (by omega) (fun h128 => ?_) (fun q => absurd q (by omega))
            refine V_il4 d_X9_freshOf_144 ?_
            refine V_ki d_X9_freshOf_146 ?_
            refine V_irem d_X9_freshOf_148 (by decide) ?_
            rw [pk_rem (by omega) (by decide) (by decide)]
            exact V_iret d_X9_freshOf_149 rfl (by first | rfl | simp_all) rfl
          | succ d ih =>
            intro j m hj hj6 hm
            have hle : c / 6 ^ m ≤ c := Nat.div_le_self _ _
            have ed : c / 6 ^ m / 6 = c / 6 ^ (m + 1) := by rw [Nat.div_div_eq_div_mul, ← Nat.pow_succ]
            obtain ⟨j', rfl⟩ : ∃ j', j = j' + 1 := ⟨j - 1, by omega⟩
            have r1 := ih j' (m + 1) (by omega) (by omega) (by omega)
            refine V_il5 d_X9_freshOf_125 ?_
            refine V_il1 d_X9_freshOf_127 ?_
            refine U_ic_leN d_X9_freshOf_128 (by omega) (by omega) (fun q => absurd q (by omega)) (fun h128 => ?_)
            refine V_il4 d_X9_freshOf_131 ?_
            refine V_ki d_X9_freshOf_133 ?_
            refine V_idiv d_X9_freshOf_135 (by decide) ?_
            rw [pk_div (by omega) (by decide) (by decide), ed]
            refine V_is4 d_X9_freshOf_136 rfl ?_
            refine V_icM5 d_X9_freshOf_138 rfl ?_
            refine V_goto d_X9_freshOf_141 ?_
            exact r1
        have l0 := down (5 - i) 5 0 (by omega) (by omega) (Nat.zero_add _)
        rw [Nat.pow_zero, Nat.div_one] at l0
        refine V_il1 d_X9_freshOf_100 ?_
        refine V_ki d_X9_freshOf_101 ?_
        refine V_ic_eq d_X9_freshOf_102 (fun q => (nI_m1 (by omega) q).elim) (fun h102 => ?_)
        refine V_il4 d_X9_freshOf_105 ?_
        refine V_ki d_X9_freshOf_107 ?_
        refine V_ic_ne d_X9_freshOf_108 (fun h108 => ?_) (fun q => (nI_m1 (by omega) q).elim)
        refine V_ki d_X9_freshOf_122 ?_
        refine V_is5 d_X9_freshOf_123 rfl ?_
        exact l0
  have outer : ∀ (d c : Nat) (y6 y7 y8 : Option Value), c + d = 46656 → U G M_X9_freshOf (Ze G (some (.int r)) S1) 13 [some (.ref (gB G + 22)), some (.int vI), some (.int ft), some (.int (nI (cntB (gP f 6 0 6) c))), some (.int (oI (fstN (gP f 6 0 6) c 0))), some (.int (nI c)), y6, y7, y8] [] S1 := by
    intro d
    induction d with
    | zero =>
      intro c y6 y7 y8 hc
      rw [Nat.add_zero] at hc
      subst hc
      refine V_il5 d_X9_freshOf_13 ?_
      refine V_ldc d_X9_freshOf_15 ?_
      refine U_ic_geN d_X9_freshOf_17 (by omega) (by omega) (fun h17 => ?_) (fun q => absurd q (by omega))
      exact tail _ _ _ _
    | succ d ih =>
      intro c y6 y7 y8 hc
      have fs := fst_sum (gP f 6 0 6) c
      have hs := sumN_le (g := fun s => if gP f 6 0 6 s = true then 1 else 0) (B := 1) (fun i => by show (if gP f 6 0 6 i = true then 1 else 0) ≤ 1; split <;> decide) c
      have es : cntB (gP f 6 0 6) (c + 1) = cntB (gP f 6 0 6) c + (if gP f 6 0 6 c = true then 1 else 0) := rfl
      have ef := fstN_snoc (gP f 6 0 6) c 0
      rw [Nat.zero_add] at ef
      have r1 := fun y6 y7 y8 => ih (c + 1) y6 y7 y8 (by omega)
      have hi := inner (cntB (gP f 6 0 6) c) (oI (fstN (gP f 6 0 6) c 0)) c (by omega) 6 0 rfl
      rw [Nat.pow_zero, Nat.div_one] at hi
      have hn := isNew_eq f c
      have hF := hfr c (by omega)
      have hu := uD_lt 6 c
      have hle : c / 6 ^ 6 ≤ c := Nat.div_le_self _ _
      cases q0 : gP f 6 0 6 c with
      | false =>
        have r2 := r1 (some (.int (nI (uD 6 c)))) (some (.int (nI (c / 6 ^ 6)))) (some (.int (nI 6)))
        have e : (match fstN (gP f 6 0 6) c 0 with | some s => some s | none => if gP f 6 0 6 c = true then some c else none) = fstN (gP f 6 0 6) c 0 := by
          rw [q0]
          cases fstN (gP f 6 0 6) c 0 <;> rfl
        rw [es, ef.trans e, if_neg (by rw [q0]; decide), Nat.add_zero] at r2
        rw [q0] at hn
        by_cases cu : uD 6 c = 63
        · rw [decide_eq_true cu, Bool.true_and] at hn
          rw [← hn] at hF
          refine V_il5 d_X9_freshOf_13 ?_
          refine V_ldc d_X9_freshOf_15 ?_
          refine U_ic_geN d_X9_freshOf_17 (by omega) (by omega) (fun q => absurd q (by omega)) (fun h17 => ?_)
          refine V_ki d_X9_freshOf_20 ?_
          refine V_is6 d_X9_freshOf_21 rfl ?_
          refine V_il5 d_X9_freshOf_23 ?_
          refine V_is7 d_X9_freshOf_25 rfl ?_
          refine V_ki d_X9_freshOf_27 ?_
          refine V_is8 d_X9_freshOf_28 rfl ?_
          refine hi _ ?_
          refine V_il6 d_X9_freshOf_62 ?_
          refine V_ki d_X9_freshOf_64 ?_
          refine U_ic_neN d_X9_freshOf_66 (by omega) (by omega) (fun q => absurd cu q) (fun h66 => ?_)
          refine V_al0 d_X9_freshOf_69 ?_
          refine V_il5 d_X9_freshOf_70 ?_
          refine U_cv1 d_X9_freshOf_72 (hF) rfl rfl rfl ?_
          refine V_eqB d_X9_freshOf_75 (fun h75 => ?_) (fun q => (bTF q rfl).elim)
          refine V_icN5 d_X9_freshOf_94 rfl ?_
          refine V_goto d_X9_freshOf_97 ?_
          exact r2
        · refine V_il5 d_X9_freshOf_13 ?_
          refine V_ldc d_X9_freshOf_15 ?_
          refine U_ic_geN d_X9_freshOf_17 (by omega) (by omega) (fun q => absurd q (by omega)) (fun h17 => ?_)
          refine V_ki d_X9_freshOf_20 ?_
          refine V_is6 d_X9_freshOf_21 rfl ?_
          refine V_il5 d_X9_freshOf_23 ?_
          refine V_is7 d_X9_freshOf_25 rfl ?_
          refine V_ki d_X9_freshOf_27 ?_
          refine V_is8 d_X9_freshOf_28 rfl ?_
          refine hi _ ?_
          refine V_il6 d_X9_freshOf_62 ?_
          refine V_ki d_X9_freshOf_64 ?_
          refine U_ic_neN d_X9_freshOf_66 (by omega) (by omega) (fun h66 => ?_) (fun q => absurd q cu)
          refine V_icN5 d_X9_freshOf_94 rfl ?_
          refine V_goto d_X9_freshOf_97 ?_
          exact r2
      | true =>
        have r2 := r1 (some (.int (nI (uD 6 c)))) (some (.int (nI (c / 6 ^ 6)))) (some (.int (nI 6)))
        rw [es, if_pos q0] at r2
        rw [q0, eq_comm, Bool.and_eq_true, decide_eq_true_eq] at hn
        obtain ⟨cu, cf⟩ := hn
        rw [cf] at hF
        rcases fs with ⟨g1, g2⟩ | ⟨g1, s, g2⟩
        · have e : (match fstN (gP f 6 0 6) c 0 with | some s => some s | none => if gP f 6 0 6 c = true then some c else none) = some c := by
            rw [g2, q0]; rfl
          rw [ef.trans e] at r2
          have g1' : cntB (gP f 6 0 6) c = 0 := g1
          refine V_il5 d_X9_freshOf_13 ?_
          refine V_ldc d_X9_freshOf_15 ?_
          refine U_ic_geN d_X9_freshOf_17 (by omega) (by omega) (fun q => absurd q (by omega)) (fun h17 => ?_)
          refine V_ki d_X9_freshOf_20 ?_
          refine V_is6 d_X9_freshOf_21 rfl ?_
          refine V_il5 d_X9_freshOf_23 ?_
          refine V_is7 d_X9_freshOf_25 rfl ?_
          refine V_ki d_X9_freshOf_27 ?_
          refine V_is8 d_X9_freshOf_28 rfl ?_
          refine hi _ ?_
          refine V_il6 d_X9_freshOf_62 ?_
          refine V_ki d_X9_freshOf_64 ?_
          refine U_ic_neN d_X9_freshOf_66 (by omega) (by omega) (fun q => absurd cu q) (fun h66 => ?_)
          refine V_al0 d_X9_freshOf_69 ?_
          refine V_il5 d_X9_freshOf_70 ?_
          refine U_cv1 d_X9_freshOf_72 (hF) rfl rfl rfl ?_
          refine V_eqB d_X9_freshOf_75 (fun q => (bTF rfl q).elim) (fun h75 => ?_)
          refine V_il3 d_X9_freshOf_78 ?_
          rw [g1'] at r2
          rw [g1']
          refine U_if_neN d_X9_freshOf_79 (by omega) (fun q => absurd rfl q) (fun h79 => ?_)
          refine V_il5 d_X9_freshOf_82 ?_
          refine V_goto d_X9_freshOf_84 ?_
          refine V_is4 d_X9_freshOf_89 rfl ?_
          refine V_icN3 d_X9_freshOf_91 rfl ?_
          refine V_icN5 d_X9_freshOf_94 rfl ?_
          refine V_goto d_X9_freshOf_97 ?_
          exact r2
        · have e : (match fstN (gP f 6 0 6) c 0 with | some s => some s | none => if gP f 6 0 6 c = true then some c else none) = fstN (gP f 6 0 6) c 0 := by
            rw [g2]
          rw [ef.trans e] at r2
          have g1' : 0 < cntB (gP f 6 0 6) c := g1
          have hs' : cntB (gP f 6 0 6) c ≤ 1 * c := hs
          refine V_il5 d_X9_freshOf_13 ?_
          refine V_ldc d_X9_freshOf_15 ?_
          refine U_ic_geN d_X9_freshOf_17 (by omega) (by omega) (fun q => absurd q (by omega)) (fun h17 => ?_)
          refine V_ki d_X9_freshOf_20 ?_
          refine V_is6 d_X9_freshOf_21 rfl ?_
          refine V_il5 d_X9_freshOf_23 ?_
          refine V_is7 d_X9_freshOf_25 rfl ?_
          refine V_ki d_X9_freshOf_27 ?_
          refine V_is8 d_X9_freshOf_28 rfl ?_
          refine hi _ ?_
          refine V_il6 d_X9_freshOf_62 ?_
          refine V_ki d_X9_freshOf_64 ?_
          refine U_ic_neN d_X9_freshOf_66 (by omega) (by omega) (fun q => absurd cu q) (fun h66 => ?_)
          refine V_al0 d_X9_freshOf_69 ?_
          refine V_il5 d_X9_freshOf_70 ?_
          refine U_cv1 d_X9_freshOf_72 (hF) rfl rfl rfl ?_
          refine V_eqB d_X9_freshOf_75 (fun q => (bTF rfl q).elim) (fun h75 => ?_)
          refine V_il3 d_X9_freshOf_78 ?_
          refine U_if_neN d_X9_freshOf_79 (by omega) (fun h79 => ?_) (fun q => absurd q (by omega))
          refine V_il4 d_X9_freshOf_87 ?_
          refine V_is4 d_X9_freshOf_89 rfl ?_
          refine V_icN3 d_X9_freshOf_91 rfl ?_
          refine V_icN5 d_X9_freshOf_94 rfl ?_
          refine V_goto d_X9_freshOf_97 ?_
          exact r2
  refine Rn_of hp_X9_freshOf [some (.ref (gB G + 22)), some (.int vI), none, none, none, none, none, none, none] rfl (Nat.le_of_ble_eq_true rfl) (Nat.le_of_ble_eq_true rfl) ?_
  refine V_al0 d_X9_freshOf_0 ?_
  refine U_cv0 d_X9_freshOf_1 (f1) rfl rfl rfl ?_
  refine V_is2 d_X9_freshOf_4 rfl ?_
  refine V_ki d_X9_freshOf_5 ?_
  refine V_is3 d_X9_freshOf_6 rfl ?_
  refine V_ki d_X9_freshOf_7 ?_
  refine V_is4 d_X9_freshOf_8 rfl ?_
  refine V_ki d_X9_freshOf_10 ?_
  refine V_is5 d_X9_freshOf_11 rfl ?_
  exact outer 46656 0 none none none rfl
