theorem alR_none {z : Nat → Bool} (hz : ∀ m, m < 60 → z m = false) : alR z = (60, 0, 60) := by
  refine lp_keep (N := 60) (alS z) (fun i st => st = (i, 0, i)) (fun i st hi hs => ?_) 60 0 (0, 0, 0) rfl rfl
  subst hs
  dsimp only [alS]
  rw [hz i hi]
  simp
def alQ (a lk i : Nat) : Nat × Nat × Nat := if i ≤ a then (i, 0, i) else if i ≤ a + lk then (a, 0, 0) else (max a (i - a - lk), if a < i - a - lk then a + lk else 0, i - a - lk)
theorem alR_some {z : Nat → Bool} {a lk : Nat} (hlk : 1 ≤ lk) (hz : ∀ m, m < 60 → (z m = true ↔ a ≤ m ∧ m < a + lk)) : alR z = alQ a lk 60 := by
  refine lp_keep (N := 60) (alS z) (fun i st => st = alQ a lk i) (fun i st hi hs => ?_) 60 0 (0, 0, 0) rfl (by simp [alQ])
  subst hs
  have h := hz i hi
  by_cases h1 : i < a
  · have hf : z i = false := by
      cases hzi : z i with
      | false => rfl
      | true => have := h.mp hzi; omega
    dsimp only [alS]
    rw [hf]
    simp only [alQ, if_pos (show i ≤ a by omega), if_pos (show i + 1 ≤ a by omega)]
    simp
  · by_cases h2 : i < a + lk
    · have ht : z i = true := h.mpr ⟨by omega, h2⟩
      dsimp only [alS]
      rw [ht]
      have e : (alQ a lk i).1 = a ∧ (alQ a lk i).2.1 = 0 := by
        unfold alQ
        by_cases g : i ≤ a
        · rw [if_pos g]; exact ⟨by show i = a; omega, rfl⟩
        · rw [if_neg g, if_pos (by omega)]; exact ⟨rfl, rfl⟩
      rw [if_pos rfl, e.1, e.2, if_neg (Nat.not_lt_zero _), if_neg (Nat.not_lt_zero _)]
      unfold alQ
      rw [if_neg (by omega), if_pos (by omega)]
    · have hf : z i = false := by
        cases hzi : z i with
        | false => rfl
        | true => have := h.mp hzi; omega
      dsimp only [alS]
      rw [hf]
      have e : alQ a lk (i + 1) = (max a (i + 1 - a - lk), if a < i + 1 - a - lk then a + lk else 0, i + 1 - a - lk) := by
        unfold alQ
        rw [if_neg (by omega), if_neg (by omega)]
      rw [e]
      have e0 : (alQ a lk i).1 = max a (i - a - lk) ∧ (alQ a lk i).2.1 = (if a < i - a - lk then a + lk else 0) ∧ (alQ a lk i).2.2 = i - a - lk := by
        unfold alQ
        rw [if_neg (by omega)]
        by_cases g : i ≤ a + lk
        · rw [if_pos g]
          refine ⟨?_, ?_, ?_⟩
          · show a = _; omega
          · show 0 = _; rw [if_neg (by omega)]
          · show 0 = _; omega
        · rw [if_neg g]; exact ⟨rfl, rfl, rfl⟩
      rw [if_neg (show ¬ (false = true) from Bool.false_ne_true), e0.1, e0.2.1, e0.2.2]
      refine Prod.ext ?_ (Prod.ext ?_ ?_)
      · show (if max a (i - a - lk) < i - a - lk + 1 then i - a - lk + 1 else max a (i - a - lk)) = max a (i + 1 - a - lk)
        split <;> omega
      · show (if max a (i - a - lk) < i - a - lk + 1 then i + 1 - (i - a - lk + 1) else if a < i - a - lk then a + lk else 0) = if a < i + 1 - a - lk then a + lk else 0
        by_cases g : a < i - a - lk + 1
        · rw [if_pos (by omega), if_pos (by omega)]; omega
        · rw [if_neg (by omega), if_neg (by omega), if_neg (by omega)]
      · show i - a - lk + 1 = i + 1 - a - lk
        omega
theorem alR_eq {z : Nat → Bool} {o : Option Nat} {lk : Nat} (hlk : 1 ≤ lk) (hz : ∀ m, (z m = true ↔ ∃ a, o = some a ∧ a ≤ m ∧ m < a + lk)) : (alR z).1 = alF o lk ∧ (alR z).2.1 = alG o lk := by
  have none_case : (∀ m, m < 60 → z m = false) → (alR z).1 = 60 ∧ (alR z).2.1 = 0 := fun h => by rw [alR_none h]; exact ⟨rfl, rfl⟩
  cases o with
  | none =>
    exact none_case (fun m _ => by
      cases hm : z m with
      | false => rfl
      | true => obtain ⟨a, h, -⟩ := (hz m).mp hm; cases h)
  | some a =>
    by_cases h60 : a < 60
    · rw [alR_some (a := a) hlk (fun m _ => ⟨fun h => by obtain ⟨a', e, h'⟩ := (hz m).mp h; cases e; exact h', fun h => (hz m).mpr ⟨a, rfl, h⟩⟩)]
      unfold alF alG alQ
      simp only [if_pos h60]
      rw [if_neg (by omega)]
      by_cases g : 60 ≤ a + lk
      · rw [if_pos g]
        refine ⟨?_, ?_⟩
        · show a = _; omega
        · show 0 = _; rw [if_pos (by omega)]
      · rw [if_neg g]
        refine ⟨rfl, ?_⟩
        show (if a < 60 - a - lk then a + lk else 0) = _
        by_cases g2 : a < 60 - a - lk
        · rw [if_pos g2, if_neg (by omega)]
        · rw [if_neg g2, if_pos (by omega)]
    · have := none_case (fun m hm => by
        cases hm2 : z m with
        | false => rfl
        | true => obtain ⟨a', e, h1, -⟩ := (hz m).mp hm2; cases e; omega)
      unfold alF alG
      simp only [if_neg h60]
      exact this
theorem c_X9_aloneOf {G : Gm} {S : AS} {w0 wy : Nat → Nat} {lk nd : Nat} {N : List (List Nat)} {n x j : Nat} (hH : HVm S w0 wy lk nd) (hB : HB w0 wy lk nd) (hv : MNv S N) (hN : WFN N) (hn : n < N.length) (hx : x < 6) (hj : j < 2) : Rm G M_X9_aloneOf [.ref (gB G + 22), .int (nI n), .int (nI x), .int (nI j)] S (some (.int (nI (if j = 0 then alF (arO wy lk (ni N n) 0 x) lk else alG (arO wy lk (ni N n) 0 x) lk)))) S := by
  have hw := (ni_wf hN hn).2
  have h := c_X9_aloneOf' (G := G) hH hB hv hN hn hx hj
  obtain ⟨e1, e2⟩ := alR_eq (z := fun m => decide (atL wy lk (ni N n) 0 m = nI x)) (o := arO wy lk (ni N n) 0 x) hB.2.2.1.1 (fun m => by
    rw [decide_eq_true_eq]
    exact atL_iff hB.2.2.1.1 (ni N n) 0 m x hw hx)
  rw [e1, e2] at h
  exact h
/-! the reference's book -/
def stQ (w : List Nat) (p : Nat) (a : Nat) (z : Nat → Bool) : Nat := match w with
  | [] => 0
  | s :: t => (if p = a ∧ z s = true then 1 else 0) + stQ t s a z
def stM (N : List (List Nat)) (a : Nat) (z : Nat → Bool) : Nat → Nat
  | 0 => 0
  | k + 1 => stM N a z k + stQ (ni N k) 6 a z
theorem stQ_one (b : Nat) : ∀ (w : List Nat) (p a : Nat), stQ w p a (fun s => decide (s = b)) = stL w p a b
  | [], _, _ => rfl
  | s :: t, p, a => by
    rw [stQ, stL, stQ_one b t]
    simp
theorem sumN_add (f g : Nat → Nat) : ∀ k, sumN (fun i => f i + g i) k = sumN f k + sumN g k
  | 0 => rfl
  | k + 1 => by rw [sumN, sumN, sumN, sumN_add f g k]; omega
theorem sumN_congr {f g : Nat → Nat} : ∀ {k : Nat}, (∀ i, i < k → f i = g i) → sumN f k = sumN g k
  | 0, _ => rfl
  | k + 1, h => by rw [sumN, sumN, sumN_congr (fun i hi => h i (by omega)), h k (by omega)]
theorem sumN_ind (c : Prop) [Decidable c] (s : Nat) : ∀ k, sumN (fun b => if c ∧ s = b then 1 else 0) k = if c ∧ s < k then 1 else 0
  | 0 => by simp [sumN]
  | k + 1 => by
    rw [sumN, sumN_ind c s k]
    by_cases hc : c
    · by_cases h : s < k
      · simp [hc, h, show ¬ s = k by omega, show s < k + 1 by omega]
      · by_cases h2 : s = k
        · simp [hc, h2]
        · simp [hc, h, h2, show ¬ s < k + 1 by omega]
    · simp [hc]
theorem stQ_all : ∀ (w : List Nat) (p a : Nat), (∀ s ∈ w, s < 6) → stQ w p a (fun _ => true) = sumN (stL w p a) 6
  | [], p, a, _ => by
    show 0 = sumN (fun _ => 0) 6
    rfl
  | s :: t, p, a, h => by
    rw [stQ, stQ_all t s a (fun y hy => h y (List.mem_cons_of_mem _ hy))]
    show _ = sumN (fun b => (if p = a ∧ s = b then 1 else 0) + stL t s a b) 6
    rw [sumN_add, sumN_ind]
    have := h s List.mem_cons_self
    simp [this]
theorem stM_one (N : List (List Nat)) (a b : Nat) : ∀ k, stM N a (fun s => decide (s = b)) k = stN N k a b
  | 0 => rfl
  | k + 1 => by rw [stM, stN, stM_one N a b k, stQ_one]
theorem stM_all {N : List (List Nat)} (hN : WFN N) (a : Nat) : ∀ k, k ≤ N.length → stM N a (fun _ => true) k = sumN (stN N k a) 6
  | 0, _ => rfl
  | k + 1, h => by
    rw [stM, stM_all hN a k (by omega), stQ_all _ _ _ (ni_wf hN (show k < N.length by omega)).2.2]
    show _ = sumN (fun b => stN N k a b + stL (ni N k) 6 a b) 6
    rw [sumN_add]
set_option maxRecDepth 100000 in
theorem c_X9_goneIn' {G : Gm} {S : AS} {N : List (List Nat)} {k a : Nat} {bI' : Int32} {z : Nat → Bool} (hv : MNv S N) (hN : WFN N) (hk : k ≤ N.length) (ha : a < 7) (hz : ∀ s, s < 6 → (z s = true ↔ (bI' = -1 ∨ nI s = bI'))) : Rm G M_X9_goneIn [.ref (gB G + 22), .int (nI k), .int (nI a), .int bI'] S (some (.int (nI (stM N a z k)))) S := by
  have h8 := hN.1
  have inner : ∀ (n : Nat), n < N.length → ∀ (d i p acc : Nat) (y7 : Option Value), i + d = (ni N n).length → p < 7 → (0 < i → ∃ h : i - 1 < (ni N n).length, (ni N n)[i - 1] = p) → (i = 0 → p = 6) →
      ∃ y, ∀ Z, U G M_X9_goneIn Z 98 [some (.ref (gB G + 22)), some (.int (nI k)), some (.int (nI a)), some (.int bI'), some (.int (nI (acc + stQ ((ni N n).drop i) p a z))), some (.int (nI n)), some (.int (nI (ni N n).length)), y] [] S → U G M_X9_goneIn Z 15 [some (.ref (gB G + 22)), some (.int (nI k)), some (.int (nI a)), some (.int bI'), some (.int (nI acc)), some (.int (nI n)), some (.int (nI i)), y7] [] S := by
    intro n hn d
    have h6 := ni_le hN hn
    have hw := (ni_wf hN hn).2
    induction d with
    | zero =>
      intro i p acc y7 hi hp hpi hp0
      rw [Nat.add_zero] at hi
      subst hi
      refine ⟨y7, fun Z kz => ?_⟩
      rw [List.drop_eq_nil_of_le (Nat.le_refl _)] at kz
      refine V_il6 d_X9_goneIn_15 ?_
      refine V_al0 d_X9_goneIn_17 ?_
      refine V_getR d_X9_goneIn_18 rfl rfl (by decide) rfl ?_
      refine V_il5 d_X9_goneIn_21 ?_
      refine V_ialdE d_X9_goneIn_23 rfl (by decide) rfl (show n < 9 by omega) (hv.2.1 n hn) ?_
      refine U_ic_geN d_X9_goneIn_24 (by omega) (by omega) (fun h24 => ?_) (fun q => absurd q (by omega))
      exact kz
    | succ d ih =>
      intro i p acc y7 hi hp hpi hp0
      have hl : i < (ni N n).length := by omega
      have hs : (ni N n)[i] < 6 := hw.2 _ (List.getElem_mem hl)
      have hrow := hv.2.2 n hn i hl
      rw [sh_in hl] at hrow
      have e : stQ ((ni N n).drop i) p a z = (if p = a ∧ z (ni N n)[i] = true then 1 else 0) + stQ ((ni N n).drop (i + 1)) (ni N n)[i] a z := by rw [drop_cons hl]; rfl
      obtain ⟨y, r⟩ := ih (i + 1) (ni N n)[i] (acc + (if p = a ∧ z (ni N n)[i] = true then 1 else 0)) (some (.int (nI p))) (by omega) (by omega) (fun _ => ⟨by omega, rfl⟩) (fun w => by omega)
      rw [Nat.add_assoc, ← e] at r
      refine ⟨y, fun Z kz => ?_⟩
      have r1 := r Z kz
      have body : U G M_X9_goneIn Z 52 [some (.ref (gB G + 22)), some (.int (nI k)), some (.int (nI a)), some (.int bI'), some (.int (nI acc)), some (.int (nI n)), some (.int (nI i)), y7] [.int (nI p)] S := by
        by_cases c1 : p = a
        · by_cases c2 : z (ni N n)[i] = true
          · rw [if_pos ⟨c1, c2⟩] at r1
            by_cases c3 : bI' = -1
            · refine V_is7 d_X9_goneIn_52 rfl ?_
              refine V_il4 d_X9_goneIn_54 ?_
              refine V_il7 d_X9_goneIn_56 ?_
              refine V_il2 d_X9_goneIn_58 ?_
              refine U_ic_neN d_X9_goneIn_59 (by omega) (by omega) (fun q => absurd c1 q) (fun h59 => ?_)
              refine V_il3 d_X9_goneIn_62 ?_
              refine V_ki d_X9_goneIn_63 ?_
              refine V_ic_eq d_X9_goneIn_64 (fun h64 => ?_) (fun q => absurd c3 q)
              refine V_ki d_X9_goneIn_84 ?_
              refine V_goto d_X9_goneIn_85 ?_
              first | with_reducible refine V_iaddN d_X9_goneIn_89 ?_ | refine V_iadd d_X9_goneIn_89 ?_
              refine V_is4 d_X9_goneIn_90 rfl ?_
              refine V_icN6 d_X9_goneIn_92 rfl ?_
              refine V_goto d_X9_goneIn_95 ?_
              exact r1
            · have c4 : nI (ni N n)[i] = bI' := ((hz _ hs).mp c2).resolve_left c3
              refine V_is7 d_X9_goneIn_52 rfl ?_
              refine V_il4 d_X9_goneIn_54 ?_
              refine V_il7 d_X9_goneIn_56 ?_
              refine V_il2 d_X9_goneIn_58 ?_
              refine U_ic_neN d_X9_goneIn_59 (by omega) (by omega) (fun q => absurd c1 q) (fun h59 => ?_)
              refine V_il3 d_X9_goneIn_62 ?_
              refine V_ki d_X9_goneIn_63 ?_
              refine V_ic_eq d_X9_goneIn_64 (fun q => absurd q c3) (fun h64 => ?_)
              refine V_al0 d_X9_goneIn_67 ?_
              refine V_getR d_X9_goneIn_68 rfl rfl (by decide) rfl ?_
              refine V_ki d_X9_goneIn_71 ?_
              refine V_il5 d_X9_goneIn_73 ?_
              first | with_reducible refine V_imulN d_X9_goneIn_75 ?_ | refine V_imul d_X9_goneIn_75 ?_
              refine V_il6 d_X9_goneIn_76 ?_
              first | with_reducible refine V_iaddN d_X9_goneIn_78 ?_ | refine V_iadd d_X9_goneIn_78 ?_
              refine V_ialdE d_X9_goneIn_79 rfl (by decide) rfl (show 6 * n + i < 54 by omega) hrow ?_
              refine V_il3 d_X9_goneIn_80 ?_
              refine V_ic_ne d_X9_goneIn_81 (fun q => absurd c4 q) (fun h81 => ?_)
              refine V_ki d_X9_goneIn_84 ?_
              refine V_goto d_X9_goneIn_85 ?_
              first | with_reducible refine V_iaddN d_X9_goneIn_89 ?_ | refine V_iadd d_X9_goneIn_89 ?_
              refine V_is4 d_X9_goneIn_90 rfl ?_
              refine V_icN6 d_X9_goneIn_92 rfl ?_
              refine V_goto d_X9_goneIn_95 ?_
              exact r1
          · rw [if_neg (fun w => c2 w.2)] at r1
            have c3 : ¬ (bI' = -1 ∨ nI (ni N n)[i] = bI') := fun q => c2 ((hz _ hs).mpr q)
            refine V_is7 d_X9_goneIn_52 rfl ?_
            refine V_il4 d_X9_goneIn_54 ?_
            refine V_il7 d_X9_goneIn_56 ?_
            refine V_il2 d_X9_goneIn_58 ?_
            refine U_ic_neN d_X9_goneIn_59 (by omega) (by omega) (fun q => absurd c1 q) (fun h59 => ?_)
            refine V_il3 d_X9_goneIn_62 ?_
            refine V_ki d_X9_goneIn_63 ?_
            refine V_ic_eq d_X9_goneIn_64 (fun q => absurd (Or.inl q) c3) (fun h64 => ?_)
            refine V_al0 d_X9_goneIn_67 ?_
            refine V_getR d_X9_goneIn_68 rfl rfl (by decide) rfl ?_
            refine V_ki d_X9_goneIn_71 ?_
            refine V_il5 d_X9_goneIn_73 ?_
            first | with_reducible refine V_imulN d_X9_goneIn_75 ?_ | refine V_imul d_X9_goneIn_75 ?_
            refine V_il6 d_X9_goneIn_76 ?_
            first | with_reducible refine V_iaddN d_X9_goneIn_78 ?_ | refine V_iadd d_X9_goneIn_78 ?_
            refine V_ialdE d_X9_goneIn_79 rfl (by decide) rfl (show 6 * n + i < 54 by omega) hrow ?_
            refine V_il3 d_X9_goneIn_80 ?_
            refine V_ic_ne d_X9_goneIn_81 (fun h81 => ?_) (fun q => absurd (Or.inr q) c3)
            refine V_ki d_X9_goneIn_88 ?_
            first | with_reducible refine V_iaddN d_X9_goneIn_89 ?_ | refine V_iadd d_X9_goneIn_89 ?_
            refine V_is4 d_X9_goneIn_90 rfl ?_
            refine V_icN6 d_X9_goneIn_92 rfl ?_
            refine V_goto d_X9_goneIn_95 ?_
            exact r1
        · rw [if_neg (fun w => c1 w.1)] at r1
          refine V_is7 d_X9_goneIn_52 rfl ?_
          refine V_il4 d_X9_goneIn_54 ?_
          refine V_il7 d_X9_goneIn_56 ?_
          refine V_il2 d_X9_goneIn_58 ?_
          refine U_ic_neN d_X9_goneIn_59 (by omega) (by omega) (fun h59 => ?_) (fun q => absurd q c1)
          refine V_ki d_X9_goneIn_88 ?_
          first | with_reducible refine V_iaddN d_X9_goneIn_89 ?_ | refine V_iadd d_X9_goneIn_89 ?_
          refine V_is4 d_X9_goneIn_90 rfl ?_
          refine V_icN6 d_X9_goneIn_92 rfl ?_
          refine V_goto d_X9_goneIn_95 ?_
          exact r1
      rcases Nat.eq_zero_or_pos i with g | g
      · have e6 := hp0 g
        subst e6
        refine V_il6 d_X9_goneIn_15 ?_
        refine V_al0 d_X9_goneIn_17 ?_
        refine V_getR d_X9_goneIn_18 rfl rfl (by decide) rfl ?_
        refine V_il5 d_X9_goneIn_21 ?_
        refine V_ialdE d_X9_goneIn_23 rfl (by decide) rfl (show n < 9 by omega) (hv.2.1 n hn) ?_
        refine U_ic_geN d_X9_goneIn_24 (by omega) (by omega) (fun q => absurd q (by omega)) (fun h24 => ?_)
        refine V_il6 d_X9_goneIn_27 ?_
        refine U_if_neN d_X9_goneIn_29 (by omega) (fun q => absurd g q) (fun h29 => ?_)
        refine V_ki d_X9_goneIn_32 ?_
        refine V_goto d_X9_goneIn_34 ?_
        exact body
      · obtain ⟨k1, k2⟩ := hpi g
        have hrow2 := hv.2.2 n hn (i - 1) k1
        rw [sh_in k1, k2] at hrow2
        refine V_il6 d_X9_goneIn_15 ?_
        refine V_al0 d_X9_goneIn_17 ?_
        refine V_getR d_X9_goneIn_18 rfl rfl (by decide) rfl ?_
        refine V_il5 d_X9_goneIn_21 ?_
        refine V_ialdE d_X9_goneIn_23 rfl (by decide) rfl (show n < 9 by omega) (hv.2.1 n hn) ?_
        refine U_ic_geN d_X9_goneIn_24 (by omega) (by omega) (fun q => absurd q (by omega)) (fun h24 => ?_)
        refine V_il6 d_X9_goneIn_27 ?_
        refine U_if_neN d_X9_goneIn_29 (by omega) (fun h29 => ?_) (fun q => absurd q (by omega))
        refine V_al0 d_X9_goneIn_37 ?_
        refine V_getR d_X9_goneIn_38 rfl rfl (by decide) rfl ?_
        refine V_ki d_X9_goneIn_41 ?_
        refine V_il5 d_X9_goneIn_43 ?_
        first | with_reducible refine V_imulN d_X9_goneIn_45 ?_ | refine V_imul d_X9_goneIn_45 ?_
        refine V_il6 d_X9_goneIn_46 ?_
        first | with_reducible refine V_iaddN d_X9_goneIn_48 ?_ | refine V_iadd d_X9_goneIn_48 ?_
        refine V_ki d_X9_goneIn_49 ?_
        refine V_isubN d_X9_goneIn_50 (by omega) ?_
        refine V_ialdE d_X9_goneIn_51 rfl (by decide) (show _ = nI (6 * n + (i - 1)) by rw [Nat.add_sub_assoc g]) (show 6 * n + (i - 1) < 54 by omega) hrow2 ?_
        exact body
  have outer : ∀ (d n : Nat) (y6 y7 : Option Value), n + d = k → U G M_X9_goneIn (Ze G (some (.int (nI (stM N a z k)))) S) 6 [some (.ref (gB G + 22)), some (.int (nI k)), some (.int (nI a)), some (.int bI'), some (.int (nI (stM N a z n))), some (.int (nI n)), y6, y7] [] S := by
    intro d
    induction d with
    | zero =>
      intro n y6 y7 hn
      rw [Nat.add_zero] at hn
      subst hn
      refine V_il5 d_X9_goneIn_6 ?_
      refine V_il1 d_X9_goneIn_8 ?_
      refine U_ic_geN d_X9_goneIn_9 (by omega) (by omega) (fun h9 => ?_) (fun q => absurd q (by omega))
      refine V_il4 d_X9_goneIn_104 ?_
      exact V_iret d_X9_goneIn_106 rfl (by first | rfl | simp_all) rfl
    | succ d ih =>
      intro n y6 y7 hn
      obtain ⟨y, r⟩ := inner n (by omega) _ 0 6 (stM N a z n) y7 (Nat.zero_add _) (by omega) (fun w => absurd w (Nat.lt_irrefl 0)) (fun _ => rfl)
      rw [List.drop_zero] at r
      have r2 := ih (n + 1) (some (.int (nI (ni N n).length))) y (by omega)
      refine V_il5 d_X9_goneIn_6 ?_
      refine V_il1 d_X9_goneIn_8 ?_
      refine U_ic_geN d_X9_goneIn_9 (by omega) (by omega) (fun q => absurd q (by omega)) (fun h9 => ?_)
      refine V_ki d_X9_goneIn_12 ?_
      refine V_is6 d_X9_goneIn_13 rfl ?_
      refine r _ ?_
      refine V_icN5 d_X9_goneIn_98 rfl ?_
      refine V_goto d_X9_goneIn_101 ?_
      exact r2
  refine Rn_of hp_X9_goneIn [some (.ref (gB G + 22)), some (.int (nI k)), some (.int (nI a)), some (.int bI'), none, none, none, none] rfl (Nat.le_of_ble_eq_true rfl) (Nat.le_of_ble_eq_true rfl) ?_
  refine V_ki d_X9_goneIn_0 ?_
  refine V_is4 d_X9_goneIn_1 rfl ?_
  refine V_ki d_X9_goneIn_3 ?_
  refine V_is5 d_X9_goneIn_4 rfl ?_
  exact outer k 0 none none (Nat.zero_add _)
theorem c_X9_goneIn {G : Gm} {S : AS} {N : List (List Nat)} {k a b : Nat} (hv : MNv S N) (hN : WFN N) (hk : k ≤ N.length) (ha : a < 7) (hb : b < 6) : Rm G M_X9_goneIn [.ref (gB G + 22), .int (nI k), .int (nI a), .int (nI b)] S (some (.int (nI (stN N k a b)))) S := by
  have h := c_X9_goneIn' (G := G) (bI' := nI b) (z := fun s => decide (s = b)) hv hN hk ha (fun s hs => by
    rw [decide_eq_true_eq]
    exact ⟨fun e => Or.inr (by rw [e]), fun e => e.elim (fun q => absurd q (nI_m1 (by omega))) (fun q => nI_inj (by omega) (by omega) q)⟩)
  rw [stM_one] at h
  exact h
theorem c_X9_goneIn_all {G : Gm} {S : AS} {N : List (List Nat)} {k a : Nat} (hv : MNv S N) (hN : WFN N) (hk : k ≤ N.length) (ha : a < 7) : Rm G M_X9_goneIn [.ref (gB G + 22), .int (nI k), .int (nI a), .int (-1)] S (some (.int (nI (sumN (stN N k a) 6)))) S := by
  have h := c_X9_goneIn' (G := G) (bI' := -1) (z := fun _ => true) hv hN hk ha (fun s hs => ⟨fun _ => Or.inl rfl, fun _ => rfl⟩)
  rw [stM_all hN a k hk] at h
  exact h
set_option maxRecDepth 100000 in
theorem c_X9_nextOf {G : Gm} {S : AS} {N : List (List Nat)} {k p b j : Nat} (hv : MNv S N) (hN : WFN N) (hk : k ≤ N.length) (hp : p < 7) (hb : b < 6) (hj : j < 1000) : Rm G M_X9_nextOf [.ref (gB G + 22), .int (nI k), .int (pv p), .int (nI b), .int (nI j)] S (some (.long (lN (fr (ab (stN N k) p b) (be (stN N k) p) j)))) S := by
  have h8 := hN.1
  have hf : ∀ a b, stN N k a b ≤ 48 := fun a b => stN_48 hN a b k hk
  have q1 := ab_le hf p b
  have q2 := be_le hf p
  have q3 := be_pos (stN N k) p
  have hfp := hf p b
  have hsm := sumN_le (hf p) 6
  have hlo := c_X9_lowest (G := G) (S := S) (a := ab (stN N k) p b) (b := be (stN N k) p) (j := j) (by omega) (by omega) q3 (by omega)
  have hg := c_X9_goneIn (G := G) hv hN hk hp hb
  have hga := c_X9_goneIn_all (G := G) hv hN hk hp
  have part2 : ∀ x : Nat, x = ab (stN N k) p b → ∀ (y2 : Value), y2 = .int (pv p) → U G M_X9_nextOf (Ze G (some (.long (lN (fr (ab (stN N k) p b) (be (stN N k) p) j)))) S) 33 [some (.ref (gB G + 22)), some (.int (nI k)), some y2, some (.int (nI b)), some (.int (nI j)), some (.int (nI p))] [.long (lN x)] S := by
    intro x hx y2 hy
    by_cases h6 : p = 6
    · have e : sumN (stN N k p) 6 + 6 = be (stN N k) p := by unfold be; rw [if_pos h6]; omega
      refine V_al0 d_X9_nextOf_33 ?_
      refine V_il1 d_X9_nextOf_34 ?_
      refine V_il5 d_X9_nextOf_35 ?_
      refine V_ki d_X9_nextOf_37 ?_
      refine U_cv3 d_X9_nextOf_38 (hga) rfl rfl rfl ?_
      refine V_i2lN d_X9_nextOf_41 (by omega) ?_
      refine V_il5 d_X9_nextOf_42 ?_
      refine V_ki d_X9_nextOf_44 ?_
      refine U_ic_neN d_X9_nextOf_46 (by omega) (by omega) (fun q => absurd h6 q) (fun h46 => ?_)
      refine V_ldc2 d_X9_nextOf_49 ?_
      refine V_goto d_X9_nextOf_52 ?_
      first | with_reducible refine V_laddN d_X9_nextOf_58 ?_ | refine V_ladd d_X9_nextOf_58 ?_
      rw [e, hx]
      refine V_il4 d_X9_nextOf_59 ?_
      refine U_cs3 d_X9_nextOf_61 (hlo) rfl ?_
      exact V_lret d_X9_nextOf_64 rfl (by first | rfl | simp_all) rfl
    · have e : sumN (stN N k p) 6 + 5 = be (stN N k) p := by unfold be; rw [if_neg h6]; omega
      refine V_al0 d_X9_nextOf_33 ?_
      refine V_il1 d_X9_nextOf_34 ?_
      refine V_il5 d_X9_nextOf_35 ?_
      refine V_ki d_X9_nextOf_37 ?_
      refine U_cv3 d_X9_nextOf_38 (hga) rfl rfl rfl ?_
      refine V_i2lN d_X9_nextOf_41 (by omega) ?_
      refine V_il5 d_X9_nextOf_42 ?_
      refine V_ki d_X9_nextOf_44 ?_
      refine U_ic_neN d_X9_nextOf_46 (by omega) (by omega) (fun h46 => ?_) (fun q => absurd q h6)
      refine V_ldc2 d_X9_nextOf_55 ?_
      first | with_reducible refine V_laddN d_X9_nextOf_58 ?_ | refine V_ladd d_X9_nextOf_58 ?_
      rw [e, hx]
      refine V_il4 d_X9_nextOf_59 ?_
      refine U_cs3 d_X9_nextOf_61 (hlo) rfl ?_
      exact V_lret d_X9_nextOf_64 rfl (by first | rfl | simp_all) rfl
  have part1 : U G M_X9_nextOf (Ze G (some (.long (lN (fr (ab (stN N k) p b) (be (stN N k) p) j)))) S) 13 [some (.ref (gB G + 22)), some (.int (nI k)), some (.int (pv p)), some (.int (nI b)), some (.int (nI j)), some (.int (nI p))] [] S := by
    by_cases e : p = b
    · have e1 : pv p = nI b := by rw [pv, if_neg (by omega), e]
      have e2 : ab (stN N k) p b = 0 := by rw [ab, if_pos e]
      refine V_il2 d_X9_nextOf_13 ?_
      refine V_il3 d_X9_nextOf_14 ?_
      refine V_ic_ne d_X9_nextOf_15 (fun q => absurd e1 q) (fun h15 => ?_)
      refine V_lconst (v := lN 0) d_X9_nextOf_18 rfl ?_
      refine V_goto d_X9_nextOf_19 ?_
      exact part2 0 e2.symm _ rfl
    · have e1 : ¬ pv p = nI b := by
        intro q
        by_cases h6 : p = 6
        · rw [pv, if_pos h6] at q
          exact nI_m1 (by omega) q.symm
        · rw [pv, if_neg h6] at q
          exact e (nI_inj (by omega) (by omega) q)
      have e2 : ab (stN N k) p b = stN N k p b + 1 := by rw [ab, if_neg e]
      refine V_il2 d_X9_nextOf_13 ?_
      refine V_il3 d_X9_nextOf_14 ?_
      refine V_ic_ne d_X9_nextOf_15 (fun h15 => ?_) (fun q => (e1 q).elim)
      refine V_al0 d_X9_nextOf_22 ?_
      refine V_il1 d_X9_nextOf_23 ?_
      refine V_il5 d_X9_nextOf_24 ?_
      refine V_il3 d_X9_nextOf_26 ?_
      refine U_cv3 d_X9_nextOf_27 (hg) rfl rfl rfl ?_
      refine V_i2lN d_X9_nextOf_30 (by omega) ?_
      refine V_lconst (v := lN 1) d_X9_nextOf_31 rfl ?_
      first | with_reducible refine V_laddN d_X9_nextOf_32 ?_ | refine V_ladd d_X9_nextOf_32 ?_
      exact part2 _ e2.symm _ rfl
  refine Rn_of hp_X9_nextOf [some (.ref (gB G + 22)), some (.int (nI k)), some (.int (pv p)), some (.int (nI b)), some (.int (nI j)), none] rfl (Nat.le_of_ble_eq_true rfl) (Nat.le_of_ble_eq_true rfl) ?_
  by_cases h6 : p = 6
  · subst h6
    refine V_il2 d_X9_nextOf_0 ?_
    refine V_ki d_X9_nextOf_1 ?_
    refine V_ic_ne d_X9_nextOf_2 (fun q => absurd rfl q) (fun h2 => ?_)
    refine V_ki d_X9_nextOf_5 ?_
    refine V_goto d_X9_nextOf_7 ?_
    refine V_is5 d_X9_nextOf_11 rfl ?_
    exact part1
  · have e : pv p = nI p := if_neg h6
    rw [e] at part1 ⊢
    refine V_il2 d_X9_nextOf_0 ?_
    refine V_ki d_X9_nextOf_1 ?_
    refine V_ic_ne d_X9_nextOf_2 (fun h2 => ?_) (fun q => (nI_m1 (by omega) q).elim)
    refine V_il2 d_X9_nextOf_10 ?_
    refine V_is5 d_X9_nextOf_11 rfl ?_
    exact part1
