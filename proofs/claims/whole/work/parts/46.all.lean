/-! every call: both sides answer alike -/
theorem o_night {G : Gm} {a i : Int32} : OPI G M_X8_night M_X9_night [.int a, .int i] := OPI_of (fun hx hB => q_night hx hB)
theorem o_at {G : Gm} {a i : Int32} : OPI G M_X8_at M_X9_at [.int a, .int i] := OPI_of (fun hx hB => q_at hx hB)
theorem o_when {G : Gm} {a i : Int32} : OPI G M_X8_when M_X9_when [.int a, .int i] := OPI_of (fun hx hB => q_when hx hB)
theorem o_alone {G : Gm} {a i j : Int32} : OPI G M_X8_alone M_X9_alone [.int a, .int i, .int j] := OPI_of (fun hx hB => q_alone hx hB)
theorem o_steals {G : Gm} {a i m : Int32} : OPI G M_X8_steals M_X9_steals [.int a, .int i, .int m] := OPI_of (fun hx hB => q_steals hx hB)
theorem o_fresh {G : Gm} {u : Int32} : OPI G M_X8_fresh M_X9_fresh [.int u] := OPI_of (fun hx hB => q_fresh hx hB)
theorem o_breaks {G : Gm} {a c p j : Int32} : OPI G M_X8_breaks M_X9_breaks [.int a, .int c, .int p, .int j] := OPI_of (fun hx hB => q_breaks hx hB)
theorem o_seen {G : Gm} {a c p i j : Int32} : OPI G M_X8_seen M_X9_seen [.int a, .int c, .int p, .int i, .int j] := OPI_of (fun hx hB => q_seen hx hB)
theorem o_lamp {G : Gm} {a c p i : Int32} : OPI G M_X8_lamp M_X9_lamp [.int a, .int c, .int p, .int i] := OPI_of (fun hx hB => q_lamp hx hB)
theorem o_learn {G : Gm} {a c u j : Int32} : OPI G M_X8_learn M_X9_learn [.int a, .int c, .int u, .int j] := OPI_of (fun hx hB => q_learn hx hB)
theorem o_seeds {G : Gm} {j : Int32} : OPI G M_X8_seeds M_X9_seeds [.int j] := OPI_of (fun hx hB => q_seeds hx hB)
theorem o_next {G : Gm} {k a i j : Int32} : OPL G M_X8_next M_X9_next [.int k, .int a, .int i, .int j] := OPL_of (fun hx hB => q_next hx hB)
theorem o_likely {G : Gm} {a j : Int32} : OPL G M_X8_likely M_X9_likely [.int a, .int j] := OPL_of (fun hx hB => q_likely hx hB)
theorem o_least {G : Gm} {a c j : Int32} : OPL G M_X8_least M_X9_least [.int a, .int c, .int j] := OPL_of (fun hx hB => q_least hx hB)
theorem o_dice {G : Gm} {a p u : Int32} : OPL G M_X8_dice M_X9_dice [.int a, .int p, .int u] := OPL_of (fun hx hB => q_dice hx hB)
theorem o_fault {G : Gm} : OPI G M_X8_fault M_X9_fault [] := OPI_of (fun hx hB => ⟨_, g8_fault hx hB, g9_fault hx hB⟩)
theorem o_digest {G : Gm} : OPL G M_X8_digest M_X9_digest [] := OPL_of (fun hx hB => by
  obtain ⟨vb, hvb⟩ := Classical.axiomOfChoice (fun j : Nat => q_breaks (G := G) (a := nI 0) (c := nI 1) (p := nI 6) (j := nI j) hx hB)
  obtain ⟨vs, hvs⟩ := Classical.axiomOfChoice (fun j : Nat => q_seen (G := G) (a := nI 0) (c := nI 1) (p := nI 6) (i := nI 0) (j := nI j) hx hB)
  obtain ⟨vl, hvl⟩ := Classical.axiomOfChoice (fun j : Nat => q_least (G := G) (a := nI 0) (c := nI 1) (j := nI j) hx hB)
  obtain ⟨va, hva⟩ := q_lamp (G := G) (a := nI 0) (c := nI 1) (p := nI 6) (i := nI 2) hx hB
  obtain ⟨vn, hvn⟩ := Classical.axiomOfChoice (fun j : Nat => q_learn (G := G) (a := nI 0) (c := nI 1) (u := nI 20) (j := nI j) hx hB)
  exact ⟨_, g8_digest hx hB (fun j => (hvb j).1) (fun j => (hvs j).1) (fun j => (hvl j).1) hva.1 (fun j => (hvn j).1), g9_digest hx hB (fun j => (hvb j).2) (fun j => (hvs j).2) (fun j => (hvl j).2) hva.2 (fun j => (hvn j).2)⟩)
set_option maxRecDepth 100000 in
theorem o_count {G : Gm} {a : Int32} : OPI G M_X8_count M_X9_count [.int a] := by
  intro S hS
  cases c0 : inR a (nI 0) (nI 8) with
  | false =>
    have ho : a.toInt < 0 ∨ (8 : Int) < a.toInt := by
      by_cases q1 : a.toInt < 0
      · exact Or.inl q1
      · by_cases q2 : (8 : Int) < a.toInt
        · exact Or.inr q2
        · exfalso
          have : inR a (nI 0) (nI 8) = true := by
            simp only [inR, Bool.and_eq_true, decide_eq_true_eq]
            refine ⟨Int32.le_iff_toInt_le.mpr ?_, Int32.le_iff_toInt_le.mpr ?_⟩
            · rw [nI_toInt (by decide)]; omega
            · rw [nI_toInt (by decide)]; omega
          rw [this] at c0
          cases c0
    refine ⟨-2, S, S, ?_, ?_, hS⟩
    · refine Rn_of hp_X8_count [some (.ref (gB G + 0)), some (.int a)] rfl (Nat.le_of_ble_eq_true rfl) (Nat.le_of_ble_eq_true rfl) ?_
      refine V_il1 d_X8_count_0 ?_
      refine V_tabO d_X8_count_1 ho ?_
      refine V_ki d_X8_count_124 ?_
      exact V_iret d_X8_count_126 rfl (by first | rfl | simp_all) rfl
    · refine Rn_of hp_X9_count [some (.ref (gB G + 22)), some (.int a)] rfl (Nat.le_of_ble_eq_true rfl) (Nat.le_of_ble_eq_true rfl) ?_
      refine V_il1 d_X9_count_0 ?_
      refine V_tabO d_X9_count_1 ho ?_
      refine V_ki d_X9_count_78 ?_
      exact V_iret d_X9_count_80 rfl (by first | rfl | simp_all) rfl
  | true =>
    obtain ⟨k, hk, rfl⟩ := inR_ex (by decide) c0
    obtain ⟨b, sz, ft, N, w, wy, lk, nd, hx, hB, h⟩ := hS
    rcases Nat.lt_or_ge k 8 with g | g
    · obtain ⟨S1, r1, a1⟩ := g8_count (G := G) (j := k) hx hB g S h
      obtain ⟨S2, r2, a2⟩ := g9_count (G := G) (j := k) hx hB g S1 (h.ag a1)
      exact ⟨_, S1, S2, r1, r2, b, sz, ft, N, w, wy, lk, nd, hx, hB, (h.ag a1).ag a2⟩
    · have e : k = 8 := by omega
      subst e
      have hfd : S.1 17 4 = S.1 22 17 := h.2.2.2.2.2.2
      refine ⟨S.1 17 4, S, S, ?_, ?_, ⟨b, sz, ft, N, w, wy, lk, nd, hx, hB, h⟩⟩
      · refine Rn_of hp_X8_count [some (.ref (gB G + 0)), some (.int (nI 8))] rfl (Nat.le_of_ble_eq_true rfl) (Nat.le_of_ble_eq_true rfl) ?_
        refine V_il1 d_X8_count_0 ?_
        refine V_tabI (off := 115) (tgt := 116) d_X8_count_1 (by decide) (by decide) (by decide) (by decide) ?_
        refine V_al0 d_X8_count_116 ?_
        refine V_getR d_X8_count_117 rfl rfl (by decide) rfl ?_
        refine V_getI d_X8_count_120 rfl rfl (by decide) ?_
        exact V_iret d_X8_count_123 rfl (by first | rfl | simp_all) rfl
      · refine Rn_of hp_X9_count [some (.ref (gB G + 22)), some (.int (nI 8))] rfl (Nat.le_of_ble_eq_true rfl) (Nat.le_of_ble_eq_true rfl) ?_
        refine V_il1 d_X9_count_0 ?_
        refine V_tabI (off := 72) (tgt := 73) d_X9_count_1 (by decide) (by decide) (by decide) (by decide) ?_
        refine V_al0 d_X9_count_73 ?_
        refine V_getIe d_X9_count_74 rfl rfl (by decide) (hfd.symm) ?_
        exact V_iret d_X9_count_77 rfl (by first | rfl | simp_all) rfl
