/-! the first world -/
theorem rel_0 : RelW w89 := by
  refine ⟨fun _ => 0, 0, -1, [], fun _ => 10, fun _ => 3, 2, 6, ⟨by omega, fun i hi => absurd hi (Nat.not_lt_zero _), Or.inr ⟨([], []), rfl, Or.inl ⟨rfl, rfl, rfl⟩⟩⟩, ⟨fun _ => (show 10 ≤ 99 by decide), fun _ => (show 3 ≤ 9 by decide), by decide, by decide⟩, ⟨rfl, fun i hi => absurd hi (Nat.not_lt_zero _)⟩, ⟨rfl, rfl, fun n hn => absurd hn (Nat.not_lt_zero _), fun n hn => absurd hn (Nat.not_lt_zero _)⟩, ⟨rfl, fun i hi => absurd hi (Nat.not_lt_zero _)⟩, ⟨fun i hi => ?_, fun i hi => ?_, rfl, rfl⟩, ⟨fun i hi => ?_, fun i hi => ?_, rfl, rfl⟩, fun s hs => Or.inl ⟨?_, rfl⟩, rfl⟩
  · show (if 2 = 2 ∧ i < 6 then nI 10 else _) = nI 10
    rw [if_pos ⟨rfl, hi⟩]
  · show (if 3 = 3 ∧ i < 36 then nI 3 else _) = nI 3
    rw [if_pos ⟨rfl, hi⟩]
  · show (if 26 = 26 ∧ i < 6 then nI 10 else _) = nI 10
    rw [if_pos ⟨rfl, hi⟩]
  · show (if 27 = 27 ∧ i < 36 then nI 3 else _) = nI 3
    rw [if_pos ⟨rfl, hi⟩]
  · show (if 18 = 18 ∧ s < 4 then (-1 : Int32) else _) = -1
    rw [if_pos ⟨rfl, hs⟩]
theorem nfl_18 : ∀ c, nfl c ≤ 18 := fun c => by
  unfold nfl
  split <;> decide
theorem ent_rho {G : Gm} {ρ ρ' : Rho} {S : AS} {k : Nat} (h : ∀ j, j < 18 → ρ k j = ρ' k j) : ent G ρ S k = ent G ρ' S k := by
  unfold ent
  split
  · rename_i c hc
    have e : (List.range (nfl c)).map (fvl (gB G) ρ S k c) = (List.range (nfl c)).map (fvl (gB G) ρ' S k c) := by
      refine List.map_congr_left (fun j hj => ?_)
      have hj' : j < 18 := Nat.lt_of_lt_of_le (List.mem_range.mp hj) (nfl_18 c)
      simp only [fvl, h j hj']
    rw [e]
  · rfl
theorem Pic_rho {G : Gm} {n : Nat} {ρ ρ' : Rho} {S : AS} {H : Heap} (h : ∀ k, k < n → ∀ j, j < 18 → ρ k j = ρ' k j) (hP : Pic G n ρ' S H) : Pic G n ρ S H := ⟨hP.1, fun k hk => by rw [ent_rho (h k hk)]; exact hP.2 k hk⟩
theorem V_rho {G : Gm} {M : MT} {n0 nE : Nat} {Z : ZT} {n : Nat} {ρ ρ' : Rho} {pc : Nat} {L : List (Option Value)} {st : List Value} {S : AS} (h : ∀ k, k < n → ∀ j, j < 18 → ρ k j = ρ' k j) (kk : V G M n0 nE Z n ρ' pc L st S) : V G M n0 nE Z n ρ pc L st S := fun p e s m args below meth c E H locs ls hP hS hl => kk p e s m args below meth c E H locs ls (Pic_rho (fun k hk j hj => (h k hk j hj).symm) hP) hS hl
