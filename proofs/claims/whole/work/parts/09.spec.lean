/-! the nights of a text, as lists of sheds -/
abbrev PSt : Type := List (List Nat) × List Nat
def pstep (q : PSt) (c : Nat) : Option PSt :=
  if c = 59 ∧ q.2 ≠ [] then some (q.1 ++ [q.2], [])
  else if q.1.length < 8 ∧ 48 ≤ c ∧ c < 54 ∧ (c - 48) ∉ q.2 then some (q.1, q.2 ++ [c - 48])
  else none
def pfold (b : Nat → Nat) : Nat → Option PSt
  | 0 => some ([], [])
  | i + 1 => match pfold b i with
    | some q => pstep q (b i)
    | none => none
def WFc (w : List Nat) : Prop := w.Nodup ∧ ∀ s ∈ w, s < 6
def WFn (w : List Nat) : Prop := w ≠ [] ∧ WFc w
def WFq (q : PSt) : Prop := q.1.length ≤ 8 ∧ (∀ w ∈ q.1, WFn w) ∧ WFc q.2 ∧ (q.1.length = 8 → q.2 = [])
theorem WFc_len {w : List Nat} (h : WFc w) : w.length ≤ 6 := by
  have := List.Nodup.length_le_of_subset (l₂ := List.range 6) h.1 (fun s hs => List.mem_range.mpr (h.2 s hs))
  simpa using this
theorem WFc_app {w : List Nat} {s : Nat} (h : WFc w) (hs : s < 6) (hn : s ∉ w) : WFc (w ++ [s]) := by
  refine ⟨List.nodup_append.mpr ⟨h.1, by simp, fun a ha b hb => ?_⟩, fun t ht => ?_⟩
  · rw [List.mem_singleton.mp hb]
    exact fun e => hn (e ▸ ha)
  · rcases List.mem_append.mp ht with q | q
    · exact h.2 t q
    · rw [List.mem_singleton.mp q]; exact hs
theorem WFq_0 : WFq ([], []) := ⟨by simp, by simp, ⟨List.nodup_nil, by simp⟩, by simp⟩
theorem WFq_step {q q' : PSt} {c : Nat} (h : WFq q) (hs : pstep q c = some q') : WFq q' := by
  unfold pstep at hs
  split at hs
  · next hc =>
    cases hs
    have h8 : q.1.length < 8 := by
      rcases Nat.lt_or_ge q.1.length 8 with g | g
      · exact g
      · exact absurd (h.2.2.2 (Nat.le_antisymm h.1 g)) hc.2
    refine ⟨by simp; omega, fun w hw => ?_, ⟨List.nodup_nil, by simp⟩, fun _ => rfl⟩
    rcases List.mem_append.mp hw with g | g
    · exact h.2.1 w g
    · rw [List.mem_singleton.mp g]; exact ⟨hc.2, h.2.2.1⟩
  · split at hs
    · next hc =>
      cases hs
      exact ⟨h.1, h.2.1, WFc_app h.2.2.1 (by omega) hc.2.2.2, fun e => by have := hc.1; simp only at e; omega⟩
    · cases hs
theorem WFq_fold {b : Nat → Nat} : ∀ {i : Nat} {q : PSt}, pfold b i = some q → WFq q
  | 0, q, h => by cases h; exact WFq_0
  | i + 1, q, h => by
    rw [pfold] at h
    cases hp : pfold b i with
    | none => rw [hp] at h; cases h
    | some q0 => rw [hp] at h; exact WFq_step (WFq_fold hp) h
theorem pfold_none {b : Nat → Nat} {i j : Nat} (h : pfold b i = none) (hij : i ≤ j) : pfold b j = none := by
  induction j with
  | zero => rw [Nat.le_zero.mp hij] at h; exact h
  | succ j ih =>
    rcases Nat.lt_or_ge j i with g | g
    · rw [show j + 1 = i by omega]; exact h
    · rw [pfold, ih g]
/-- what the text of sz bytes tells: the fault, the nights -/
def PR (b : Nat → Nat) (sz : Nat) (ft : Int32) (N : List (List Nat)) : Prop :=
  (∃ i q, i < sz ∧ pfold b i = some q ∧ pstep q (b i) = none ∧ ft = nI i ∧ N = []) ∨
  ∃ q, pfold b sz = some q ∧ ((sz = 0 ∧ ft = -1 ∧ N = []) ∨ (0 < sz ∧ q.2 = [] ∧ ft = nI sz ∧ N = []) ∨ (0 < sz ∧ q.2 ≠ [] ∧ ft = -1 ∧ N = q.1 ++ [q.2]))
theorem PR_uniq {b : Nat → Nat} {sz : Nat} {ft ft' : Int32} {N N' : List (List Nat)} (h : PR b sz ft N) (h' : PR b sz ft' N') : ft = ft' ∧ N = N' := by
  have none_of : ∀ {i q}, pfold b i = some q → pstep q (b i) = none → pfold b (i + 1) = none := fun h1 h2 => by rw [pfold, h1]; exact h2
  rcases h with ⟨i, q, hi, h1, h2, h3, h4⟩ | ⟨q, h1, h2⟩ <;> rcases h' with ⟨j, r, hj, g1, g2, g3, g4⟩ | ⟨r, g1, g2⟩
  · have hij : i = j := by
      rcases Nat.lt_trichotomy i j with g | g | g
      · have := pfold_none (none_of h1 h2) (show i + 1 ≤ j from g)
        rw [g1] at this; cases this
      · exact g
      · have := pfold_none (none_of g1 g2) (show j + 1 ≤ i from g)
        rw [h1] at this; cases this
    subst hij
    exact ⟨h3.trans g3.symm, h4.trans g4.symm⟩
  · have := pfold_none (none_of h1 h2) (show i + 1 ≤ sz from hi)
    rw [g1] at this; cases this
  · have := pfold_none (none_of g1 g2) (show j + 1 ≤ sz from hj)
    rw [h1] at this; cases this
  · have hqr : q = r := Option.some.inj (h1.symm.trans g1)
    subst hqr
    rcases h2 with ⟨a1, a2, a3⟩ | ⟨a1, a2, a3, a4⟩ | ⟨a1, a2, a3, a4⟩ <;> rcases g2 with ⟨c1, c2, c3⟩ | ⟨c1, c2, c3, c4⟩ | ⟨c1, c2, c3, c4⟩
    · exact ⟨a2.trans c2.symm, a3.trans c3.symm⟩
    · omega
    · omega
    · omega
    · exact ⟨a3.trans c3.symm, a4.trans c4.symm⟩
    · exact absurd a2 c2
    · omega
    · exact absurd c2 a2
    · exact ⟨a3.trans c3.symm, a4.trans c4.symm⟩
def WFN (N : List (List Nat)) : Prop := N.length ≤ 8 ∧ ∀ w ∈ N, WFn w
theorem PR_wf {b : Nat → Nat} {sz : Nat} {ft : Int32} {N : List (List Nat)} (h : PR b sz ft N) : WFN N := by
  rcases h with ⟨i, q, hi, h1, h2, h3, rfl⟩ | ⟨q, h1, ⟨-, -, rfl⟩ | ⟨-, -, -, rfl⟩ | ⟨-, h2, -, rfl⟩⟩
  · exact ⟨by simp, by simp⟩
  · exact ⟨by simp, by simp⟩
  · exact ⟨by simp, by simp⟩
  · have hq := WFq_fold h1
    have h8 : q.1.length < 8 := by
      rcases Nat.lt_or_ge q.1.length 8 with g | g
      · exact g
      · exact absurd (hq.2.2.2 (Nat.le_antisymm hq.1 g)) h2
    refine ⟨by simp; omega, fun w hw => ?_⟩
    rcases List.mem_append.mp hw with g | g
    · exact hq.2.1 w g
    · rw [List.mem_singleton.mp g]; exact ⟨h2, hq.2.2.1⟩
theorem PR_ft {b : Nat → Nat} {sz : Nat} {ft : Int32} {N : List (List Nat)} (h : PR b sz ft N) : N ≠ [] → ft = -1 := by
  rcases h with ⟨i, q, hi, h1, h2, h3, rfl⟩ | ⟨q, h1, ⟨-, -, rfl⟩ | ⟨-, -, -, rfl⟩ | ⟨-, h2, h3, rfl⟩⟩
  · exact fun h => absurd rfl h
  · exact fun h => absurd rfl h
  · exact fun h => absurd rfl h
  · exact fun _ => h3
/-- the night n, and its j-th shed as an int (-1 where there is none) -/
abbrev ni (N : List (List Nat)) (n : Nat) : List Nat := N.getD n []
def sh (w : List Nat) (j : Nat) : Int32 := match w[j]? with
  | some s => nI s
  | none => -1
theorem ni_mem {N : List (List Nat)} {n : Nat} (h : n < N.length) : ni N n ∈ N := by
  have : ni N n = N[n] := by simp [ni, List.getD_eq_getElem?_getD, h]
  rw [this]; exact List.getElem_mem h
theorem ni_wf {N : List (List Nat)} (hN : WFN N) {n : Nat} (h : n < N.length) : WFn (ni N n) := hN.2 _ (ni_mem h)
theorem ni_pos {N : List (List Nat)} (hN : WFN N) {n : Nat} (h : n < N.length) : 0 < (ni N n).length := List.length_pos_iff.mpr (ni_wf hN h).1
theorem ni_le {N : List (List Nat)} (hN : WFN N) {n : Nat} (h : n < N.length) : (ni N n).length ≤ 6 := WFc_len (ni_wf hN h).2
theorem sh_in {w : List Nat} {j : Nat} (h : j < w.length) : sh w j = nI w[j] := by unfold sh; rw [List.getElem?_eq_getElem h]
theorem sh_out {w : List Nat} {j : Nat} (h : w.length ≤ j) : sh w j = -1 := by unfold sh; rw [List.getElem?_eq_none h]
/-- the sheds of a night as a mask -/
def msk (w : List Nat) : Nat := w.foldl (fun a s => a ||| 2 ^ s) 0
theorem msk_app (w : List Nat) (s : Nat) : msk (w ++ [s]) = msk w ||| 2 ^ s := by simp [msk, List.foldl_append]
theorem msk_aux (w : List Nat) : ∀ a t, (w.foldl (fun a s => a ||| 2 ^ s) a).testBit t = (a.testBit t || decide (t ∈ w)) := by
  induction w with
  | nil => intro a t; simp
  | cons s w ih =>
    intro a t
    rw [List.foldl_cons, ih, Nat.testBit_or, Nat.testBit_two_pow]
    by_cases h : s = t
    · subst h; simp
    · have h' : ¬ t = s := fun e => h e.symm
      simp [h, h']
theorem msk_bit (w : List Nat) (t : Nat) : (msk w).testBit t = decide (t ∈ w) := by
  unfold msk
  rw [msk_aux]
  simp
theorem msk_lt {w : List Nat} (h : ∀ s ∈ w, s < 6) : msk w < 64 := by
  refine Nat.lt_pow_two_of_testBit (n := 6) _ (fun i hi => ?_)
  rw [msk_bit]
  simp only [decide_eq_false_iff_not]
  exact fun hm => absurd (h i hm) (by omega)
theorem msk_0 {w : List Nat} (h : ∀ s ∈ w, s < 6) : msk w = 0 ↔ w = [] := by
  constructor
  · intro h0
    cases w with
    | nil => rfl
    | cons s w =>
      have := msk_bit (s :: w) s
      rw [h0] at this
      simp at this
  · intro h0; rw [h0]; rfl
theorem bit_get : ∀ m, m < 64 → ∀ s, s < 6 → (nI m >>> (nI s &&& 31)) &&& nI 1 = nI (if m.testBit s then 1 else 0) := by decide +kernel
theorem bit_set : ∀ m, m < 64 → ∀ s, s < 6 → nI m ||| (nI 1 <<< (nI s &&& 31)) = nI (m ||| 2 ^ s) := by decide +kernel
/-- what may have changed (longs may) -/
def Ag (P : Nat → Nat → Bool) (S S' : AS) : Prop := True ∧ ∀ a b, P a b = false → S'.1 a b = S.1 a b
theorem Ag.rf {P : Nat → Nat → Bool} {S : AS} : Ag P S S := ⟨trivial, fun _ _ _ => rfl⟩
theorem Ag.tr {P : Nat → Nat → Bool} {S S1 S2 : AS} (h : Ag P S S1) (h' : Ag P S1 S2) : Ag P S S2 := ⟨trivial, fun a b q => (h'.2 a b q).trans (h.2 a b q)⟩
theorem Ag.mono {P Q : Nat → Nat → Bool} {S S1 : AS} (h : Ag P S S1) (hPQ : ∀ a b, Q a b = false → P a b = false) : Ag Q S S1 := ⟨trivial, fun a b q => h.2 a b (hPQ a b q)⟩
theorem Ag.sI {P : Nat → Nat → Bool} {S S1 : AS} (h : Ag P S S1) {k j : Nat} {v : Int32} (hk : P k j = true) : Ag P S (sI S1 k j v) := by
  refine ⟨trivial, fun a b q => ?_⟩
  rw [sI_1, if_neg (fun e => by rw [e.1, e.2, hk] at q; cases q)]
  exact h.2 a b q
theorem Ag.sL {P : Nat → Nat → Bool} {S S1 : AS} (h : Ag P S S1) {k j : Nat} {v : Int64} : Ag P S (sL S1 k j v) := ⟨trivial, fun a b q => h.2 a b q⟩
theorem Ag.fill {P : Nat → Nat → Bool} {S S1 : AS} (h : Ag P S S1) {k n : Nat} {v : Int32} (hk : ∀ j, j < n → P k j = true) : Ag P S (fillS S1 k n v) := by
  refine ⟨trivial, fun a b q => ?_⟩
  show (if a = k ∧ b < n then v else S1.1 a b) = _
  rw [if_neg (fun e => by rw [e.1, hk b e.2] at q; cases q)]
  exact h.2 a b q
def tolB (v : Int32) (t : Nat) : Bool := !decide (v < 0) && decide (v < nI t)
theorem tolB_ex {v : Int32} {t : Nat} (ht : t < 2 ^ 31) (h : tolB v t = true) : ∃ n, n < t ∧ v = nI n := by
  simp only [tolB, Bool.and_eq_true, Bool.not_eq_true', decide_eq_false_iff_not, decide_eq_true_eq] at h
  obtain ⟨n, hn, rfl⟩ := nI_of h.1
  exact ⟨n, (nI_ltI hn ht).mp h.2, rfl⟩
theorem tolB_nI {n t : Nat} (ht : t < 2 ^ 31) (h : n < t) : tolB (nI n) t = true := by
  simp only [tolB, Bool.and_eq_true, Bool.not_eq_true', decide_eq_false_iff_not, decide_eq_true_eq]
  exact ⟨nI_pos (by omega), (nI_ltI (by omega) ht).mpr h⟩
theorem sh_inj {w w' : List Nat} {j : Nat} (h : WFc w) (h' : WFc w') (e : sh w j = sh w' j) : w[j]? = w'[j]? := by
  unfold sh at e
  cases h1 : w[j]? with
  | none =>
    cases h2 : w'[j]? with
    | none => rfl
    | some s =>
      rw [h1, h2] at e
      have := h'.2 s (List.mem_of_getElem? h2)
      exact absurd e.symm (nI_m1 (by omega))
  | some s =>
    have hs := h.2 s (List.mem_of_getElem? h1)
    cases h2 : w'[j]? with
    | none =>
      rw [h1, h2] at e
      exact absurd e (nI_m1 (by omega))
    | some s' =>
      rw [h1, h2] at e
      have hs' := h'.2 s' (List.mem_of_getElem? h2)
      have e' : nI s = nI s' := e
      rw [nI_inj (by omega) (by omega) e']
theorem sh_ext {w w' : List Nat} (h : WFc w) (h' : WFc w') (e : ∀ j, j < 6 → sh w j = sh w' j) : w = w' := by
  refine List.ext_getElem? fun j => ?_
  rcases Nat.lt_or_ge j 6 with g | g
  · exact sh_inj h h' (e j g)
  · have := WFc_len h
    have := WFc_len h'
    rw [List.getElem?_eq_none (by omega), List.getElem?_eq_none (by omega)]
