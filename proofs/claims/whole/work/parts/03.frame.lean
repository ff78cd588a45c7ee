/-! the virtual world: the objects by their numbers, ints and longs as functions of object and place -/
abbrev Gm : Type := Launch × (Nat × (va_G × (ClassId × ClassId)))
abbrev AS : Type := (Nat → Nat → Int32) × (Nat → Nat → Int64)
abbrev Rho : Type := Nat → Nat → Option Nat
abbrev MT : Type := (MethodName × ByteArray) × ((Nat × Option FieldType) × ((String × Nat) × (Nat × Nat)))
abbrev mY (M : MT) : MethodName := M.1.1
abbrev mC (M : MT) : ByteArray := M.1.2
abbrev mL (M : MT) : Nat := M.2.1.1
abbrev mR (M : MT) : Option FieldType := M.2.1.2
abbrev mO (M : MT) : String := M.2.2.1.1
abbrev mK (M : MT) : Nat := M.2.2.1.2
abbrev mF (M : MT) : Nat := M.2.2.2.1
abbrev mLo (M : MT) : Nat := M.2.2.2.2
abbrev gB (G : Gm) : Nat := G.2.1
abbrev gD (G : Gm) : va_G := G.2.2.1
def okd : Nat → Nat ⊕ (Bool × Nat) := fun k => match k with
  | 0 => .inl 8 | 1 => .inl 3 | 2 => .inr (false, 6) | 3 => .inr (false, 36) | 4 => .inl 4 | 5 => .inr (false, 60) | 6 => .inr (false, 48) | 7 => .inr (false, 8)
  | 8 => .inl 7 | 9 => .inl 0 | 10 => .inr (false, 42) | 11 => .inr (false, 384) | 12 => .inl 2 | 13 => .inl 6 | 14 => .inl 2 | 15 => .inl 1 | 16 => .inl 2
  | 17 => .inl 5 | 18 => .inr (false, 4) | 19 => .inr (false, 4) | 20 => .inr (false, 192) | 21 => .inr (false, 48)
  | 22 => .inl 9 | 23 => .inr (false, 60) | 24 => .inr (false, 54) | 25 => .inr (false, 9) | 26 => .inr (false, 6) | 27 => .inr (false, 36) | 28 => .inr (false, 360) | 29 => .inr (false, 360)
  | 30 => .inr (true, 4) | 31 => .inr (false, 4) | 32 => .inr (false, 4) | 33 => .inr (false, 192) | _ => .inr (false, 48)
def nfl : Nat → Nat := fun c => match c with
  | 0 => 4 | 1 => 2 | 2 => 2 | 3 => 4 | 4 => 8 | 5 => 5 | 6 => 11 | 7 => 2 | 8 => 7 | _ => 18
def CC : Nat → String := fun c => match c with
  | 0 => RX0 | 1 => RX1 | 2 => RX2 | 3 => RX3 | 4 => RX4 | 5 => RX5 | 6 => RX6 | 7 => RX7 | 8 => RX8 | _ => RX9
def TT : Nat → u_T := fun c => match c with
  | 0 => TX0 | 1 => TX1 | 2 => TX2 | 3 => TX3 | 4 => TX4 | 5 => TX5 | 6 => TX6 | 7 => TX7 | 8 => TX8 | _ => TX9
def tyy : Nat → Nat → FieldType := fun c => match c with
  | 0 => tyX0 | 1 => tyX1 | 2 => tyX2 | 3 => tyX3 | 4 => tyX4 | 5 => tyX5 | 6 => tyX6 | 7 => tyX7 | 8 => tyX8 | _ => tyX9
/-- 0: an int, 1: a long, 2: a reference -/
def fkd (c j : Nat) : Nat := match tyy c j with
  | .int => 0
  | .long => 1
  | _ => 2
def szk (k : Nat) : Nat := match okd k with
  | .inl c => nfl c
  | .inr q => q.2
def SZ : Nat → Nat
  | 0 => 0
  | n + 1 => SZ n + szk n
theorem SZ_mono {a b : Nat} (h : a ≤ b) : SZ a ≤ SZ b := by
  induction b with
  | zero => rw [Nat.le_zero.mp h]; exact Nat.le_refl _
  | succ n ih =>
    rcases Nat.lt_or_ge n a with q | q
    · have : a = n + 1 := by omega
      rw [this]; exact Nat.le_refl _
    · exact Nat.le_trans (ih q) (Nat.le_add_right _ _)
def rf (B : Nat) (r : Option Nat) : Value := match r with
  | none => .null
  | some k => .ref (B + k)
def fvl (B : Nat) (ρ : Rho) (S : AS) (k c j : Nat) : Value := match fkd c j with
  | 0 => .int (S.1 k j)
  | 1 => .long (S.2 k j)
  | _ => rf B (ρ k j)
def ent (G : Gm) (ρ : Rho) (S : AS) (k : Nat) : va_E := match okd k with
  | .inl c => .inr (c, (List.range (nfl c)).map (fvl (gB G) ρ S k c))
  | .inr q => .inl ((if q.1 = true then G.2.2.2.2 else G.2.2.2.1), (q.2, .inl (S.1 k)))
def Pic (G : Gm) (n : Nat) (ρ : Rho) (S : AS) (H : Heap) : Prop := H.size = gB G + n ∧ ∀ k, k < n → va_at (gD G) vwCl (gB G + k, ent G ρ S k) H
def tysG (G : Gm) : List (ClassId × FieldType) := [(G.2.2.2.1, .int), (G.2.2.2.2, .boolean)]
def nestWord : Cond → Bool
  | .fieldLinkNest .. => true
  | .methodLinkNest .. => true
  | _ => false
def okW (w : Cond) : Bool := goodWord w || nestWord w
def KW (s : State) : Prop := ∀ w ∈ lw_tbl, okW w = true → ∀ a : Array Value, w.before a s = true
theorem KW_moved {s U : State} (hW : s.WarmedH U.vm) (h : KW s) : KW U := by
  intro w hw hok a
  by_cases hg : goodWord w = true
  · exact word_at hW (good_of_word hg) (h w hw hok #[])
  · have hn : nestWord w = true := by
      rcases Bool.or_eq_true_iff.mp hok with q | q
      · exact absurd q hg
      · exact q
    cases w <;> first
      | (simp [nestWord] at hn; done)
      | exact va_Nw.use rfl (va_Nw.warmF hW (va_Nw.of rfl (h _ hw hok #[])))
      | exact va_Nw.use rfl (va_Nw.warmM hW (va_Nw.of rfl (h _ hw hok #[])))
theorem KW_start {s : State} {a0 : Array Value} (h : ∀ w ∈ lw_tbl, w.before a0 s = true) : KW s := by
  intro w hw hok a
  by_cases hg : goodWord w = true
  · exact word_at (State.WarmedH.refl s) (good_of_word hg) (h w hw)
  · have hn : nestWord w = true := by
      rcases Bool.or_eq_true_iff.mp hok with q | q
      · exact absurd q hg
      · exact q
    cases w <;> first
      | (simp [nestWord] at hn; done)
      | exact va_Nw.use rfl (va_Nw.of rfl (h _ hw))
theorem clW : ∀ c, c < 10 → ∀ w ∈ u_ws (CC c) (TT c) (nfl c), w ∈ lw_tbl ∧ okW w = true := by decide +kernel
theorem clC : ∀ c, c < 10 → vwCl[c]? = some (CC c, TT c, nfl c) := by
  intro c h
  match c, h with
  | 0, _ => rfl
  | 1, _ => rfl
  | 2, _ => rfl
  | 3, _ => rfl
  | 4, _ => rfl
  | 5, _ => rfl
  | 6, _ => rfl
  | 7, _ => rfl
  | 8, _ => rfl
  | 9, _ => rfl
theorem clT : ∀ c, c < 10 → ∀ k, k < nfl c → parseFieldDescriptor (TT c k).2.2.1 = some (tyy c k) := by decide +kernel
theorem clN : ∀ c, c < 10 → ∀ a, a < nfl c → ∀ b, b < nfl c → a ≠ b → (TT c a).2.1 ≠ (TT c b).2.1 := by decide +kernel
theorem clO : ∀ c, c < 10 → ∀ a, a < nfl c → (TT c a).1 = CC c := by decide +kernel
theorem okd_lt (k : Nat) (c : Nat) (h : okd k = .inl c) : c < 10 := by
  unfold okd at h
  split at h <;> first | (cases h; decide) | cases h
/-- the facts of a frame's entry -/
def EF (G : Gm) (M : MT) (n0 : Nat) (Z2 : State → Array Value → Prop) (p : Program) (s : State) (m : MethodId) (args : Array Value) (meth : Method) (c : Code) : Prop :=
  p.tables.exec = Jvm.exec ∧ c.code = mC M ∧ c.maxLocals = mL M ∧ meth.sig.returnType = mR M ∧ meth.locks = false ∧ s.vm.findClass (mO M) = some m.cls ∧ meth.name = (mY M).name ∧ KW s ∧ va_K (gD G) vwCl (tysG G) s ∧ s.heap.size = gB G + n0 ∧ Z2 s args
def lva : Nat → List (Option Value) → List (Nat × Value)
  | _, [] => []
  | i, none :: t => lva (i + 1) t
  | i, some v :: t => (i, v) :: lva (i + 1) t
theorem lva_mem : ∀ (L : List (Option Value)) (i : Nat) (q : Nat × Value), q ∈ lva i L ↔ i ≤ q.1 ∧ L[q.1 - i]? = some (some q.2)
  | [], i, q => by simp [lva]
  | none :: t, i, q => by
    rw [lva, lva_mem t (i + 1) q]
    constructor
    · rintro ⟨h1, h2⟩
      refine ⟨by omega, ?_⟩
      rw [show q.1 - i = (q.1 - (i + 1)) + 1 from by omega, List.getElem?_cons_succ]
      exact h2
    · rintro ⟨h1, h2⟩
      by_cases he : q.1 = i
      · rw [he, Nat.sub_self, List.getElem?_cons_zero] at h2
        cases h2
      · refine ⟨by omega, ?_⟩
        rw [show q.1 - i = (q.1 - (i + 1)) + 1 from by omega, List.getElem?_cons_succ] at h2
        exact h2
  | some v :: t, i, q => by
    rw [lva, List.mem_cons, lva_mem t (i + 1) q]
    constructor
    · rintro (rfl | ⟨h1, h2⟩)
      · exact ⟨Nat.le_refl _, by rw [Nat.sub_self]; rfl⟩
      · refine ⟨by omega, ?_⟩
        rw [show q.1 - i = (q.1 - (i + 1)) + 1 from by omega, List.getElem?_cons_succ]
        exact h2
    · rintro ⟨h1, h2⟩
      by_cases he : q.1 = i
      · rw [he, Nat.sub_self, List.getElem?_cons_zero] at h2
        left
        cases q
        cases he
        cases h2
        rfl
      · right
        refine ⟨by omega, ?_⟩
        rw [show q.1 - i = (q.1 - (i + 1)) + 1 from by omega, List.getElem?_cons_succ] at h2
        exact h2
def lvh (ls : Array Slot) (nL : Nat) (L : List (Option Value)) : Prop := lv_has ls nL (lva 0 L) ∧ L.length ≤ nL
theorem lvh_at {ls : Array Slot} {nL : Nat} {L : List (Option Value)} (h : lvh ls nL L) {i : Nat} {v : Value} (hi : L[i]? = some (some v)) : ls[i]? = some (.val v) :=
  h.1.2.2 (i, v) ((lva_mem L 0 (i, v)).mpr ⟨Nat.zero_le _, hi⟩)
def nl2 (q : Option Value) : Bool := match q with
  | some (.long _) => false
  | some (.double _) => false
  | _ => true
theorem nl2_cat {v : Value} (h : nl2 (some v) = true) : v.category ≠ 2 := by
  cases v <;> simp [nl2, Value.category] at h ⊢
/-- the place ahead of i is no long -/
def okst (L : List (Option Value)) (i : Nat) : Bool := match i with
  | 0 => true
  | j + 1 => match L[j]? with
    | some q => nl2 q
    | none => true
theorem lvh_filter {L : List (Option Value)} {i : Nat} {v : Value} (hc : okst L i = true) (q : Nat × Value) (hq : q ∈ lva 0 (L.set i (some v))) : q ∈ (i, v) :: (lva 0 L).filter (fun q => !(q.1 == i) && !(q.1 + 1 == i && q.2.category == 2)) := by
  rw [lva_mem] at hq
  obtain ⟨-, h2⟩ := hq
  rw [Nat.sub_zero] at h2
  by_cases he : q.1 = i
  · rw [he] at h2
    have hlt : i < L.length := by
      have := (List.getElem?_eq_some_iff.mp h2).1
      rw [List.length_set] at this
      exact this
    rw [List.getElem?_set_self hlt] at h2
    cases q
    cases he
    cases h2
    exact List.mem_cons_self
  · rw [List.getElem?_set_ne (Ne.symm he)] at h2
    refine List.mem_cons_of_mem _ (List.mem_filter.mpr ⟨(lva_mem L 0 q).mpr ⟨Nat.zero_le _, by rw [Nat.sub_zero]; exact h2⟩, ?_⟩)
    rw [Bool.and_eq_true]
    refine ⟨by simpa using he, ?_⟩
    by_cases h3 : q.1 + 1 = i
    · subst h3
      have hc1 : (match L[q.1]? with | some q => nl2 q | none => true) = true := hc
      rw [h2] at hc1
      have := nl2_cat hc1
      simp [this]
    · simp [h3]
theorem lvh_set1 {ls' : Array Slot} {nL : Nat} {L : List (Option Value)} {i : Nat} {v : Value} (hlen : L.length ≤ nL) (hc : okst L i = true) (h : lv_has ls' nL ((i, v) :: (lva 0 L).filter (fun q => !(q.1 == i) && !(q.1 + 1 == i && q.2.category == 2)))) : lvh ls' nL (L.set i (some v)) :=
  ⟨⟨h.1, h.2.1, fun q hq => h.2.2 q (lvh_filter hc q hq)⟩, by rw [List.length_set]; exact hlen⟩
theorem lvh_filter2 {L : List (Option Value)} {i : Nat} {v : Value} (hc : okst L i = true) (q : Nat × Value) (hq : q ∈ lva 0 ((L.set i (some v)).set (i + 1) none)) : q ∈ (i, v) :: (lva 0 L).filter (fun q => !(q.1 == i) && (!(q.1 == i + 1) && !(q.1 + 1 == i && q.2.category == 2))) := by
  rw [lva_mem] at hq
  obtain ⟨-, h2⟩ := hq
  rw [Nat.sub_zero] at h2
  by_cases hs : q.1 = i + 1
  · rw [hs] at h2
    have hlt := (List.getElem?_eq_some_iff.mp h2).1
    rw [List.length_set] at hlt
    rw [List.getElem?_set_self hlt] at h2
    cases h2
  · rw [List.getElem?_set_ne (Ne.symm hs)] at h2
    have h3 := lvh_filter (q := q) hc ((lva_mem _ 0 q).mpr ⟨Nat.zero_le _, by rw [Nat.sub_zero]; exact h2⟩)
    rcases List.mem_cons.mp h3 with h3 | h3
    · rw [h3]; exact List.mem_cons_self
    · refine List.mem_cons_of_mem _ ?_
      rw [List.mem_filter] at h3 ⊢
      refine ⟨h3.1, ?_⟩
      have h4 := h3.2
      rw [Bool.and_eq_true] at h4 ⊢
      refine ⟨h4.1, ?_⟩
      rw [Bool.and_eq_true]
      exact ⟨by simpa using hs, h4.2⟩
theorem lvh_set2 {ls' : Array Slot} {nL : Nat} {L : List (Option Value)} {i : Nat} {v : Value} (hlen : L.length ≤ nL) (hc : okst L i = true) (h : lv_has ls' nL ((i, v) :: (lva 0 L).filter (fun q => !(q.1 == i) && (!(q.1 == i + 1) && !(q.1 + 1 == i && q.2.category == 2))))) : lvh ls' nL ((L.set i (some v)).set (i + 1) none) :=
  ⟨⟨h.1, h.2.1, fun q hq => h.2.2 q (lvh_filter2 hc q hq)⟩, by rw [List.length_set, List.length_set]; exact hlen⟩
abbrev ZT : Type := (List Frame → Array Value → State → State → Prop) × (State → Array Value → Prop)
abbrev rmM (M : MT) (mc ms : Nat) : Room := { frames := mF M, cells := mc, slots := ms, locals := mLo M }
/-- the machine in a frame of M, at pc, with the locals L and the stack st, in the world (n, ρ, S), comes to Z -/
def V (G : Gm) (M : MT) (n0 nE : Nat) (Z : ZT) (n : Nat) (ρ : Rho) (pc : Nat) (L : List (Option Value)) (st : List Value) (S : AS) : Prop :=
  ∀ (p : Program) (e : Env) (s : State) (m : MethodId) (args : Array Value) (below : List Frame) (meth : Method) (c : Code), EF G M n0 Z.2 p s m args meth c →
    ∀ (H : Heap) (locs : List Loc) (ls : Array Slot), Pic G n ρ S H → va_S (fun q => gB G ≤ q) s.heap H locs → lvh ls (mL M) L →
      W p G.1 e (rmM M (nE - n0) (SZ nE - SZ n0)) s m args below meth c H locs (n - n0) (SZ n - SZ n0) (Z.1 below args s) (F0 m pc ls st)
def Dc (M : MT) (pc : Nat) (i : Instr) (len pc' : Nat) : Prop := decode (mC M) pc = .ok (i, len) ∧ pc + len = pc'

section VR
variable {G : Gm} {M : MT} {n0 nE : Nat} {Z : ZT} {n : Nat} {ρ : Rho} {pc pc' : Nat} {L : List (Option Value)} {st : List Value} {S : AS}

theorem V_iconst {i : Int} {v : Int32} (h : Dc M pc (.iconst i) 1 pc') (hv : Int32.ofInt i = v) (k : V G M n0 nE Z n ρ pc' L (.int v :: st) S) : V G M n0 nE Z n ρ pc L (st) S := fun p e s m args below meth c E H locs ls hP hS hl => by
  obtain ⟨hd, rfl⟩ := h
  exact lv_iconst E.1 E.2.1 hd hv (k p e s m args below meth c E H locs ls hP hS hl)

theorem V_bipush {i : Int} {v : Int32} (h : Dc M pc (.bipush i) 2 pc') (hv : (Int8.ofInt i).toInt32 = v) (k : V G M n0 nE Z n ρ pc' L (.int v :: st) S) : V G M n0 nE Z n ρ pc L (st) S := fun p e s m args below meth c E H locs ls hP hS hl => by
  obtain ⟨hd, rfl⟩ := h
  exact lv_bipush E.1 E.2.1 hd hv (k p e s m args below meth c E H locs ls hP hS hl)

theorem V_sipush {i : Int} {v : Int32} (h : Dc M pc (.sipush i) 3 pc') (hv : (Int16.ofInt i).toInt32 = v) (k : V G M n0 nE Z n ρ pc' L (.int v :: st) S) : V G M n0 nE Z n ρ pc L (st) S := fun p e s m args below meth c E H locs ls hP hS hl => by
  obtain ⟨hd, rfl⟩ := h
  exact lv_sipush E.1 E.2.1 hd hv (k p e s m args below meth c E H locs ls hP hS hl)

theorem V_lconst {i : Fin 2} {v : Int64} (h : Dc M pc (.lconst i) 1 pc') (hv : Int64.ofNat (i : Nat) = v) (k : V G M n0 nE Z n ρ pc' L (.long v :: st) S) : V G M n0 nE Z n ρ pc L (st) S := fun p e s m args below meth c E H locs ls hP hS hl => by
  obtain ⟨hd, rfl⟩ := h
  exact lv_lconst E.1 E.2.1 hd hv (k p e s m args below meth c E H locs ls hP hS hl)

theorem V_iadd {x y : Int32} (h : Dc M pc (.iadd) 1 pc')  (k : V G M n0 nE Z n ρ pc' L (.int (x + y) :: st) S) : V G M n0 nE Z n ρ pc L (.int y :: .int x :: st) S := fun p e s m args below meth c E H locs ls hP hS hl => by
  obtain ⟨hd, rfl⟩ := h
  exact lv_iadd E.1 E.2.1 hd (k p e s m args below meth c E H locs ls hP hS hl)

theorem V_isub {x y : Int32} (h : Dc M pc (.isub) 1 pc')  (k : V G M n0 nE Z n ρ pc' L (.int (x - y) :: st) S) : V G M n0 nE Z n ρ pc L (.int y :: .int x :: st) S := fun p e s m args below meth c E H locs ls hP hS hl => by
  obtain ⟨hd, rfl⟩ := h
  exact lv_isub E.1 E.2.1 hd (k p e s m args below meth c E H locs ls hP hS hl)

theorem V_imul {x y : Int32} (h : Dc M pc (.imul) 1 pc')  (k : V G M n0 nE Z n ρ pc' L (.int (x * y) :: st) S) : V G M n0 nE Z n ρ pc L (.int y :: .int x :: st) S := fun p e s m args below meth c E H locs ls hP hS hl => by
  obtain ⟨hd, rfl⟩ := h
  exact lv_imul E.1 E.2.1 hd (k p e s m args below meth c E H locs ls hP hS hl)

theorem V_iand {x y : Int32} (h : Dc M pc (.iand) 1 pc')  (k : V G M n0 nE Z n ρ pc' L (.int (x &&& y) :: st) S) : V G M n0 nE Z n ρ pc L (.int y :: .int x :: st) S := fun p e s m args below meth c E H locs ls hP hS hl => by
  obtain ⟨hd, rfl⟩ := h
  exact lv_iand E.1 E.2.1 hd (k p e s m args below meth c E H locs ls hP hS hl)

theorem V_ior {x y : Int32} (h : Dc M pc (.ior) 1 pc')  (k : V G M n0 nE Z n ρ pc' L (.int (x ||| y) :: st) S) : V G M n0 nE Z n ρ pc L (.int y :: .int x :: st) S := fun p e s m args below meth c E H locs ls hP hS hl => by
  obtain ⟨hd, rfl⟩ := h
  exact lv_ior E.1 E.2.1 hd (k p e s m args below meth c E H locs ls hP hS hl)

theorem V_ishl {x y : Int32} (h : Dc M pc (.ishl) 1 pc')  (k : V G M n0 nE Z n ρ pc' L (.int (x <<< (y &&& 31)) :: st) S) : V G M n0 nE Z n ρ pc L (.int y :: .int x :: st) S := fun p e s m args below meth c E H locs ls hP hS hl => by
  obtain ⟨hd, rfl⟩ := h
  exact lv_ishl E.1 E.2.1 hd (k p e s m args below meth c E H locs ls hP hS hl)

theorem V_ishr {x y : Int32} (h : Dc M pc (.ishr) 1 pc')  (k : V G M n0 nE Z n ρ pc' L (.int (x >>> (y &&& 31)) :: st) S) : V G M n0 nE Z n ρ pc L (.int y :: .int x :: st) S := fun p e s m args below meth c E H locs ls hP hS hl => by
  obtain ⟨hd, rfl⟩ := h
  exact lv_ishr E.1 E.2.1 hd (k p e s m args below meth c E H locs ls hP hS hl)

theorem V_iushr {x y v : Int32} (h : Dc M pc (.iushr) 1 pc') (hv : (x.toUInt32 >>> (y.toUInt32 &&& Int32.toUInt32 31)).toInt32 = v) (k : V G M n0 nE Z n ρ pc' L (.int v :: st) S) : V G M n0 nE Z n ρ pc L (.int y :: .int x :: st) S := fun p e s m args below meth c E H locs ls hP hS hl => by
  obtain ⟨hd, rfl⟩ := h
  exact lv_iushr E.1 E.2.1 hd hv (k p e s m args below meth c E H locs ls hP hS hl)

theorem V_idiv {x y : Int32} (h : Dc M pc (.idiv) 1 pc') (hne : ¬ y = 0) (k : V G M n0 nE Z n ρ pc' L (.int (x / y) :: st) S) : V G M n0 nE Z n ρ pc L (.int y :: .int x :: st) S := fun p e s m args below meth c E H locs ls hP hS hl => by
  obtain ⟨hd, rfl⟩ := h
  exact lv_idiv E.1 E.2.1 hd hne (k p e s m args below meth c E H locs ls hP hS hl)

theorem V_irem {x y : Int32} (h : Dc M pc (.irem) 1 pc') (hne : ¬ y = 0) (k : V G M n0 nE Z n ρ pc' L (.int (x - x / y * y) :: st) S) : V G M n0 nE Z n ρ pc L (.int y :: .int x :: st) S := fun p e s m args below meth c E H locs ls hP hS hl => by
  obtain ⟨hd, rfl⟩ := h
  exact lv_irem E.1 E.2.1 hd hne (k p e s m args below meth c E H locs ls hP hS hl)

theorem V_ladd {x y : Int64} (h : Dc M pc (.ladd) 1 pc')  (k : V G M n0 nE Z n ρ pc' L (.long (x + y) :: st) S) : V G M n0 nE Z n ρ pc L (.long y :: .long x :: st) S := fun p e s m args below meth c E H locs ls hP hS hl => by
  obtain ⟨hd, rfl⟩ := h
  exact lv_ladd E.1 E.2.1 hd (k p e s m args below meth c E H locs ls hP hS hl)

theorem V_lsub {x y : Int64} (h : Dc M pc (.lsub) 1 pc')  (k : V G M n0 nE Z n ρ pc' L (.long (x - y) :: st) S) : V G M n0 nE Z n ρ pc L (.long y :: .long x :: st) S := fun p e s m args below meth c E H locs ls hP hS hl => by
  obtain ⟨hd, rfl⟩ := h
  exact lv_lsub E.1 E.2.1 hd (k p e s m args below meth c E H locs ls hP hS hl)

theorem V_lmul {x y : Int64} (h : Dc M pc (.lmul) 1 pc')  (k : V G M n0 nE Z n ρ pc' L (.long (x * y) :: st) S) : V G M n0 nE Z n ρ pc L (.long y :: .long x :: st) S := fun p e s m args below meth c E H locs ls hP hS hl => by
  obtain ⟨hd, rfl⟩ := h
  exact lv_lmul E.1 E.2.1 hd (k p e s m args below meth c E H locs ls hP hS hl)

theorem V_ldiv {x y : Int64} (h : Dc M pc (.ldiv) 1 pc') (hne : ¬ y = 0) (k : V G M n0 nE Z n ρ pc' L (.long (x / y) :: st) S) : V G M n0 nE Z n ρ pc L (.long y :: .long x :: st) S := fun p e s m args below meth c E H locs ls hP hS hl => by
  obtain ⟨hd, rfl⟩ := h
  exact lv_ldiv E.1 E.2.1 hd hne (k p e s m args below meth c E H locs ls hP hS hl)

theorem V_lrem {x y : Int64} (h : Dc M pc (.lrem) 1 pc') (hne : ¬ y = 0) (k : V G M n0 nE Z n ρ pc' L (.long (x - x / y * y) :: st) S) : V G M n0 nE Z n ρ pc L (.long y :: .long x :: st) S := fun p e s m args below meth c E H locs ls hP hS hl => by
  obtain ⟨hd, rfl⟩ := h
  exact lv_lrem E.1 E.2.1 hd hne (k p e s m args below meth c E H locs ls hP hS hl)

theorem V_lcmp {x y : Int64} (h : Dc M pc (.lcmp) 1 pc')  (k : V G M n0 nE Z n ρ pc' L (.int (lg_cmp x y) :: st) S) : V G M n0 nE Z n ρ pc L (.long y :: .long x :: st) S := fun p e s m args below meth c E H locs ls hP hS hl => by
  obtain ⟨hd, rfl⟩ := h
  exact W.lcmp E.1 E.2.1 hd (k p e s m args below meth c E H locs ls hP hS hl)

theorem V_i2l {x : Int32} {v : Int64} (h : Dc M pc (.i2l) 1 pc') (hv : x.toInt64 = v) (k : V G M n0 nE Z n ρ pc' L (.long v :: st) S) : V G M n0 nE Z n ρ pc L (.int x :: st) S := fun p e s m args below meth c E H locs ls hP hS hl => by
  obtain ⟨hd, rfl⟩ := h
  exact lv_i2l E.1 E.2.1 hd hv (k p e s m args below meth c E H locs ls hP hS hl)

theorem V_i2b {x : Int32} (h : Dc M pc (.i2b) 1 pc')  (k : V G M n0 nE Z n ρ pc' L (.int x.toInt8.toInt32 :: st) S) : V G M n0 nE Z n ρ pc L (.int x :: st) S := fun p e s m args below meth c E H locs ls hP hS hl => by
  obtain ⟨hd, rfl⟩ := h
  exact lv_i2b E.1 E.2.1 hd rfl (k p e s m args below meth c E H locs ls hP hS hl)

theorem V_i2s {x : Int32} (h : Dc M pc (.i2s) 1 pc')  (k : V G M n0 nE Z n ρ pc' L (.int x.toInt16.toInt32 :: st) S) : V G M n0 nE Z n ρ pc L (.int x :: st) S := fun p e s m args below meth c E H locs ls hP hS hl => by
  obtain ⟨hd, rfl⟩ := h
  exact lv_i2s E.1 E.2.1 hd rfl (k p e s m args below meth c E H locs ls hP hS hl)

theorem V_dup {v : Value} (h : Dc M pc (.dup) 1 pc') (hv : v.category = 1) (k : V G M n0 nE Z n ρ pc' L (v :: v :: st) S) : V G M n0 nE Z n ρ pc L (v :: st) S := fun p e s m args below meth c E H locs ls hP hS hl => by
  obtain ⟨hd, rfl⟩ := h
  exact lv_dup E.1 E.2.1 hd hv (k p e s m args below meth c E H locs ls hP hS hl)

theorem V_pop {v : Value} (h : Dc M pc (.pop) 1 pc') (hv : v.category = 1) (k : V G M n0 nE Z n ρ pc' L (st) S) : V G M n0 nE Z n ρ pc L (v :: st) S := fun p e s m args below meth c E H locs ls hP hS hl => by
  obtain ⟨hd, rfl⟩ := h
  exact lv_pop E.1 E.2.1 hd hv (k p e s m args below meth c E H locs ls hP hS hl)

theorem V_iaddN {x y : Nat} (h : Dc M pc .iadd 1 pc') (k : V G M n0 nE Z n ρ pc' L (.int (nI (x + y)) :: st) S) : V G M n0 nE Z n ρ pc L (.int (nI y) :: .int (nI x) :: st) S := V_iadd h (by rw [nI_add]; exact k)
theorem V_imulN {x y : Nat} (h : Dc M pc .imul 1 pc') (k : V G M n0 nE Z n ρ pc' L (.int (nI (x * y)) :: st) S) : V G M n0 nE Z n ρ pc L (.int (nI y) :: .int (nI x) :: st) S := V_imul h (by rw [pk_mul]; exact k)
theorem V_isubN {x y : Nat} (h : Dc M pc .isub 1 pc') (hxy : y ≤ x) (k : V G M n0 nE Z n ρ pc' L (.int (nI (x - y)) :: st) S) : V G M n0 nE Z n ρ pc L (.int (nI y) :: .int (nI x) :: st) S := V_isub h (by rw [pk_sub hxy]; exact k)
theorem V_laddN {x y : Nat} (h : Dc M pc .ladd 1 pc') (k : V G M n0 nE Z n ρ pc' L (.long (lN (x + y)) :: st) S) : V G M n0 nE Z n ρ pc L (.long (lN y) :: .long (lN x) :: st) S := V_ladd h (by rw [lN_add]; exact k)
theorem V_lmulN {x y : Nat} (h : Dc M pc .lmul 1 pc') (k : V G M n0 nE Z n ρ pc' L (.long (lN (x * y)) :: st) S) : V G M n0 nE Z n ρ pc L (.long (lN y) :: .long (lN x) :: st) S := V_lmul h (by rw [lN_mul]; exact k)
theorem V_i2lN {x : Nat} (h : Dc M pc .i2l 1 pc') (hx : x < 2 ^ 31) (k : V G M n0 nE Z n ρ pc' L (.long (lN x) :: st) S) : V G M n0 nE Z n ρ pc L (.int (nI x) :: st) S := V_i2l h (nI_l hx) k
/-- another name for the value on top -/
theorem V_top {v w : Value} (hv : v = w) (k : V G M n0 nE Z n ρ pc L (w :: st) S) : V G M n0 nE Z n ρ pc L (v :: st) S := by rw [hv]; exact k
theorem V_topi {x y : Int32} (hv : x = y) (k : V G M n0 nE Z n ρ pc L (.int y :: st) S) : V G M n0 nE Z n ρ pc L (.int x :: st) S := by rw [hv]; exact k
theorem V_topl {x y : Int64} (hv : x = y) (k : V G M n0 nE Z n ρ pc L (.long y :: st) S) : V G M n0 nE Z n ρ pc L (.long x :: st) S := by rw [hv]; exact k
theorem V_st {S1 : AS} (hv : S = S1) (k : V G M n0 nE Z n ρ pc L st S1) : V G M n0 nE Z n ρ pc L st S := by rw [hv]; exact k

theorem V_iload_n {j : Fin 4} {x : Int32} (h : Dc M pc (.iload_n j) 1 pc') (hl0 : L[(j : Nat)]? = some (some (.int x))) (k : V G M n0 nE Z n ρ pc' L (.int x :: st) S) : V G M n0 nE Z n ρ pc L st S := fun p e s m args below meth c E H locs ls hP hS hl => by
  obtain ⟨hd, rfl⟩ := h
  exact lv_iload_n E.1 E.2.1 hd rfl (lvh_at hl hl0) (k p e s m args below meth c E H locs ls hP hS hl)

theorem V_iload {j : Nat} {x : Int32} (h : Dc M pc (.iload j) 2 pc') (hl0 : L[j]? = some (some (.int x))) (k : V G M n0 nE Z n ρ pc' L (.int x :: st) S) : V G M n0 nE Z n ρ pc L st S := fun p e s m args below meth c E H locs ls hP hS hl => by
  obtain ⟨hd, rfl⟩ := h
  exact lv_iload E.1 E.2.1 hd (lvh_at hl hl0) (k p e s m args below meth c E H locs ls hP hS hl)

theorem V_aload_n {j : Fin 4} {x : Nat} (h : Dc M pc (.aload_n j) 1 pc') (hl0 : L[(j : Nat)]? = some (some (.ref x))) (k : V G M n0 nE Z n ρ pc' L (.ref x :: st) S) : V G M n0 nE Z n ρ pc L st S := fun p e s m args below meth c E H locs ls hP hS hl => by
  obtain ⟨hd, rfl⟩ := h
  exact lv_aload_n E.1 E.2.1 hd rfl (lvh_at hl hl0) (k p e s m args below meth c E H locs ls hP hS hl)

theorem V_aload {j : Nat} {x : Nat} (h : Dc M pc (.aload j) 2 pc') (hl0 : L[j]? = some (some (.ref x))) (k : V G M n0 nE Z n ρ pc' L (.ref x :: st) S) : V G M n0 nE Z n ρ pc L st S := fun p e s m args below meth c E H locs ls hP hS hl => by
  obtain ⟨hd, rfl⟩ := h
  exact lv_aload E.1 E.2.1 hd (lvh_at hl hl0) (k p e s m args below meth c E H locs ls hP hS hl)

theorem V_lload_n {j : Fin 4} {x : Int64} (h : Dc M pc (.lload_n j) 1 pc') (hl0 : L[(j : Nat)]? = some (some (.long x))) (k : V G M n0 nE Z n ρ pc' L (.long x :: st) S) : V G M n0 nE Z n ρ pc L st S := fun p e s m args below meth c E H locs ls hP hS hl => by
  obtain ⟨hd, rfl⟩ := h
  exact lv_lload_n E.1 E.2.1 hd rfl (lvh_at hl hl0) (k p e s m args below meth c E H locs ls hP hS hl)

theorem V_lload {j : Nat} {x : Int64} (h : Dc M pc (.lload j) 2 pc') (hl0 : L[j]? = some (some (.long x))) (k : V G M n0 nE Z n ρ pc' L (.long x :: st) S) : V G M n0 nE Z n ρ pc L st S := fun p e s m args below meth c E H locs ls hP hS hl => by
  obtain ⟨hd, rfl⟩ := h
  exact lv_lload E.1 E.2.1 hd (lvh_at hl hl0) (k p e s m args below meth c E H locs ls hP hS hl)

theorem V_istore_n {j : Fin 4} {x : Int32} (h : Dc M pc (.istore_n j) 1 pc') (hj : (j : Nat) < L.length) (hc : okst L (j : Nat) = true) (k : V G M n0 nE Z n ρ pc' (L.set (j : Nat) (some (.int x))) st S) : V G M n0 nE Z n ρ pc L (.int x :: st) S := fun p e s m args below meth c E H locs ls hP hS hl => by
  obtain ⟨hd, rfl⟩ := h
  exact lv_istore_n E.1 E.2.1 hd rfl hl.1 (Nat.lt_of_lt_of_le hj hl.2) rfl (fun ls' hl' => k p e s m args below meth c E H locs ls' hP hS (lvh_set1 hl.2 hc hl'))

theorem V_istore {j : Nat} {x : Int32} (h : Dc M pc (.istore j) 2 pc') (hj : j < L.length) (hc : okst L j = true) (k : V G M n0 nE Z n ρ pc' (L.set j (some (.int x))) st S) : V G M n0 nE Z n ρ pc L (.int x :: st) S := fun p e s m args below meth c E H locs ls hP hS hl => by
  obtain ⟨hd, rfl⟩ := h
  exact lv_istore E.1 E.2.1 hd hl.1 (Nat.lt_of_lt_of_le hj hl.2) rfl (fun ls' hl' => k p e s m args below meth c E H locs ls' hP hS (lvh_set1 hl.2 hc hl'))

theorem V_astore_n {j : Fin 4} {x : Nat} (h : Dc M pc (.astore_n j) 1 pc') (hj : (j : Nat) < L.length) (hc : okst L (j : Nat) = true) (k : V G M n0 nE Z n ρ pc' (L.set (j : Nat) (some (.ref x))) st S) : V G M n0 nE Z n ρ pc L (.ref x :: st) S := fun p e s m args below meth c E H locs ls hP hS hl => by
  obtain ⟨hd, rfl⟩ := h
  exact lv_astore_n E.1 E.2.1 hd rfl hl.1 (Nat.lt_of_lt_of_le hj hl.2) rfl (fun ls' hl' => k p e s m args below meth c E H locs ls' hP hS (lvh_set1 hl.2 hc hl'))

theorem V_lstore_n {j : Fin 4} {x : Int64} (h : Dc M pc (.lstore_n j) 1 pc') (hj : (j : Nat) + 1 < L.length) (hc : okst L (j : Nat) = true) (k : V G M n0 nE Z n ρ pc' ((L.set (j : Nat) (some (.long x))).set ((j : Nat) + 1) none) st S) : V G M n0 nE Z n ρ pc L (.long x :: st) S := fun p e s m args below meth c E H locs ls hP hS hl => by
  obtain ⟨hd, rfl⟩ := h
  exact lv_lstore_n E.1 E.2.1 hd rfl hl.1 (Nat.lt_of_lt_of_le hj hl.2) rfl (fun ls' hl' => k p e s m args below meth c E H locs ls' hP hS (lvh_set2 hl.2 hc hl'))

theorem V_lstore {j : Nat} {x : Int64} (h : Dc M pc (.lstore j) 2 pc') (hj : j + 1 < L.length) (hc : okst L j = true) (k : V G M n0 nE Z n ρ pc' ((L.set j (some (.long x))).set (j + 1) none) st S) : V G M n0 nE Z n ρ pc L (.long x :: st) S := fun p e s m args below meth c E H locs ls hP hS hl => by
  obtain ⟨hd, rfl⟩ := h
  exact lv_lstore E.1 E.2.1 hd hl.1 (Nat.lt_of_lt_of_le hj hl.2) rfl (fun ls' hl' => k p e s m args below meth c E H locs ls' hP hS (lvh_set2 hl.2 hc hl'))

theorem V_iinc {j : Nat} {i : Int} {x v : Int32} (h : Dc M pc (.iinc j i) 3 pc') (hl0 : L[j]? = some (some (.int x))) (hc : okst L j = true) (hv : x + Int32.ofInt i = v) (k : V G M n0 nE Z n ρ pc' (L.set j (some (.int v))) st S) : V G M n0 nE Z n ρ pc L st S := fun p e s m args below meth c E H locs ls hP hS hl => by
  obtain ⟨hd, rfl⟩ := h
  obtain ⟨q, hq⟩ := List.getElem?_of_mem ((lva_mem L 0 (j, .int x)).mpr ⟨Nat.zero_le _, hl0⟩)
  exact lv_iinc E.1 E.2.1 hd hl.1 hq hv (Nat.lt_of_lt_of_le (List.getElem?_eq_some_iff.mp hl0).1 hl.2) rfl (fun ls' hl' => k p e s m args below meth c E H locs ls' hP hS (lvh_set1 hl.2 hc hl'))

theorem V_il0 {t : List (Option Value)} {x : Int32} (h : Dc M pc (.iload_n 0) 1 pc') (k : V G M n0 nE Z n ρ pc' (some (.int x) :: t) (.int x :: st) S) : V G M n0 nE Z n ρ pc (some (.int x) :: t) st S := V_iload_n h rfl k

theorem V_al0 {t : List (Option Value)} {x : Nat} (h : Dc M pc (.aload_n 0) 1 pc') (k : V G M n0 nE Z n ρ pc' (some (.ref x) :: t) (.ref x :: st) S) : V G M n0 nE Z n ρ pc (some (.ref x) :: t) st S := V_aload_n h rfl k

theorem V_ll0 {t : List (Option Value)} {x : Int64} (h : Dc M pc (.lload_n 0) 1 pc') (k : V G M n0 nE Z n ρ pc' (some (.long x) :: t) (.long x :: st) S) : V G M n0 nE Z n ρ pc (some (.long x) :: t) st S := V_lload_n h rfl k

theorem V_is0 {b : Option Value} {t : List (Option Value)} {x : Int32} (h : Dc M pc (.istore_n 0) 1 pc') (k : V G M n0 nE Z n ρ pc' (some (.int x) :: t) st S) : V G M n0 nE Z n ρ pc (b :: t) (.int x :: st) S := V_istore_n h (Nat.le_add_left 1 t.length) rfl k

theorem V_as0 {b : Option Value} {t : List (Option Value)} {x : Nat} (h : Dc M pc (.astore_n 0) 1 pc') (k : V G M n0 nE Z n ρ pc' (some (.ref x) :: t) st S) : V G M n0 nE Z n ρ pc (b :: t) (.ref x :: st) S := V_astore_n h (Nat.le_add_left 1 t.length) rfl k

theorem V_ls0 {b b2 : Option Value} {t : List (Option Value)} {x : Int64} (h : Dc M pc (.lstore_n 0) 1 pc') (k : V G M n0 nE Z n ρ pc' (some (.long x) :: none :: t) st S) : V G M n0 nE Z n ρ pc (b :: b2 :: t) (.long x :: st) S := V_lstore_n h (Nat.le_add_left 2 t.length) rfl k

theorem V_ic0 {t : List (Option Value)} {q : Int} {x v : Int32} (h : Dc M pc (.iinc 0 q) 3 pc') (hv : x + Int32.ofInt q = v) (k : V G M n0 nE Z n ρ pc' (some (.int v) :: t) st S) : V G M n0 nE Z n ρ pc (some (.int x) :: t) st S := V_iinc h rfl rfl hv k

theorem V_icN0 {t : List (Option Value)} {x : Nat} (h : Dc M pc (.iinc 0 1) 3 pc') (k : V G M n0 nE Z n ρ pc' (some (.int (nI (x + 1))) :: t) st S) : V G M n0 nE Z n ρ pc (some (.int (nI x)) :: t) st S := V_iinc h rfl rfl (nI_1 x) k

theorem V_icM0 {t : List (Option Value)} {x : Nat} (h : Dc M pc (.iinc 0 (-1)) 3 pc') (k : V G M n0 nE Z n ρ pc' (some (.int (nI x)) :: t) st S) : V G M n0 nE Z n ρ pc (some (.int (nI (x + 1))) :: t) st S := V_iinc h rfl rfl (pk_m1 x) k

theorem V_il1 {a0 : Option Value} {t : List (Option Value)} {x : Int32} (h : Dc M pc (.iload_n 1) 1 pc') (k : V G M n0 nE Z n ρ pc' (a0 :: some (.int x) :: t) (.int x :: st) S) : V G M n0 nE Z n ρ pc (a0 :: some (.int x) :: t) st S := V_iload_n h rfl k

theorem V_al1 {a0 : Option Value} {t : List (Option Value)} {x : Nat} (h : Dc M pc (.aload_n 1) 1 pc') (k : V G M n0 nE Z n ρ pc' (a0 :: some (.ref x) :: t) (.ref x :: st) S) : V G M n0 nE Z n ρ pc (a0 :: some (.ref x) :: t) st S := V_aload_n h rfl k

theorem V_ll1 {a0 : Option Value} {t : List (Option Value)} {x : Int64} (h : Dc M pc (.lload_n 1) 1 pc') (k : V G M n0 nE Z n ρ pc' (a0 :: some (.long x) :: t) (.long x :: st) S) : V G M n0 nE Z n ρ pc (a0 :: some (.long x) :: t) st S := V_lload_n h rfl k

theorem V_is1 {a0 : Option Value} {b : Option Value} {t : List (Option Value)} {x : Int32} (h : Dc M pc (.istore_n 1) 1 pc') (hc : nl2 a0 = true) (k : V G M n0 nE Z n ρ pc' (a0 :: some (.int x) :: t) st S) : V G M n0 nE Z n ρ pc (a0 :: b :: t) (.int x :: st) S := V_istore_n h (Nat.le_add_left 2 t.length) hc k

theorem V_as1 {a0 : Option Value} {b : Option Value} {t : List (Option Value)} {x : Nat} (h : Dc M pc (.astore_n 1) 1 pc') (hc : nl2 a0 = true) (k : V G M n0 nE Z n ρ pc' (a0 :: some (.ref x) :: t) st S) : V G M n0 nE Z n ρ pc (a0 :: b :: t) (.ref x :: st) S := V_astore_n h (Nat.le_add_left 2 t.length) hc k

theorem V_ls1 {a0 : Option Value} {b b2 : Option Value} {t : List (Option Value)} {x : Int64} (h : Dc M pc (.lstore_n 1) 1 pc') (hc : nl2 a0 = true) (k : V G M n0 nE Z n ρ pc' (a0 :: some (.long x) :: none :: t) st S) : V G M n0 nE Z n ρ pc (a0 :: b :: b2 :: t) (.long x :: st) S := V_lstore_n h (Nat.le_add_left 3 t.length) hc k

theorem V_ic1 {a0 : Option Value} {t : List (Option Value)} {q : Int} {x v : Int32} (h : Dc M pc (.iinc 1 q) 3 pc') (hc : nl2 a0 = true) (hv : x + Int32.ofInt q = v) (k : V G M n0 nE Z n ρ pc' (a0 :: some (.int v) :: t) st S) : V G M n0 nE Z n ρ pc (a0 :: some (.int x) :: t) st S := V_iinc h rfl hc hv k

theorem V_icN1 {a0 : Option Value} {t : List (Option Value)} {x : Nat} (h : Dc M pc (.iinc 1 1) 3 pc') (hc : nl2 a0 = true) (k : V G M n0 nE Z n ρ pc' (a0 :: some (.int (nI (x + 1))) :: t) st S) : V G M n0 nE Z n ρ pc (a0 :: some (.int (nI x)) :: t) st S := V_iinc h rfl hc (nI_1 x) k

theorem V_icM1 {a0 : Option Value} {t : List (Option Value)} {x : Nat} (h : Dc M pc (.iinc 1 (-1)) 3 pc') (hc : nl2 a0 = true) (k : V G M n0 nE Z n ρ pc' (a0 :: some (.int (nI x)) :: t) st S) : V G M n0 nE Z n ρ pc (a0 :: some (.int (nI (x + 1))) :: t) st S := V_iinc h rfl hc (pk_m1 x) k

theorem V_il2 {a0 a1 : Option Value} {t : List (Option Value)} {x : Int32} (h : Dc M pc (.iload_n 2) 1 pc') (k : V G M n0 nE Z n ρ pc' (a0 :: a1 :: some (.int x) :: t) (.int x :: st) S) : V G M n0 nE Z n ρ pc (a0 :: a1 :: some (.int x) :: t) st S := V_iload_n h rfl k

theorem V_al2 {a0 a1 : Option Value} {t : List (Option Value)} {x : Nat} (h : Dc M pc (.aload_n 2) 1 pc') (k : V G M n0 nE Z n ρ pc' (a0 :: a1 :: some (.ref x) :: t) (.ref x :: st) S) : V G M n0 nE Z n ρ pc (a0 :: a1 :: some (.ref x) :: t) st S := V_aload_n h rfl k

theorem V_ll2 {a0 a1 : Option Value} {t : List (Option Value)} {x : Int64} (h : Dc M pc (.lload_n 2) 1 pc') (k : V G M n0 nE Z n ρ pc' (a0 :: a1 :: some (.long x) :: t) (.long x :: st) S) : V G M n0 nE Z n ρ pc (a0 :: a1 :: some (.long x) :: t) st S := V_lload_n h rfl k

theorem V_is2 {a0 a1 : Option Value} {b : Option Value} {t : List (Option Value)} {x : Int32} (h : Dc M pc (.istore_n 2) 1 pc') (hc : nl2 a1 = true) (k : V G M n0 nE Z n ρ pc' (a0 :: a1 :: some (.int x) :: t) st S) : V G M n0 nE Z n ρ pc (a0 :: a1 :: b :: t) (.int x :: st) S := V_istore_n h (Nat.le_add_left 3 t.length) hc k

theorem V_as2 {a0 a1 : Option Value} {b : Option Value} {t : List (Option Value)} {x : Nat} (h : Dc M pc (.astore_n 2) 1 pc') (hc : nl2 a1 = true) (k : V G M n0 nE Z n ρ pc' (a0 :: a1 :: some (.ref x) :: t) st S) : V G M n0 nE Z n ρ pc (a0 :: a1 :: b :: t) (.ref x :: st) S := V_astore_n h (Nat.le_add_left 3 t.length) hc k

theorem V_ls2 {a0 a1 : Option Value} {b b2 : Option Value} {t : List (Option Value)} {x : Int64} (h : Dc M pc (.lstore_n 2) 1 pc') (hc : nl2 a1 = true) (k : V G M n0 nE Z n ρ pc' (a0 :: a1 :: some (.long x) :: none :: t) st S) : V G M n0 nE Z n ρ pc (a0 :: a1 :: b :: b2 :: t) (.long x :: st) S := V_lstore_n h (Nat.le_add_left 4 t.length) hc k

theorem V_ic2 {a0 a1 : Option Value} {t : List (Option Value)} {q : Int} {x v : Int32} (h : Dc M pc (.iinc 2 q) 3 pc') (hc : nl2 a1 = true) (hv : x + Int32.ofInt q = v) (k : V G M n0 nE Z n ρ pc' (a0 :: a1 :: some (.int v) :: t) st S) : V G M n0 nE Z n ρ pc (a0 :: a1 :: some (.int x) :: t) st S := V_iinc h rfl hc hv k

theorem V_icN2 {a0 a1 : Option Value} {t : List (Option Value)} {x : Nat} (h : Dc M pc (.iinc 2 1) 3 pc') (hc : nl2 a1 = true) (k : V G M n0 nE Z n ρ pc' (a0 :: a1 :: some (.int (nI (x + 1))) :: t) st S) : V G M n0 nE Z n ρ pc (a0 :: a1 :: some (.int (nI x)) :: t) st S := V_iinc h rfl hc (nI_1 x) k

theorem V_icM2 {a0 a1 : Option Value} {t : List (Option Value)} {x : Nat} (h : Dc M pc (.iinc 2 (-1)) 3 pc') (hc : nl2 a1 = true) (k : V G M n0 nE Z n ρ pc' (a0 :: a1 :: some (.int (nI x)) :: t) st S) : V G M n0 nE Z n ρ pc (a0 :: a1 :: some (.int (nI (x + 1))) :: t) st S := V_iinc h rfl hc (pk_m1 x) k

theorem V_il3 {a0 a1 a2 : Option Value} {t : List (Option Value)} {x : Int32} (h : Dc M pc (.iload_n 3) 1 pc') (k : V G M n0 nE Z n ρ pc' (a0 :: a1 :: a2 :: some (.int x) :: t) (.int x :: st) S) : V G M n0 nE Z n ρ pc (a0 :: a1 :: a2 :: some (.int x) :: t) st S := V_iload_n h rfl k

theorem V_al3 {a0 a1 a2 : Option Value} {t : List (Option Value)} {x : Nat} (h : Dc M pc (.aload_n 3) 1 pc') (k : V G M n0 nE Z n ρ pc' (a0 :: a1 :: a2 :: some (.ref x) :: t) (.ref x :: st) S) : V G M n0 nE Z n ρ pc (a0 :: a1 :: a2 :: some (.ref x) :: t) st S := V_aload_n h rfl k

theorem V_ll3 {a0 a1 a2 : Option Value} {t : List (Option Value)} {x : Int64} (h : Dc M pc (.lload_n 3) 1 pc') (k : V G M n0 nE Z n ρ pc' (a0 :: a1 :: a2 :: some (.long x) :: t) (.long x :: st) S) : V G M n0 nE Z n ρ pc (a0 :: a1 :: a2 :: some (.long x) :: t) st S := V_lload_n h rfl k

theorem V_is3 {a0 a1 a2 : Option Value} {b : Option Value} {t : List (Option Value)} {x : Int32} (h : Dc M pc (.istore_n 3) 1 pc') (hc : nl2 a2 = true) (k : V G M n0 nE Z n ρ pc' (a0 :: a1 :: a2 :: some (.int x) :: t) st S) : V G M n0 nE Z n ρ pc (a0 :: a1 :: a2 :: b :: t) (.int x :: st) S := V_istore_n h (Nat.le_add_left 4 t.length) hc k

theorem V_as3 {a0 a1 a2 : Option Value} {b : Option Value} {t : List (Option Value)} {x : Nat} (h : Dc M pc (.astore_n 3) 1 pc') (hc : nl2 a2 = true) (k : V G M n0 nE Z n ρ pc' (a0 :: a1 :: a2 :: some (.ref x) :: t) st S) : V G M n0 nE Z n ρ pc (a0 :: a1 :: a2 :: b :: t) (.ref x :: st) S := V_astore_n h (Nat.le_add_left 4 t.length) hc k

theorem V_ls3 {a0 a1 a2 : Option Value} {b b2 : Option Value} {t : List (Option Value)} {x : Int64} (h : Dc M pc (.lstore_n 3) 1 pc') (hc : nl2 a2 = true) (k : V G M n0 nE Z n ρ pc' (a0 :: a1 :: a2 :: some (.long x) :: none :: t) st S) : V G M n0 nE Z n ρ pc (a0 :: a1 :: a2 :: b :: b2 :: t) (.long x :: st) S := V_lstore_n h (Nat.le_add_left 5 t.length) hc k

theorem V_ic3 {a0 a1 a2 : Option Value} {t : List (Option Value)} {q : Int} {x v : Int32} (h : Dc M pc (.iinc 3 q) 3 pc') (hc : nl2 a2 = true) (hv : x + Int32.ofInt q = v) (k : V G M n0 nE Z n ρ pc' (a0 :: a1 :: a2 :: some (.int v) :: t) st S) : V G M n0 nE Z n ρ pc (a0 :: a1 :: a2 :: some (.int x) :: t) st S := V_iinc h rfl hc hv k

theorem V_icN3 {a0 a1 a2 : Option Value} {t : List (Option Value)} {x : Nat} (h : Dc M pc (.iinc 3 1) 3 pc') (hc : nl2 a2 = true) (k : V G M n0 nE Z n ρ pc' (a0 :: a1 :: a2 :: some (.int (nI (x + 1))) :: t) st S) : V G M n0 nE Z n ρ pc (a0 :: a1 :: a2 :: some (.int (nI x)) :: t) st S := V_iinc h rfl hc (nI_1 x) k

theorem V_icM3 {a0 a1 a2 : Option Value} {t : List (Option Value)} {x : Nat} (h : Dc M pc (.iinc 3 (-1)) 3 pc') (hc : nl2 a2 = true) (k : V G M n0 nE Z n ρ pc' (a0 :: a1 :: a2 :: some (.int (nI x)) :: t) st S) : V G M n0 nE Z n ρ pc (a0 :: a1 :: a2 :: some (.int (nI (x + 1))) :: t) st S := V_iinc h rfl hc (pk_m1 x) k

theorem V_il4 {a0 a1 a2 a3 : Option Value} {t : List (Option Value)} {x : Int32} (h : Dc M pc (.iload 4) 2 pc') (k : V G M n0 nE Z n ρ pc' (a0 :: a1 :: a2 :: a3 :: some (.int x) :: t) (.int x :: st) S) : V G M n0 nE Z n ρ pc (a0 :: a1 :: a2 :: a3 :: some (.int x) :: t) st S := V_iload h rfl k

theorem V_al4 {a0 a1 a2 a3 : Option Value} {t : List (Option Value)} {x : Nat} (h : Dc M pc (.aload 4) 2 pc') (k : V G M n0 nE Z n ρ pc' (a0 :: a1 :: a2 :: a3 :: some (.ref x) :: t) (.ref x :: st) S) : V G M n0 nE Z n ρ pc (a0 :: a1 :: a2 :: a3 :: some (.ref x) :: t) st S := V_aload h rfl k

theorem V_ll4 {a0 a1 a2 a3 : Option Value} {t : List (Option Value)} {x : Int64} (h : Dc M pc (.lload 4) 2 pc') (k : V G M n0 nE Z n ρ pc' (a0 :: a1 :: a2 :: a3 :: some (.long x) :: t) (.long x :: st) S) : V G M n0 nE Z n ρ pc (a0 :: a1 :: a2 :: a3 :: some (.long x) :: t) st S := V_lload h rfl k

theorem V_is4 {a0 a1 a2 a3 : Option Value} {b : Option Value} {t : List (Option Value)} {x : Int32} (h : Dc M pc (.istore 4) 2 pc') (hc : nl2 a3 = true) (k : V G M n0 nE Z n ρ pc' (a0 :: a1 :: a2 :: a3 :: some (.int x) :: t) st S) : V G M n0 nE Z n ρ pc (a0 :: a1 :: a2 :: a3 :: b :: t) (.int x :: st) S := V_istore h (Nat.le_add_left 5 t.length) hc k

theorem V_ls4 {a0 a1 a2 a3 : Option Value} {b b2 : Option Value} {t : List (Option Value)} {x : Int64} (h : Dc M pc (.lstore 4) 2 pc') (hc : nl2 a3 = true) (k : V G M n0 nE Z n ρ pc' (a0 :: a1 :: a2 :: a3 :: some (.long x) :: none :: t) st S) : V G M n0 nE Z n ρ pc (a0 :: a1 :: a2 :: a3 :: b :: b2 :: t) (.long x :: st) S := V_lstore h (Nat.le_add_left 6 t.length) hc k

theorem V_ic4 {a0 a1 a2 a3 : Option Value} {t : List (Option Value)} {q : Int} {x v : Int32} (h : Dc M pc (.iinc 4 q) 3 pc') (hc : nl2 a3 = true) (hv : x + Int32.ofInt q = v) (k : V G M n0 nE Z n ρ pc' (a0 :: a1 :: a2 :: a3 :: some (.int v) :: t) st S) : V G M n0 nE Z n ρ pc (a0 :: a1 :: a2 :: a3 :: some (.int x) :: t) st S := V_iinc h rfl hc hv k

theorem V_icN4 {a0 a1 a2 a3 : Option Value} {t : List (Option Value)} {x : Nat} (h : Dc M pc (.iinc 4 1) 3 pc') (hc : nl2 a3 = true) (k : V G M n0 nE Z n ρ pc' (a0 :: a1 :: a2 :: a3 :: some (.int (nI (x + 1))) :: t) st S) : V G M n0 nE Z n ρ pc (a0 :: a1 :: a2 :: a3 :: some (.int (nI x)) :: t) st S := V_iinc h rfl hc (nI_1 x) k

theorem V_icM4 {a0 a1 a2 a3 : Option Value} {t : List (Option Value)} {x : Nat} (h : Dc M pc (.iinc 4 (-1)) 3 pc') (hc : nl2 a3 = true) (k : V G M n0 nE Z n ρ pc' (a0 :: a1 :: a2 :: a3 :: some (.int (nI x)) :: t) st S) : V G M n0 nE Z n ρ pc (a0 :: a1 :: a2 :: a3 :: some (.int (nI (x + 1))) :: t) st S := V_iinc h rfl hc (pk_m1 x) k

theorem V_il5 {a0 a1 a2 a3 a4 : Option Value} {t : List (Option Value)} {x : Int32} (h : Dc M pc (.iload 5) 2 pc') (k : V G M n0 nE Z n ρ pc' (a0 :: a1 :: a2 :: a3 :: a4 :: some (.int x) :: t) (.int x :: st) S) : V G M n0 nE Z n ρ pc (a0 :: a1 :: a2 :: a3 :: a4 :: some (.int x) :: t) st S := V_iload h rfl k

theorem V_al5 {a0 a1 a2 a3 a4 : Option Value} {t : List (Option Value)} {x : Nat} (h : Dc M pc (.aload 5) 2 pc') (k : V G M n0 nE Z n ρ pc' (a0 :: a1 :: a2 :: a3 :: a4 :: some (.ref x) :: t) (.ref x :: st) S) : V G M n0 nE Z n ρ pc (a0 :: a1 :: a2 :: a3 :: a4 :: some (.ref x) :: t) st S := V_aload h rfl k

theorem V_ll5 {a0 a1 a2 a3 a4 : Option Value} {t : List (Option Value)} {x : Int64} (h : Dc M pc (.lload 5) 2 pc') (k : V G M n0 nE Z n ρ pc' (a0 :: a1 :: a2 :: a3 :: a4 :: some (.long x) :: t) (.long x :: st) S) : V G M n0 nE Z n ρ pc (a0 :: a1 :: a2 :: a3 :: a4 :: some (.long x) :: t) st S := V_lload h rfl k

theorem V_is5 {a0 a1 a2 a3 a4 : Option Value} {b : Option Value} {t : List (Option Value)} {x : Int32} (h : Dc M pc (.istore 5) 2 pc') (hc : nl2 a4 = true) (k : V G M n0 nE Z n ρ pc' (a0 :: a1 :: a2 :: a3 :: a4 :: some (.int x) :: t) st S) : V G M n0 nE Z n ρ pc (a0 :: a1 :: a2 :: a3 :: a4 :: b :: t) (.int x :: st) S := V_istore h (Nat.le_add_left 6 t.length) hc k

theorem V_ls5 {a0 a1 a2 a3 a4 : Option Value} {b b2 : Option Value} {t : List (Option Value)} {x : Int64} (h : Dc M pc (.lstore 5) 2 pc') (hc : nl2 a4 = true) (k : V G M n0 nE Z n ρ pc' (a0 :: a1 :: a2 :: a3 :: a4 :: some (.long x) :: none :: t) st S) : V G M n0 nE Z n ρ pc (a0 :: a1 :: a2 :: a3 :: a4 :: b :: b2 :: t) (.long x :: st) S := V_lstore h (Nat.le_add_left 7 t.length) hc k

theorem V_ic5 {a0 a1 a2 a3 a4 : Option Value} {t : List (Option Value)} {q : Int} {x v : Int32} (h : Dc M pc (.iinc 5 q) 3 pc') (hc : nl2 a4 = true) (hv : x + Int32.ofInt q = v) (k : V G M n0 nE Z n ρ pc' (a0 :: a1 :: a2 :: a3 :: a4 :: some (.int v) :: t) st S) : V G M n0 nE Z n ρ pc (a0 :: a1 :: a2 :: a3 :: a4 :: some (.int x) :: t) st S := V_iinc h rfl hc hv k

theorem V_icN5 {a0 a1 a2 a3 a4 : Option Value} {t : List (Option Value)} {x : Nat} (h : Dc M pc (.iinc 5 1) 3 pc') (hc : nl2 a4 = true) (k : V G M n0 nE Z n ρ pc' (a0 :: a1 :: a2 :: a3 :: a4 :: some (.int (nI (x + 1))) :: t) st S) : V G M n0 nE Z n ρ pc (a0 :: a1 :: a2 :: a3 :: a4 :: some (.int (nI x)) :: t) st S := V_iinc h rfl hc (nI_1 x) k

theorem V_icM5 {a0 a1 a2 a3 a4 : Option Value} {t : List (Option Value)} {x : Nat} (h : Dc M pc (.iinc 5 (-1)) 3 pc') (hc : nl2 a4 = true) (k : V G M n0 nE Z n ρ pc' (a0 :: a1 :: a2 :: a3 :: a4 :: some (.int (nI x)) :: t) st S) : V G M n0 nE Z n ρ pc (a0 :: a1 :: a2 :: a3 :: a4 :: some (.int (nI (x + 1))) :: t) st S := V_iinc h rfl hc (pk_m1 x) k

theorem V_il6 {a0 a1 a2 a3 a4 a5 : Option Value} {t : List (Option Value)} {x : Int32} (h : Dc M pc (.iload 6) 2 pc') (k : V G M n0 nE Z n ρ pc' (a0 :: a1 :: a2 :: a3 :: a4 :: a5 :: some (.int x) :: t) (.int x :: st) S) : V G M n0 nE Z n ρ pc (a0 :: a1 :: a2 :: a3 :: a4 :: a5 :: some (.int x) :: t) st S := V_iload h rfl k

theorem V_al6 {a0 a1 a2 a3 a4 a5 : Option Value} {t : List (Option Value)} {x : Nat} (h : Dc M pc (.aload 6) 2 pc') (k : V G M n0 nE Z n ρ pc' (a0 :: a1 :: a2 :: a3 :: a4 :: a5 :: some (.ref x) :: t) (.ref x :: st) S) : V G M n0 nE Z n ρ pc (a0 :: a1 :: a2 :: a3 :: a4 :: a5 :: some (.ref x) :: t) st S := V_aload h rfl k

theorem V_ll6 {a0 a1 a2 a3 a4 a5 : Option Value} {t : List (Option Value)} {x : Int64} (h : Dc M pc (.lload 6) 2 pc') (k : V G M n0 nE Z n ρ pc' (a0 :: a1 :: a2 :: a3 :: a4 :: a5 :: some (.long x) :: t) (.long x :: st) S) : V G M n0 nE Z n ρ pc (a0 :: a1 :: a2 :: a3 :: a4 :: a5 :: some (.long x) :: t) st S := V_lload h rfl k

theorem V_is6 {a0 a1 a2 a3 a4 a5 : Option Value} {b : Option Value} {t : List (Option Value)} {x : Int32} (h : Dc M pc (.istore 6) 2 pc') (hc : nl2 a5 = true) (k : V G M n0 nE Z n ρ pc' (a0 :: a1 :: a2 :: a3 :: a4 :: a5 :: some (.int x) :: t) st S) : V G M n0 nE Z n ρ pc (a0 :: a1 :: a2 :: a3 :: a4 :: a5 :: b :: t) (.int x :: st) S := V_istore h (Nat.le_add_left 7 t.length) hc k

theorem V_ls6 {a0 a1 a2 a3 a4 a5 : Option Value} {b b2 : Option Value} {t : List (Option Value)} {x : Int64} (h : Dc M pc (.lstore 6) 2 pc') (hc : nl2 a5 = true) (k : V G M n0 nE Z n ρ pc' (a0 :: a1 :: a2 :: a3 :: a4 :: a5 :: some (.long x) :: none :: t) st S) : V G M n0 nE Z n ρ pc (a0 :: a1 :: a2 :: a3 :: a4 :: a5 :: b :: b2 :: t) (.long x :: st) S := V_lstore h (Nat.le_add_left 8 t.length) hc k

theorem V_ic6 {a0 a1 a2 a3 a4 a5 : Option Value} {t : List (Option Value)} {q : Int} {x v : Int32} (h : Dc M pc (.iinc 6 q) 3 pc') (hc : nl2 a5 = true) (hv : x + Int32.ofInt q = v) (k : V G M n0 nE Z n ρ pc' (a0 :: a1 :: a2 :: a3 :: a4 :: a5 :: some (.int v) :: t) st S) : V G M n0 nE Z n ρ pc (a0 :: a1 :: a2 :: a3 :: a4 :: a5 :: some (.int x) :: t) st S := V_iinc h rfl hc hv k

theorem V_icN6 {a0 a1 a2 a3 a4 a5 : Option Value} {t : List (Option Value)} {x : Nat} (h : Dc M pc (.iinc 6 1) 3 pc') (hc : nl2 a5 = true) (k : V G M n0 nE Z n ρ pc' (a0 :: a1 :: a2 :: a3 :: a4 :: a5 :: some (.int (nI (x + 1))) :: t) st S) : V G M n0 nE Z n ρ pc (a0 :: a1 :: a2 :: a3 :: a4 :: a5 :: some (.int (nI x)) :: t) st S := V_iinc h rfl hc (nI_1 x) k

theorem V_icM6 {a0 a1 a2 a3 a4 a5 : Option Value} {t : List (Option Value)} {x : Nat} (h : Dc M pc (.iinc 6 (-1)) 3 pc') (hc : nl2 a5 = true) (k : V G M n0 nE Z n ρ pc' (a0 :: a1 :: a2 :: a3 :: a4 :: a5 :: some (.int (nI x)) :: t) st S) : V G M n0 nE Z n ρ pc (a0 :: a1 :: a2 :: a3 :: a4 :: a5 :: some (.int (nI (x + 1))) :: t) st S := V_iinc h rfl hc (pk_m1 x) k

theorem V_il7 {a0 a1 a2 a3 a4 a5 a6 : Option Value} {t : List (Option Value)} {x : Int32} (h : Dc M pc (.iload 7) 2 pc') (k : V G M n0 nE Z n ρ pc' (a0 :: a1 :: a2 :: a3 :: a4 :: a5 :: a6 :: some (.int x) :: t) (.int x :: st) S) : V G M n0 nE Z n ρ pc (a0 :: a1 :: a2 :: a3 :: a4 :: a5 :: a6 :: some (.int x) :: t) st S := V_iload h rfl k

theorem V_al7 {a0 a1 a2 a3 a4 a5 a6 : Option Value} {t : List (Option Value)} {x : Nat} (h : Dc M pc (.aload 7) 2 pc') (k : V G M n0 nE Z n ρ pc' (a0 :: a1 :: a2 :: a3 :: a4 :: a5 :: a6 :: some (.ref x) :: t) (.ref x :: st) S) : V G M n0 nE Z n ρ pc (a0 :: a1 :: a2 :: a3 :: a4 :: a5 :: a6 :: some (.ref x) :: t) st S := V_aload h rfl k

theorem V_ll7 {a0 a1 a2 a3 a4 a5 a6 : Option Value} {t : List (Option Value)} {x : Int64} (h : Dc M pc (.lload 7) 2 pc') (k : V G M n0 nE Z n ρ pc' (a0 :: a1 :: a2 :: a3 :: a4 :: a5 :: a6 :: some (.long x) :: t) (.long x :: st) S) : V G M n0 nE Z n ρ pc (a0 :: a1 :: a2 :: a3 :: a4 :: a5 :: a6 :: some (.long x) :: t) st S := V_lload h rfl k

theorem V_is7 {a0 a1 a2 a3 a4 a5 a6 : Option Value} {b : Option Value} {t : List (Option Value)} {x : Int32} (h : Dc M pc (.istore 7) 2 pc') (hc : nl2 a6 = true) (k : V G M n0 nE Z n ρ pc' (a0 :: a1 :: a2 :: a3 :: a4 :: a5 :: a6 :: some (.int x) :: t) st S) : V G M n0 nE Z n ρ pc (a0 :: a1 :: a2 :: a3 :: a4 :: a5 :: a6 :: b :: t) (.int x :: st) S := V_istore h (Nat.le_add_left 8 t.length) hc k

theorem V_ls7 {a0 a1 a2 a3 a4 a5 a6 : Option Value} {b b2 : Option Value} {t : List (Option Value)} {x : Int64} (h : Dc M pc (.lstore 7) 2 pc') (hc : nl2 a6 = true) (k : V G M n0 nE Z n ρ pc' (a0 :: a1 :: a2 :: a3 :: a4 :: a5 :: a6 :: some (.long x) :: none :: t) st S) : V G M n0 nE Z n ρ pc (a0 :: a1 :: a2 :: a3 :: a4 :: a5 :: a6 :: b :: b2 :: t) (.long x :: st) S := V_lstore h (Nat.le_add_left 9 t.length) hc k

theorem V_ic7 {a0 a1 a2 a3 a4 a5 a6 : Option Value} {t : List (Option Value)} {q : Int} {x v : Int32} (h : Dc M pc (.iinc 7 q) 3 pc') (hc : nl2 a6 = true) (hv : x + Int32.ofInt q = v) (k : V G M n0 nE Z n ρ pc' (a0 :: a1 :: a2 :: a3 :: a4 :: a5 :: a6 :: some (.int v) :: t) st S) : V G M n0 nE Z n ρ pc (a0 :: a1 :: a2 :: a3 :: a4 :: a5 :: a6 :: some (.int x) :: t) st S := V_iinc h rfl hc hv k

theorem V_icN7 {a0 a1 a2 a3 a4 a5 a6 : Option Value} {t : List (Option Value)} {x : Nat} (h : Dc M pc (.iinc 7 1) 3 pc') (hc : nl2 a6 = true) (k : V G M n0 nE Z n ρ pc' (a0 :: a1 :: a2 :: a3 :: a4 :: a5 :: a6 :: some (.int (nI (x + 1))) :: t) st S) : V G M n0 nE Z n ρ pc (a0 :: a1 :: a2 :: a3 :: a4 :: a5 :: a6 :: some (.int (nI x)) :: t) st S := V_iinc h rfl hc (nI_1 x) k

theorem V_icM7 {a0 a1 a2 a3 a4 a5 a6 : Option Value} {t : List (Option Value)} {x : Nat} (h : Dc M pc (.iinc 7 (-1)) 3 pc') (hc : nl2 a6 = true) (k : V G M n0 nE Z n ρ pc' (a0 :: a1 :: a2 :: a3 :: a4 :: a5 :: a6 :: some (.int (nI x)) :: t) st S) : V G M n0 nE Z n ρ pc (a0 :: a1 :: a2 :: a3 :: a4 :: a5 :: a6 :: some (.int (nI (x + 1))) :: t) st S := V_iinc h rfl hc (pk_m1 x) k

theorem V_il8 {a0 a1 a2 a3 a4 a5 a6 a7 : Option Value} {t : List (Option Value)} {x : Int32} (h : Dc M pc (.iload 8) 2 pc') (k : V G M n0 nE Z n ρ pc' (a0 :: a1 :: a2 :: a3 :: a4 :: a5 :: a6 :: a7 :: some (.int x) :: t) (.int x :: st) S) : V G M n0 nE Z n ρ pc (a0 :: a1 :: a2 :: a3 :: a4 :: a5 :: a6 :: a7 :: some (.int x) :: t) st S := V_iload h rfl k

theorem V_al8 {a0 a1 a2 a3 a4 a5 a6 a7 : Option Value} {t : List (Option Value)} {x : Nat} (h : Dc M pc (.aload 8) 2 pc') (k : V G M n0 nE Z n ρ pc' (a0 :: a1 :: a2 :: a3 :: a4 :: a5 :: a6 :: a7 :: some (.ref x) :: t) (.ref x :: st) S) : V G M n0 nE Z n ρ pc (a0 :: a1 :: a2 :: a3 :: a4 :: a5 :: a6 :: a7 :: some (.ref x) :: t) st S := V_aload h rfl k

theorem V_ll8 {a0 a1 a2 a3 a4 a5 a6 a7 : Option Value} {t : List (Option Value)} {x : Int64} (h : Dc M pc (.lload 8) 2 pc') (k : V G M n0 nE Z n ρ pc' (a0 :: a1 :: a2 :: a3 :: a4 :: a5 :: a6 :: a7 :: some (.long x) :: t) (.long x :: st) S) : V G M n0 nE Z n ρ pc (a0 :: a1 :: a2 :: a3 :: a4 :: a5 :: a6 :: a7 :: some (.long x) :: t) st S := V_lload h rfl k

theorem V_is8 {a0 a1 a2 a3 a4 a5 a6 a7 : Option Value} {b : Option Value} {t : List (Option Value)} {x : Int32} (h : Dc M pc (.istore 8) 2 pc') (hc : nl2 a7 = true) (k : V G M n0 nE Z n ρ pc' (a0 :: a1 :: a2 :: a3 :: a4 :: a5 :: a6 :: a7 :: some (.int x) :: t) st S) : V G M n0 nE Z n ρ pc (a0 :: a1 :: a2 :: a3 :: a4 :: a5 :: a6 :: a7 :: b :: t) (.int x :: st) S := V_istore h (Nat.le_add_left 9 t.length) hc k

theorem V_ls8 {a0 a1 a2 a3 a4 a5 a6 a7 : Option Value} {b b2 : Option Value} {t : List (Option Value)} {x : Int64} (h : Dc M pc (.lstore 8) 2 pc') (hc : nl2 a7 = true) (k : V G M n0 nE Z n ρ pc' (a0 :: a1 :: a2 :: a3 :: a4 :: a5 :: a6 :: a7 :: some (.long x) :: none :: t) st S) : V G M n0 nE Z n ρ pc (a0 :: a1 :: a2 :: a3 :: a4 :: a5 :: a6 :: a7 :: b :: b2 :: t) (.long x :: st) S := V_lstore h (Nat.le_add_left 10 t.length) hc k

theorem V_ic8 {a0 a1 a2 a3 a4 a5 a6 a7 : Option Value} {t : List (Option Value)} {q : Int} {x v : Int32} (h : Dc M pc (.iinc 8 q) 3 pc') (hc : nl2 a7 = true) (hv : x + Int32.ofInt q = v) (k : V G M n0 nE Z n ρ pc' (a0 :: a1 :: a2 :: a3 :: a4 :: a5 :: a6 :: a7 :: some (.int v) :: t) st S) : V G M n0 nE Z n ρ pc (a0 :: a1 :: a2 :: a3 :: a4 :: a5 :: a6 :: a7 :: some (.int x) :: t) st S := V_iinc h rfl hc hv k

theorem V_icN8 {a0 a1 a2 a3 a4 a5 a6 a7 : Option Value} {t : List (Option Value)} {x : Nat} (h : Dc M pc (.iinc 8 1) 3 pc') (hc : nl2 a7 = true) (k : V G M n0 nE Z n ρ pc' (a0 :: a1 :: a2 :: a3 :: a4 :: a5 :: a6 :: a7 :: some (.int (nI (x + 1))) :: t) st S) : V G M n0 nE Z n ρ pc (a0 :: a1 :: a2 :: a3 :: a4 :: a5 :: a6 :: a7 :: some (.int (nI x)) :: t) st S := V_iinc h rfl hc (nI_1 x) k

theorem V_icM8 {a0 a1 a2 a3 a4 a5 a6 a7 : Option Value} {t : List (Option Value)} {x : Nat} (h : Dc M pc (.iinc 8 (-1)) 3 pc') (hc : nl2 a7 = true) (k : V G M n0 nE Z n ρ pc' (a0 :: a1 :: a2 :: a3 :: a4 :: a5 :: a6 :: a7 :: some (.int (nI x)) :: t) st S) : V G M n0 nE Z n ρ pc (a0 :: a1 :: a2 :: a3 :: a4 :: a5 :: a6 :: a7 :: some (.int (nI (x + 1))) :: t) st S := V_iinc h rfl hc (pk_m1 x) k

theorem V_il9 {a0 a1 a2 a3 a4 a5 a6 a7 a8 : Option Value} {t : List (Option Value)} {x : Int32} (h : Dc M pc (.iload 9) 2 pc') (k : V G M n0 nE Z n ρ pc' (a0 :: a1 :: a2 :: a3 :: a4 :: a5 :: a6 :: a7 :: a8 :: some (.int x) :: t) (.int x :: st) S) : V G M n0 nE Z n ρ pc (a0 :: a1 :: a2 :: a3 :: a4 :: a5 :: a6 :: a7 :: a8 :: some (.int x) :: t) st S := V_iload h rfl k

theorem V_al9 {a0 a1 a2 a3 a4 a5 a6 a7 a8 : Option Value} {t : List (Option Value)} {x : Nat} (h : Dc M pc (.aload 9) 2 pc') (k : V G M n0 nE Z n ρ pc' (a0 :: a1 :: a2 :: a3 :: a4 :: a5 :: a6 :: a7 :: a8 :: some (.ref x) :: t) (.ref x :: st) S) : V G M n0 nE Z n ρ pc (a0 :: a1 :: a2 :: a3 :: a4 :: a5 :: a6 :: a7 :: a8 :: some (.ref x) :: t) st S := V_aload h rfl k

theorem V_ll9 {a0 a1 a2 a3 a4 a5 a6 a7 a8 : Option Value} {t : List (Option Value)} {x : Int64} (h : Dc M pc (.lload 9) 2 pc') (k : V G M n0 nE Z n ρ pc' (a0 :: a1 :: a2 :: a3 :: a4 :: a5 :: a6 :: a7 :: a8 :: some (.long x) :: t) (.long x :: st) S) : V G M n0 nE Z n ρ pc (a0 :: a1 :: a2 :: a3 :: a4 :: a5 :: a6 :: a7 :: a8 :: some (.long x) :: t) st S := V_lload h rfl k

theorem V_is9 {a0 a1 a2 a3 a4 a5 a6 a7 a8 : Option Value} {b : Option Value} {t : List (Option Value)} {x : Int32} (h : Dc M pc (.istore 9) 2 pc') (hc : nl2 a8 = true) (k : V G M n0 nE Z n ρ pc' (a0 :: a1 :: a2 :: a3 :: a4 :: a5 :: a6 :: a7 :: a8 :: some (.int x) :: t) st S) : V G M n0 nE Z n ρ pc (a0 :: a1 :: a2 :: a3 :: a4 :: a5 :: a6 :: a7 :: a8 :: b :: t) (.int x :: st) S := V_istore h (Nat.le_add_left 10 t.length) hc k

theorem V_ls9 {a0 a1 a2 a3 a4 a5 a6 a7 a8 : Option Value} {b b2 : Option Value} {t : List (Option Value)} {x : Int64} (h : Dc M pc (.lstore 9) 2 pc') (hc : nl2 a8 = true) (k : V G M n0 nE Z n ρ pc' (a0 :: a1 :: a2 :: a3 :: a4 :: a5 :: a6 :: a7 :: a8 :: some (.long x) :: none :: t) st S) : V G M n0 nE Z n ρ pc (a0 :: a1 :: a2 :: a3 :: a4 :: a5 :: a6 :: a7 :: a8 :: b :: b2 :: t) (.long x :: st) S := V_lstore h (Nat.le_add_left 11 t.length) hc k

theorem V_ic9 {a0 a1 a2 a3 a4 a5 a6 a7 a8 : Option Value} {t : List (Option Value)} {q : Int} {x v : Int32} (h : Dc M pc (.iinc 9 q) 3 pc') (hc : nl2 a8 = true) (hv : x + Int32.ofInt q = v) (k : V G M n0 nE Z n ρ pc' (a0 :: a1 :: a2 :: a3 :: a4 :: a5 :: a6 :: a7 :: a8 :: some (.int v) :: t) st S) : V G M n0 nE Z n ρ pc (a0 :: a1 :: a2 :: a3 :: a4 :: a5 :: a6 :: a7 :: a8 :: some (.int x) :: t) st S := V_iinc h rfl hc hv k

theorem V_icN9 {a0 a1 a2 a3 a4 a5 a6 a7 a8 : Option Value} {t : List (Option Value)} {x : Nat} (h : Dc M pc (.iinc 9 1) 3 pc') (hc : nl2 a8 = true) (k : V G M n0 nE Z n ρ pc' (a0 :: a1 :: a2 :: a3 :: a4 :: a5 :: a6 :: a7 :: a8 :: some (.int (nI (x + 1))) :: t) st S) : V G M n0 nE Z n ρ pc (a0 :: a1 :: a2 :: a3 :: a4 :: a5 :: a6 :: a7 :: a8 :: some (.int (nI x)) :: t) st S := V_iinc h rfl hc (nI_1 x) k

theorem V_icM9 {a0 a1 a2 a3 a4 a5 a6 a7 a8 : Option Value} {t : List (Option Value)} {x : Nat} (h : Dc M pc (.iinc 9 (-1)) 3 pc') (hc : nl2 a8 = true) (k : V G M n0 nE Z n ρ pc' (a0 :: a1 :: a2 :: a3 :: a4 :: a5 :: a6 :: a7 :: a8 :: some (.int (nI x)) :: t) st S) : V G M n0 nE Z n ρ pc (a0 :: a1 :: a2 :: a3 :: a4 :: a5 :: a6 :: a7 :: a8 :: some (.int (nI (x + 1))) :: t) st S := V_iinc h rfl hc (pk_m1 x) k

theorem V_il10 {a0 a1 a2 a3 a4 a5 a6 a7 a8 a9 : Option Value} {t : List (Option Value)} {x : Int32} (h : Dc M pc (.iload 10) 2 pc') (k : V G M n0 nE Z n ρ pc' (a0 :: a1 :: a2 :: a3 :: a4 :: a5 :: a6 :: a7 :: a8 :: a9 :: some (.int x) :: t) (.int x :: st) S) : V G M n0 nE Z n ρ pc (a0 :: a1 :: a2 :: a3 :: a4 :: a5 :: a6 :: a7 :: a8 :: a9 :: some (.int x) :: t) st S := V_iload h rfl k

theorem V_al10 {a0 a1 a2 a3 a4 a5 a6 a7 a8 a9 : Option Value} {t : List (Option Value)} {x : Nat} (h : Dc M pc (.aload 10) 2 pc') (k : V G M n0 nE Z n ρ pc' (a0 :: a1 :: a2 :: a3 :: a4 :: a5 :: a6 :: a7 :: a8 :: a9 :: some (.ref x) :: t) (.ref x :: st) S) : V G M n0 nE Z n ρ pc (a0 :: a1 :: a2 :: a3 :: a4 :: a5 :: a6 :: a7 :: a8 :: a9 :: some (.ref x) :: t) st S := V_aload h rfl k

theorem V_ll10 {a0 a1 a2 a3 a4 a5 a6 a7 a8 a9 : Option Value} {t : List (Option Value)} {x : Int64} (h : Dc M pc (.lload 10) 2 pc') (k : V G M n0 nE Z n ρ pc' (a0 :: a1 :: a2 :: a3 :: a4 :: a5 :: a6 :: a7 :: a8 :: a9 :: some (.long x) :: t) (.long x :: st) S) : V G M n0 nE Z n ρ pc (a0 :: a1 :: a2 :: a3 :: a4 :: a5 :: a6 :: a7 :: a8 :: a9 :: some (.long x) :: t) st S := V_lload h rfl k

theorem V_is10 {a0 a1 a2 a3 a4 a5 a6 a7 a8 a9 : Option Value} {b : Option Value} {t : List (Option Value)} {x : Int32} (h : Dc M pc (.istore 10) 2 pc') (hc : nl2 a9 = true) (k : V G M n0 nE Z n ρ pc' (a0 :: a1 :: a2 :: a3 :: a4 :: a5 :: a6 :: a7 :: a8 :: a9 :: some (.int x) :: t) st S) : V G M n0 nE Z n ρ pc (a0 :: a1 :: a2 :: a3 :: a4 :: a5 :: a6 :: a7 :: a8 :: a9 :: b :: t) (.int x :: st) S := V_istore h (Nat.le_add_left 11 t.length) hc k

theorem V_ls10 {a0 a1 a2 a3 a4 a5 a6 a7 a8 a9 : Option Value} {b b2 : Option Value} {t : List (Option Value)} {x : Int64} (h : Dc M pc (.lstore 10) 2 pc') (hc : nl2 a9 = true) (k : V G M n0 nE Z n ρ pc' (a0 :: a1 :: a2 :: a3 :: a4 :: a5 :: a6 :: a7 :: a8 :: a9 :: some (.long x) :: none :: t) st S) : V G M n0 nE Z n ρ pc (a0 :: a1 :: a2 :: a3 :: a4 :: a5 :: a6 :: a7 :: a8 :: a9 :: b :: b2 :: t) (.long x :: st) S := V_lstore h (Nat.le_add_left 12 t.length) hc k

theorem V_ic10 {a0 a1 a2 a3 a4 a5 a6 a7 a8 a9 : Option Value} {t : List (Option Value)} {q : Int} {x v : Int32} (h : Dc M pc (.iinc 10 q) 3 pc') (hc : nl2 a9 = true) (hv : x + Int32.ofInt q = v) (k : V G M n0 nE Z n ρ pc' (a0 :: a1 :: a2 :: a3 :: a4 :: a5 :: a6 :: a7 :: a8 :: a9 :: some (.int v) :: t) st S) : V G M n0 nE Z n ρ pc (a0 :: a1 :: a2 :: a3 :: a4 :: a5 :: a6 :: a7 :: a8 :: a9 :: some (.int x) :: t) st S := V_iinc h rfl hc hv k

theorem V_icN10 {a0 a1 a2 a3 a4 a5 a6 a7 a8 a9 : Option Value} {t : List (Option Value)} {x : Nat} (h : Dc M pc (.iinc 10 1) 3 pc') (hc : nl2 a9 = true) (k : V G M n0 nE Z n ρ pc' (a0 :: a1 :: a2 :: a3 :: a4 :: a5 :: a6 :: a7 :: a8 :: a9 :: some (.int (nI (x + 1))) :: t) st S) : V G M n0 nE Z n ρ pc (a0 :: a1 :: a2 :: a3 :: a4 :: a5 :: a6 :: a7 :: a8 :: a9 :: some (.int (nI x)) :: t) st S := V_iinc h rfl hc (nI_1 x) k

theorem V_icM10 {a0 a1 a2 a3 a4 a5 a6 a7 a8 a9 : Option Value} {t : List (Option Value)} {x : Nat} (h : Dc M pc (.iinc 10 (-1)) 3 pc') (hc : nl2 a9 = true) (k : V G M n0 nE Z n ρ pc' (a0 :: a1 :: a2 :: a3 :: a4 :: a5 :: a6 :: a7 :: a8 :: a9 :: some (.int (nI x)) :: t) st S) : V G M n0 nE Z n ρ pc (a0 :: a1 :: a2 :: a3 :: a4 :: a5 :: a6 :: a7 :: a8 :: a9 :: some (.int (nI (x + 1))) :: t) st S := V_iinc h rfl hc (pk_m1 x) k

theorem V_il11 {a0 a1 a2 a3 a4 a5 a6 a7 a8 a9 a10 : Option Value} {t : List (Option Value)} {x : Int32} (h : Dc M pc (.iload 11) 2 pc') (k : V G M n0 nE Z n ρ pc' (a0 :: a1 :: a2 :: a3 :: a4 :: a5 :: a6 :: a7 :: a8 :: a9 :: a10 :: some (.int x) :: t) (.int x :: st) S) : V G M n0 nE Z n ρ pc (a0 :: a1 :: a2 :: a3 :: a4 :: a5 :: a6 :: a7 :: a8 :: a9 :: a10 :: some (.int x) :: t) st S := V_iload h rfl k

theorem V_al11 {a0 a1 a2 a3 a4 a5 a6 a7 a8 a9 a10 : Option Value} {t : List (Option Value)} {x : Nat} (h : Dc M pc (.aload 11) 2 pc') (k : V G M n0 nE Z n ρ pc' (a0 :: a1 :: a2 :: a3 :: a4 :: a5 :: a6 :: a7 :: a8 :: a9 :: a10 :: some (.ref x) :: t) (.ref x :: st) S) : V G M n0 nE Z n ρ pc (a0 :: a1 :: a2 :: a3 :: a4 :: a5 :: a6 :: a7 :: a8 :: a9 :: a10 :: some (.ref x) :: t) st S := V_aload h rfl k

theorem V_ll11 {a0 a1 a2 a3 a4 a5 a6 a7 a8 a9 a10 : Option Value} {t : List (Option Value)} {x : Int64} (h : Dc M pc (.lload 11) 2 pc') (k : V G M n0 nE Z n ρ pc' (a0 :: a1 :: a2 :: a3 :: a4 :: a5 :: a6 :: a7 :: a8 :: a9 :: a10 :: some (.long x) :: t) (.long x :: st) S) : V G M n0 nE Z n ρ pc (a0 :: a1 :: a2 :: a3 :: a4 :: a5 :: a6 :: a7 :: a8 :: a9 :: a10 :: some (.long x) :: t) st S := V_lload h rfl k

theorem V_is11 {a0 a1 a2 a3 a4 a5 a6 a7 a8 a9 a10 : Option Value} {b : Option Value} {t : List (Option Value)} {x : Int32} (h : Dc M pc (.istore 11) 2 pc') (hc : nl2 a10 = true) (k : V G M n0 nE Z n ρ pc' (a0 :: a1 :: a2 :: a3 :: a4 :: a5 :: a6 :: a7 :: a8 :: a9 :: a10 :: some (.int x) :: t) st S) : V G M n0 nE Z n ρ pc (a0 :: a1 :: a2 :: a3 :: a4 :: a5 :: a6 :: a7 :: a8 :: a9 :: a10 :: b :: t) (.int x :: st) S := V_istore h (Nat.le_add_left 12 t.length) hc k

theorem V_ls11 {a0 a1 a2 a3 a4 a5 a6 a7 a8 a9 a10 : Option Value} {b b2 : Option Value} {t : List (Option Value)} {x : Int64} (h : Dc M pc (.lstore 11) 2 pc') (hc : nl2 a10 = true) (k : V G M n0 nE Z n ρ pc' (a0 :: a1 :: a2 :: a3 :: a4 :: a5 :: a6 :: a7 :: a8 :: a9 :: a10 :: some (.long x) :: none :: t) st S) : V G M n0 nE Z n ρ pc (a0 :: a1 :: a2 :: a3 :: a4 :: a5 :: a6 :: a7 :: a8 :: a9 :: a10 :: b :: b2 :: t) (.long x :: st) S := V_lstore h (Nat.le_add_left 13 t.length) hc k

theorem V_ic11 {a0 a1 a2 a3 a4 a5 a6 a7 a8 a9 a10 : Option Value} {t : List (Option Value)} {q : Int} {x v : Int32} (h : Dc M pc (.iinc 11 q) 3 pc') (hc : nl2 a10 = true) (hv : x + Int32.ofInt q = v) (k : V G M n0 nE Z n ρ pc' (a0 :: a1 :: a2 :: a3 :: a4 :: a5 :: a6 :: a7 :: a8 :: a9 :: a10 :: some (.int v) :: t) st S) : V G M n0 nE Z n ρ pc (a0 :: a1 :: a2 :: a3 :: a4 :: a5 :: a6 :: a7 :: a8 :: a9 :: a10 :: some (.int x) :: t) st S := V_iinc h rfl hc hv k

theorem V_icN11 {a0 a1 a2 a3 a4 a5 a6 a7 a8 a9 a10 : Option Value} {t : List (Option Value)} {x : Nat} (h : Dc M pc (.iinc 11 1) 3 pc') (hc : nl2 a10 = true) (k : V G M n0 nE Z n ρ pc' (a0 :: a1 :: a2 :: a3 :: a4 :: a5 :: a6 :: a7 :: a8 :: a9 :: a10 :: some (.int (nI (x + 1))) :: t) st S) : V G M n0 nE Z n ρ pc (a0 :: a1 :: a2 :: a3 :: a4 :: a5 :: a6 :: a7 :: a8 :: a9 :: a10 :: some (.int (nI x)) :: t) st S := V_iinc h rfl hc (nI_1 x) k

theorem V_icM11 {a0 a1 a2 a3 a4 a5 a6 a7 a8 a9 a10 : Option Value} {t : List (Option Value)} {x : Nat} (h : Dc M pc (.iinc 11 (-1)) 3 pc') (hc : nl2 a10 = true) (k : V G M n0 nE Z n ρ pc' (a0 :: a1 :: a2 :: a3 :: a4 :: a5 :: a6 :: a7 :: a8 :: a9 :: a10 :: some (.int (nI x)) :: t) st S) : V G M n0 nE Z n ρ pc (a0 :: a1 :: a2 :: a3 :: a4 :: a5 :: a6 :: a7 :: a8 :: a9 :: a10 :: some (.int (nI (x + 1))) :: t) st S := V_iinc h rfl hc (pk_m1 x) k

def Db (M : MT) (pc : Nat) (q : Jvm.ClassFile.Cond) (tgt pc' : Nat) : Prop := ∃ off : Int, decode (mC M) pc = .ok (.ifCond q off, 3) ∧ (pc : Int) + off = (tgt : Int) ∧ pc + 3 = pc'
def Di (M : MT) (pc : Nat) (q : Jvm.ClassFile.Cond) (tgt pc' : Nat) : Prop := ∃ off : Int, decode (mC M) pc = .ok (.if_icmp q off, 3) ∧ (pc : Int) + off = (tgt : Int) ∧ pc + 3 = pc'
def Dg (M : MT) (pc tgt : Nat) : Prop := ∃ off : Int, decode (mC M) pc = .ok (.goto off, 3) ∧ (pc : Int) + off = (tgt : Int)

theorem V_if_eq {tgt : Nat} {x : Int32} (h : Db M pc .eq tgt pc') (kt : x = 0 → V G M n0 nE Z n ρ tgt L st S) (kf : ¬ x = 0 → V G M n0 nE Z n ρ pc' L st S) : V G M n0 nE Z n ρ pc L (.int x :: st) S := fun p e s m args below meth c E H locs ls hP hS hl => by
  obtain ⟨off, hd, ht, rfl⟩ := h
  exact lv_if_eq E.1 E.2.1 hd ht (fun q => kt q p e s m args below meth c E H locs ls hP hS hl) (fun q => kf q p e s m args below meth c E H locs ls hP hS hl)
theorem V_ic_eq {tgt : Nat} {x y : Int32} (h : Di M pc .eq tgt pc') (kt : x = y → V G M n0 nE Z n ρ tgt L st S) (kf : ¬ x = y → V G M n0 nE Z n ρ pc' L st S) : V G M n0 nE Z n ρ pc L (.int y :: .int x :: st) S := fun p e s m args below meth c E H locs ls hP hS hl => by
  obtain ⟨off, hd, ht, rfl⟩ := h
  exact lv_icmp_eq E.1 E.2.1 hd ht (fun q => kt q p e s m args below meth c E H locs ls hP hS hl) (fun q => kf q p e s m args below meth c E H locs ls hP hS hl)

theorem V_if_ne {tgt : Nat} {x : Int32} (h : Db M pc .ne tgt pc') (kt : ¬ x = 0 → V G M n0 nE Z n ρ tgt L st S) (kf : x = 0 → V G M n0 nE Z n ρ pc' L st S) : V G M n0 nE Z n ρ pc L (.int x :: st) S := fun p e s m args below meth c E H locs ls hP hS hl => by
  obtain ⟨off, hd, ht, rfl⟩ := h
  exact lv_if_ne E.1 E.2.1 hd ht (fun q => kt q p e s m args below meth c E H locs ls hP hS hl) (fun q => kf q p e s m args below meth c E H locs ls hP hS hl)
theorem V_ic_ne {tgt : Nat} {x y : Int32} (h : Di M pc .ne tgt pc') (kt : ¬ x = y → V G M n0 nE Z n ρ tgt L st S) (kf : x = y → V G M n0 nE Z n ρ pc' L st S) : V G M n0 nE Z n ρ pc L (.int y :: .int x :: st) S := fun p e s m args below meth c E H locs ls hP hS hl => by
  obtain ⟨off, hd, ht, rfl⟩ := h
  exact lv_icmp_ne E.1 E.2.1 hd ht (fun q => kt q p e s m args below meth c E H locs ls hP hS hl) (fun q => kf q p e s m args below meth c E H locs ls hP hS hl)

theorem V_if_lt {tgt : Nat} {x : Int32} (h : Db M pc .lt tgt pc') (kt : x < 0 → V G M n0 nE Z n ρ tgt L st S) (kf : ¬ x < 0 → V G M n0 nE Z n ρ pc' L st S) : V G M n0 nE Z n ρ pc L (.int x :: st) S := fun p e s m args below meth c E H locs ls hP hS hl => by
  obtain ⟨off, hd, ht, rfl⟩ := h
  exact lv_if_lt E.1 E.2.1 hd ht (fun q => kt q p e s m args below meth c E H locs ls hP hS hl) (fun q => kf q p e s m args below meth c E H locs ls hP hS hl)
theorem V_ic_lt {tgt : Nat} {x y : Int32} (h : Di M pc .lt tgt pc') (kt : x < y → V G M n0 nE Z n ρ tgt L st S) (kf : ¬ x < y → V G M n0 nE Z n ρ pc' L st S) : V G M n0 nE Z n ρ pc L (.int y :: .int x :: st) S := fun p e s m args below meth c E H locs ls hP hS hl => by
  obtain ⟨off, hd, ht, rfl⟩ := h
  exact lv_icmp_lt E.1 E.2.1 hd ht (fun q => kt q p e s m args below meth c E H locs ls hP hS hl) (fun q => kf q p e s m args below meth c E H locs ls hP hS hl)

theorem V_if_ge {tgt : Nat} {x : Int32} (h : Db M pc .ge tgt pc') (kt : 0 ≤ x → V G M n0 nE Z n ρ tgt L st S) (kf : ¬ 0 ≤ x → V G M n0 nE Z n ρ pc' L st S) : V G M n0 nE Z n ρ pc L (.int x :: st) S := fun p e s m args below meth c E H locs ls hP hS hl => by
  obtain ⟨off, hd, ht, rfl⟩ := h
  exact lv_if_ge E.1 E.2.1 hd ht (fun q => kt q p e s m args below meth c E H locs ls hP hS hl) (fun q => kf q p e s m args below meth c E H locs ls hP hS hl)
theorem V_ic_ge {tgt : Nat} {x y : Int32} (h : Di M pc .ge tgt pc') (kt : y ≤ x → V G M n0 nE Z n ρ tgt L st S) (kf : ¬ y ≤ x → V G M n0 nE Z n ρ pc' L st S) : V G M n0 nE Z n ρ pc L (.int y :: .int x :: st) S := fun p e s m args below meth c E H locs ls hP hS hl => by
  obtain ⟨off, hd, ht, rfl⟩ := h
  exact lv_icmp_ge E.1 E.2.1 hd ht (fun q => kt q p e s m args below meth c E H locs ls hP hS hl) (fun q => kf q p e s m args below meth c E H locs ls hP hS hl)

theorem V_if_gt {tgt : Nat} {x : Int32} (h : Db M pc .gt tgt pc') (kt : 0 < x → V G M n0 nE Z n ρ tgt L st S) (kf : ¬ 0 < x → V G M n0 nE Z n ρ pc' L st S) : V G M n0 nE Z n ρ pc L (.int x :: st) S := fun p e s m args below meth c E H locs ls hP hS hl => by
  obtain ⟨off, hd, ht, rfl⟩ := h
  exact lv_if_gt E.1 E.2.1 hd ht (fun q => kt q p e s m args below meth c E H locs ls hP hS hl) (fun q => kf q p e s m args below meth c E H locs ls hP hS hl)
theorem V_ic_gt {tgt : Nat} {x y : Int32} (h : Di M pc .gt tgt pc') (kt : y < x → V G M n0 nE Z n ρ tgt L st S) (kf : ¬ y < x → V G M n0 nE Z n ρ pc' L st S) : V G M n0 nE Z n ρ pc L (.int y :: .int x :: st) S := fun p e s m args below meth c E H locs ls hP hS hl => by
  obtain ⟨off, hd, ht, rfl⟩ := h
  exact lv_icmp_gt E.1 E.2.1 hd ht (fun q => kt q p e s m args below meth c E H locs ls hP hS hl) (fun q => kf q p e s m args below meth c E H locs ls hP hS hl)

theorem V_if_le {tgt : Nat} {x : Int32} (h : Db M pc .le tgt pc') (kt : x ≤ 0 → V G M n0 nE Z n ρ tgt L st S) (kf : ¬ x ≤ 0 → V G M n0 nE Z n ρ pc' L st S) : V G M n0 nE Z n ρ pc L (.int x :: st) S := fun p e s m args below meth c E H locs ls hP hS hl => by
  obtain ⟨off, hd, ht, rfl⟩ := h
  exact lv_if_le E.1 E.2.1 hd ht (fun q => kt q p e s m args below meth c E H locs ls hP hS hl) (fun q => kf q p e s m args below meth c E H locs ls hP hS hl)
theorem V_ic_le {tgt : Nat} {x y : Int32} (h : Di M pc .le tgt pc') (kt : x ≤ y → V G M n0 nE Z n ρ tgt L st S) (kf : ¬ x ≤ y → V G M n0 nE Z n ρ pc' L st S) : V G M n0 nE Z n ρ pc L (.int y :: .int x :: st) S := fun p e s m args below meth c E H locs ls hP hS hl => by
  obtain ⟨off, hd, ht, rfl⟩ := h
  exact lv_icmp_le E.1 E.2.1 hd ht (fun q => kt q p e s m args below meth c E H locs ls hP hS hl) (fun q => kf q p e s m args below meth c E H locs ls hP hS hl)

theorem V_goto {tgt : Nat} (h : Dg M pc tgt) (k : V G M n0 nE Z n ρ tgt L st S) : V G M n0 nE Z n ρ pc L st S := fun p e s m args below meth c E H locs ls hP hS hl => by
  obtain ⟨off, hd, ht⟩ := h
  exact lv_goto E.1 E.2.1 hd ht (k p e s m args below meth c E H locs ls hP hS hl)

end VR
