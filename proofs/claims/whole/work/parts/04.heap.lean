/-! the world changed at one place -/
def sI (S : AS) (k j : Nat) (v : Int32) : AS := (fun a b => if a = k ∧ b = j then v else S.1 a b, S.2)
def sL (S : AS) (k j : Nat) (v : Int64) : AS := (S.1, fun a b => if a = k ∧ b = j then v else S.2 a b)
def rS (ρ : Rho) (k j : Nat) (r : Option Nat) : Rho := fun a b => if a = k ∧ b = j then r else ρ a b
theorem sI_1 (S : AS) (k j : Nat) (v : Int32) (a b : Nat) : (sI S k j v).1 a b = if a = k ∧ b = j then v else S.1 a b := rfl
theorem sI_2 (S : AS) (k j : Nat) (v : Int32) : (sI S k j v).2 = S.2 := rfl
theorem sL_1 (S : AS) (k j : Nat) (v : Int64) : (sL S k j v).1 = S.1 := rfl
theorem sL_2 (S : AS) (k j : Nat) (v : Int64) (a b : Nat) : (sL S k j v).2 a b = if a = k ∧ b = j then v else S.2 a b := rfl
theorem ent_congr {G : Gm} {ρ ρ' : Rho} {S S' : AS} {k : Nat} (h1 : ∀ j, S'.1 k j = S.1 k j) (h2 : ∀ j, S'.2 k j = S.2 k j) (h3 : ∀ j, ρ' k j = ρ k j) : ent G ρ' S' k = ent G ρ S k := by
  have hf : ∀ c, fvl (gB G) ρ' S' k c = fvl (gB G) ρ S k c := fun c => funext fun j => by simp only [fvl, h1, h2, h3]
  have hg : S'.1 k = S.1 k := funext h1
  unfold ent
  split
  · rw [hf]
  · rw [hg]
theorem ent_obj {G : Gm} {ρ : Rho} {S : AS} {k c : Nat} (h : okd k = .inl c) : ent G ρ S k = .inr (c, (List.range (nfl c)).map (fvl (gB G) ρ S k c)) := by
  unfold ent; rw [h]
theorem ent_arr {G : Gm} {ρ : Rho} {S : AS} {k len : Nat} (h : okd k = .inr (false, len)) : ent G ρ S k = .inl (G.2.2.2.1, (len, .inl (S.1 k))) := by
  unfold ent; rw [h]; rfl
theorem ent_arz {G : Gm} {ρ : Rho} {S : AS} {k len : Nat} (h : okd k = .inr (true, len)) : ent G ρ S k = .inl (G.2.2.2.2, (len, .inl (S.1 k))) := by
  unfold ent; rw [h]; rfl
theorem Pic.put {G : Gm} {n : Nat} {ρ ρ' : Rho} {S S' : AS} {H H1 : Heap} {k : Nat} (h : Pic G n ρ S H) (z : H1.size = H.size) (o : ∀ q : Nat, q ≠ gB G + k → H1[q]? = H[q]?) (hk : va_at (gD G) vwCl (gB G + k, ent G ρ' S' k) H1) (he : ∀ j, j ≠ k → ent G ρ' S' j = ent G ρ S j) : Pic G n ρ' S' H1 := by
  refine ⟨z.trans h.1, fun j hj => ?_⟩
  by_cases hjk : j = k
  · rw [hjk]; exact hk
  · rw [he j hjk]
    exact (h.2 j hj).kept (o (gB G + j) (by omega))
theorem Pic.push {G : Gm} {n : Nat} {ρ : Rho} {S : AS} {H H1 : Heap} (h : Pic G n ρ S H) (z : H1.size = H.size + 1) (o : ∀ q : Nat, q < H.size → H1[q]? = H[q]?) (hk : va_at (gD G) vwCl (gB G + n, ent G ρ S n) H1) : Pic G (n + 1) ρ S H1 := by
  refine ⟨by rw [z, h.1]; omega, fun j hj => ?_⟩
  by_cases hjk : j = n
  · rw [hjk]; exact hk
  · exact (h.2 j (by omega)).kept (o (gB G + j) (by rw [h.1]; omega))
theorem fvl_at {B : Nat} {ρ : Rho} {S : AS} {k c j : Nat} (hj : j < nfl c) : ((List.range (nfl c)).map (fvl B ρ S k c))[j]? = some (fvl B ρ S k c j) := by simp [hj]
theorem fvl_V {B : Nat} {ρ : Rho} {S : AS} {k c j : Nat} (hj : j < nfl c) : vp_V ((List.range (nfl c)).map (fvl B ρ S k c)) j = fvl B ρ S k c j := by simp [vp_V, hj]
theorem fkd_0 {c j : Nat} (h : fkd c j = 0) : tyy c j = .int := by
  unfold fkd at h
  split at h
  · assumption
  · cases h
  · cases h
theorem fkd_1 {c j : Nat} (h : fkd c j = 1) : tyy c j = .long := by
  unfold fkd at h
  split at h
  · cases h
  · assumption
  · cases h
theorem fvl_I {B : Nat} {ρ : Rho} {S : AS} {k c j : Nat} (h : fkd c j = 0) : fvl B ρ S k c j = .int (S.1 k j) := by unfold fvl; rw [h]; rfl
theorem fvl_L {B : Nat} {ρ : Rho} {S : AS} {k c j : Nat} (h : fkd c j = 1) : fvl B ρ S k c j = .long (S.2 k j) := by unfold fvl; rw [h]; rfl
theorem fvl_R {B : Nat} {ρ : Rho} {S : AS} {k c j : Nat} (h : fkd c j = 2) : fvl B ρ S k c j = rf B (ρ k j) := by unfold fvl; rw [h]; rfl
theorem fvl_ne {B : Nat} {ρ ρ' : Rho} {S S' : AS} {k c j i : Nat} (h1 : ∀ j, j ≠ i → S'.1 k j = S.1 k j) (h2 : ∀ j, j ≠ i → S'.2 k j = S.2 k j) (h3 : ∀ j, j ≠ i → ρ' k j = ρ k j) (hj : j ≠ i) : fvl B ρ' S' k c j = fvl B ρ S k c j := by
  simp only [fvl, h1 j hj, h2 j hj, h3 j hj]
/-- the field that an instruction of a class names -/
def FL (own : String) (idx c j : Nat) : Prop := (c < 10 ∧ j < nfl c) ∧ (Cond.fieldLink own idx (CC c) (TT c j).2.1 (TT c j).2.2.1 ∈ lw_tbl ∨ Cond.fieldLinkNest own idx (CC c) (TT c j).2.1 (TT c j).2.2.1 RX8 ∈ lw_tbl)
def GF (M : MT) (pc c j pc' : Nat) : Prop := ∃ idx, Dc M pc (.getfield idx) 3 pc' ∧ FL (mO M) idx c j
def PF (M : MT) (pc c j pc' : Nat) : Prop := ∃ idx, Dc M pc (.putfield idx) 3 pc' ∧ (c < 10 ∧ j < nfl c) ∧ Cond.fieldLink (mO M) idx (CC c) (TT c j).2.1 (TT c j).2.2.1 ∈ lw_tbl
theorem EF_ts {G : Gm} {M : MT} {n0 : Nat} {Z2 : State → Array Value → Prop} {p : Program} {s : State} {m : MethodId} {args : Array Value} {meth : Method} {c : Code} (E : EF G M n0 Z2 p s m args meth c) {k : Nat} (hk : k < 10) : ∀ w ∈ u_ws (CC k) (TT k) (nfl k), w.before args s = true :=
  fun w hw => E.2.2.2.2.2.2.2.1 w (clW k hk w hw).1 (clW k hk w hw).2 args
section VH
variable {G : Gm} {M : MT} {n0 nE : Nat} {Z : ZT} {n : Nat} {ρ : Rho} {pc pc' : Nat} {L : List (Option Value)} {st : List Value} {S : AS}
theorem V_getf {c0 j k : Nat} {v : Value} (h : GF M pc c0 j pc') (hk : okd k = .inl c0) (hn : k < n) (hv : fvl (gB G) ρ S k c0 j = v) (kk : V G M n0 nE Z n ρ pc' L (v :: st) S) : V G M n0 nE Z n ρ pc L (.ref (gB G + k) :: st) S :=
  fun p e s m args below meth c E H locs ls hP hS hl => by
    obtain ⟨idx, ⟨hd, rfl⟩, ⟨hc, hj⟩, hlk⟩ := h
    have hat := hP.2 k hn
    rw [ent_obj hk] at hat
    have hPl : va_P (gD G) vwCl [(gB G + k, .inr (c0, (List.range (nfl c0)).map (fvl (gB G) ρ S k c0)))] H := by
      intro i q hq
      cases i with
      | zero => cases hq; exact hat
      | succ i => simp at hq
    have kk' := kk p e s m args below meth c E H locs ls hP hS hl
    have hO := clO c0 hc j hj
    have hs : ∀ x, s.fieldFound? (TT c0 j).1 (TT c0 j).2.1 (TT c0 j).2.2.1 = some x → s.fieldFound? (CC c0) (TT c0 j).2.1 (TT c0 j).2.2.1 = some x := by rw [hO]; exact fun _ h => h
    rcases hlk with hlk | hlk
    · exact va_get E.1 E.2.1 (EF_ts E hc) (fun _ h => h) E.2.2.2.2.2.1 E.2.2.2.2.2.2.2.2.1 hPl 0 rfl (clC c0 hc) j hj (E.2.2.2.2.2.2.2.1 _ hlk rfl args) hs (by rw [fvl_at hj, hv]) hd kk'
    · exact va_getN E.1 E.2.1 (EF_ts E hc) (fun _ h => h) E.2.2.2.2.2.1 E.2.2.2.2.2.2.2.2.1 hPl 0 rfl (clC c0 hc) j hj (E.2.2.2.2.2.2.2.1 _ hlk rfl args) hs (by rw [fvl_at hj, hv]) hd kk'
theorem V_getI {c0 j k : Nat} (h : GF M pc c0 j pc') (hk : okd k = .inl c0) (hf : fkd c0 j = 0) (hn : k < n) (kk : V G M n0 nE Z n ρ pc' L (.int (S.1 k j) :: st) S) : V G M n0 nE Z n ρ pc L (.ref (gB G + k) :: st) S := V_getf h hk hn (fvl_I hf) kk
theorem V_getIe {c0 j k : Nat} {x : Int32} (h : GF M pc c0 j pc') (hk : okd k = .inl c0) (hf : fkd c0 j = 0) (hn : k < n) (hx : S.1 k j = x) (kk : V G M n0 nE Z n ρ pc' L (.int x :: st) S) : V G M n0 nE Z n ρ pc L (.ref (gB G + k) :: st) S := V_getf h hk hn (by rw [fvl_I hf, hx]) kk
theorem V_getL {c0 j k : Nat} (h : GF M pc c0 j pc') (hk : okd k = .inl c0) (hf : fkd c0 j = 1) (hn : k < n) (kk : V G M n0 nE Z n ρ pc' L (.long (S.2 k j) :: st) S) : V G M n0 nE Z n ρ pc L (.ref (gB G + k) :: st) S := V_getf h hk hn (fvl_L hf) kk
theorem V_getR {c0 j k r : Nat} (h : GF M pc c0 j pc') (hk : okd k = .inl c0) (hf : fkd c0 j = 2) (hn : k < n) (hr : ρ k j = some r) (kk : V G M n0 nE Z n ρ pc' L (.ref (gB G + r) :: st) S) : V G M n0 nE Z n ρ pc L (.ref (gB G + k) :: st) S := V_getf h hk hn (by rw [fvl_R hf, hr]; rfl) kk
theorem V_putg {c0 j k : Nat} {v : Value} {ρ' : Rho} {S' : AS} (h : PF M pc c0 j pc') (hk : okd k = .inl c0) (hn : k < n) (hfin : (TT c0 j).2.2.2 = false ∨ ((TT c0 j).2.2.2 = true ∧ (mY M).name = "<init>" ∧ mO M = CC c0))
    (hnr : narrow (tyy c0 j) v = v) (hfit : fits (tyy c0 j) v = true) (hv : fvl (gB G) ρ' S' k c0 j = v) (hs : ∀ i, i ≠ j → fvl (gB G) ρ' S' k c0 i = fvl (gB G) ρ S k c0 i) (ho : ∀ i, i ≠ k → ent G ρ' S' i = ent G ρ S i)
    (kk : V G M n0 nE Z n ρ' pc' L st S') : V G M n0 nE Z n ρ pc L (v :: .ref (gB G + k) :: st) S :=
  fun p e s m args below meth c E H locs ls hP hS hl => by
    obtain ⟨idx, ⟨hd, rfl⟩, ⟨hc, hj⟩, hlk⟩ := h
    have hat := hP.2 k hn
    rw [ent_obj hk] at hat
    have hts := EF_ts E hc
    have hK : va_K (gD G) vwCl (tysG G) s := E.2.2.2.2.2.2.2.2.1
    have hown : s.vm.findClass (mO M) = some m.cls := E.2.2.2.2.2.1
    have hlink := E.2.2.2.2.2.2.2.1 _ hlk rfl args
    have hO := clO c0 hc j hj
    have hsame : ∀ x, s.fieldFound? (TT c0 j).1 (TT c0 j).2.1 (TT c0 j).2.2.1 = some x → s.fieldFound? (CC c0) (TT c0 j).2.1 (TT c0 j).2.2.1 = some x := by rw [hO]; exact fun _ h => h
    have hap := va_apart (own := mO M) hts (fun _ h => h) (tyy c0) (clT c0 hc) (clN c0 hc) hK (clC c0 hc)
    obtain ⟨r, h1, cell, q1, q2, q3, q4⟩ := hat
    have hr : r = (CC c0, TT c0, nfl c0) := Option.some.inj (h1.symm.trans (clC c0 hc))
    subst hr
    obtain ⟨hSl, hfc, kC, hkC, hkind⟩ := hK.1 c0 _ (clC c0 hc)
    obtain ⟨cf, kf, fi, f, hi, hsl⟩ := hSl j hj
    have hlay := hts _ (u_in_lay hj)
    have hst := (u_facts hfc hkC (u_lays hts (fun _ h => h) hj) hi).1
    have hA : gB G ≤ gB G + k := Nat.le_add_right _ _
    have last : ∀ H' : Heap, H'[gB G + k]? = some (cell.setSlot f.slot v) → H'.size = H.size → (∀ q, q ≠ gB G + k → H'[q]? = H[q]?) → W p G.1 e (rmM M (nE - n0) (SZ nE - SZ n0)) s m args below meth c H' (locs ++ [⟨gB G + k, f.slot⟩]) (n - n0) (SZ n - SZ n0) (Z.1 below args s) (F0 m (pc + 3) ls st) := by
      intro H' e1 e2 e3
      rw [hsl] at e1 ⊢
      refine kk p e s m args below meth c E H' _ ls (hP.put e2 e3 ?_ ho) (hS.put e2 e3 hA) hl
      rw [ent_obj hk]
      refine ⟨_, clC c0 hc, t_OB.to (V := updV (vp_V ((List.range (nfl c0)).map (fvl (gB G) ρ S k c0))) j v) ⟨_, e1, q2, q3, t_set q4 hap hj v⟩ (fun i hin => ?_)⟩
      rw [fvl_V hin]
      unfold updV
      by_cases hij : i = j
      · rw [if_pos hij, hij, hv]
      · rw [if_neg hij, fvl_V hin, hs i hij]
    rcases hfin with hfin | ⟨hfin, hin2, hdecl⟩
    · unfold u_lay at hlay
      rw [if_neg (by rw [hfin]; decide)] at hlay
      have h6 := u_store hfc hkC hkind hlay hi (clT c0 hc j hj) hnr hfit
      exact W.putK E.1 E.2.1 (f := f) ⟨hown, hlink, ⟨_, _, _, hsame _ hi⟩, hst⟩ (by rw [q2]; exact h6) q1 q3 (by rw [hsl]; exact k2_hasslot (q4 j hj)) rfl rfl hd last
    · unfold u_lay at hlay
      rw [if_pos hfin] at hlay
      have hcf : m.cls = cf := by
        obtain ⟨_, _, c', _, _, _, -, -, hf', -, -, -, hown2, -⟩ := Cond.laysFinal_spec hlay
        have e1 : c' = cf := by have := hi.symm.trans hf'; simp at this; exact this.1.symm
        rw [hO, ← hdecl] at hown2
        rw [← e1]; exact Option.some.inj (hown.symm.trans hown2)
      have h6 := u_fits hfc hkC hkind (Or.inr hlay) hi (clT c0 hc j hj) hnr hfit
      exact W.putFinK E.1 E.2.1 hown hlink (hsame _ hi) hst hcf (E.2.2.2.2.2.2.1.trans hin2) (by rw [q2]; exact h6) q1 q3 (by rw [hsl]; exact k2_hasslot (q4 j hj)) rfl rfl hd last
theorem V_putI {c0 j k : Nat} {v : Int32} (h : PF M pc c0 j pc') (hk : okd k = .inl c0) (hf : fkd c0 j = 0) (hn : k < n) (hfin : (TT c0 j).2.2.2 = false) (kk : V G M n0 nE Z n ρ pc' L st (sI S k j v)) : V G M n0 nE Z n ρ pc L (.int v :: .ref (gB G + k) :: st) S := by
  refine V_putg (ρ' := ρ) (S' := sI S k j v) h hk hn (Or.inl hfin) (by rw [fkd_0 hf]; rfl) (by rw [fkd_0 hf]; rfl) (by rw [fvl_I hf, sI_1, if_pos ⟨rfl, rfl⟩]) (fun i hi => fvl_ne (i := j) (fun a ha => ?_) (fun a _ => rfl) (fun a _ => rfl) hi) (fun i hi => ent_congr (fun a => ?_) (fun a => rfl) (fun a => rfl)) kk
  · rw [sI_1, if_neg (fun q => ha q.2)]
  · rw [sI_1, if_neg (fun q => hi q.1)]
theorem V_putL {c0 j k : Nat} {v : Int64} (h : PF M pc c0 j pc') (hk : okd k = .inl c0) (hf : fkd c0 j = 1) (hn : k < n) (hfin : (TT c0 j).2.2.2 = false) (kk : V G M n0 nE Z n ρ pc' L st (sL S k j v)) : V G M n0 nE Z n ρ pc L (.long v :: .ref (gB G + k) :: st) S := by
  refine V_putg (ρ' := ρ) (S' := sL S k j v) h hk hn (Or.inl hfin) (by rw [fkd_1 hf]; rfl) (by rw [fkd_1 hf]; rfl) (by rw [fvl_L hf, sL_2, if_pos ⟨rfl, rfl⟩]) (fun i hi => fvl_ne (i := j) (fun a _ => rfl) (fun a ha => ?_) (fun a _ => rfl) hi) (fun i hi => ent_congr (fun a => rfl) (fun a => ?_) (fun a => rfl)) kk
  · rw [sL_2, if_neg (fun q => ha q.2)]
  · rw [sL_2, if_neg (fun q => hi q.1)]
/-- a final reference, in its own constructor -/
theorem V_putR {c0 j k r : Nat} (h : PF M pc c0 j pc') (hk : okd k = .inl c0) (hf : fkd c0 j = 2) (hn : k < n) (hfin : (TT c0 j).2.2.2 = true ∧ (mY M).name = "<init>" ∧ mO M = CC c0) (hnr : narrow (tyy c0 j) (.ref (gB G + r)) = .ref (gB G + r)) (hfit : fits (tyy c0 j) (.ref (gB G + r)) = true) (kk : V G M n0 nE Z n (rS ρ k j (some r)) pc' L st S) : V G M n0 nE Z n ρ pc L (.ref (gB G + r) :: .ref (gB G + k) :: st) S := by
  refine V_putg (ρ' := rS ρ k j (some r)) (S' := S) h hk hn (Or.inr hfin) hnr hfit (by rw [fvl_R hf, rS, if_pos ⟨rfl, rfl⟩]; rfl) (fun i hi => fvl_ne (i := j) (fun a _ => rfl) (fun a _ => rfl) (fun a ha => ?_) hi) (fun i hi => ent_congr (fun a => rfl) (fun a => rfl) (fun a => ?_)) kk
  · rw [rS, if_neg (fun q => ha q.2)]
  · rw [rS, if_neg (fun q => hi q.1)]
theorem Pic_arr {H : Heap} {k len : Nat} (hP : Pic G n ρ S H) (hk : okd k = .inr (false, len)) (hn : k < n) : va_P (gD G) vwCl [(gB G + k, .inl (G.2.2.2.1, (len, .inl (S.1 k))))] H := by
  have hat := hP.2 k hn
  rw [ent_arr hk] at hat
  intro i q hq
  cases i with
  | zero => cases hq; exact hat
  | succ i => simp at hq
theorem Pic_arz {H : Heap} {k len : Nat} (hP : Pic G n ρ S H) (hk : okd k = .inr (true, len)) (hn : k < n) : va_P (gD G) vwCl [(gB G + k, .inl (G.2.2.2.2, (len, .inl (S.1 k))))] H := by
  have hat := hP.2 k hn
  rw [ent_arz hk] at hat
  intro i q hq
  cases i with
  | zero => cases hq; exact hat
  | succ i => simp at hq
/-- an element's place: i, or its Nat j -/
theorem V_iald {k len : Nat} {i : Int32} (h : Dc M pc .iaload 1 pc') (hk : okd k = .inr (false, len)) (hn : k < n) (hi : vp_in i len) (kk : V G M n0 nE Z n ρ pc' L (.int (S.1 k i.toNatClampNeg) :: st) S) : V G M n0 nE Z n ρ pc L (.int i :: .ref (gB G + k) :: st) S :=
  fun p e s m args below meth c E H locs ls hP hS hl => by
    obtain ⟨hd, rfl⟩ := h
    exact va_iald E.1 E.2.1 E.2.2.2.2.2.2.2.2.1 (Pic_arr hP hk hn) 0 0 rfl rfl hi hd (kk p e s m args below meth c E H locs ls hP hS hl)
theorem okd_len {k len : Nat} {b : Bool} (h : okd k = .inr (b, len)) : len ≤ 384 := by
  unfold okd at h
  split at h <;> first | (cases h; decide) | cases h
theorem V_ialdN {k len j : Nat} (h : Dc M pc .iaload 1 pc') (hk : okd k = .inr (false, len)) (hn : k < n) (hi : j < len) (kk : V G M n0 nE Z n ρ pc' L (.int (S.1 k j) :: st) S) : V G M n0 nE Z n ρ pc L (.int (nI j) :: .ref (gB G + k) :: st) S := by
  have hl := okd_len hk
  refine V_iald h hk hn (vp_in_nI hi (by omega)) ?_
  rw [nI_clamp (by omega)]
  exact kk
theorem V_ialdE {k len j : Nat} {i x : Int32} (h : Dc M pc .iaload 1 pc') (hk : okd k = .inr (false, len)) (hn : k < n) (hij : i = nI j) (hi : j < len) (hx : S.1 k j = x) (kk : V G M n0 nE Z n ρ pc' L (.int x :: st) S) : V G M n0 nE Z n ρ pc L (.int i :: .ref (gB G + k) :: st) S := by
  subst hij; subst hx
  exact V_ialdN h hk hn hi kk
theorem V_zald {k len j : Nat} {i : Int32} (h : Dc M pc .baload 1 pc') (hk : okd k = .inr (true, len)) (hn : k < n) (hij : i = nI j) (hi : j < len) (kk : V G M n0 nE Z n ρ pc' L (.int (S.1 k j) :: st) S) : V G M n0 nE Z n ρ pc L (.int i :: .ref (gB G + k) :: st) S :=
  fun p e s m args below meth c E H locs ls hP hS hl => by
    obtain ⟨hd, rfl⟩ := h
    subst hij
    have hl0 := okd_len hk
    have hc : (nI j).toNatClampNeg = j := nI_clamp (by omega)
    refine va_zald E.1 E.2.1 E.2.2.2.2.2.2.2.2.1 (Pic_arz hP hk hn) 0 1 rfl rfl (vp_in_nI hi (by omega)) hd ?_
    rw [hc]
    exact kk p e s m args below meth c E H locs ls hP hS hl
theorem V_alen {k len : Nat} (h : Dc M pc .arraylength 1 pc') (hk : okd k = .inr (false, len)) (hn : k < n) (kk : V G M n0 nE Z n ρ pc' L (.int (nI len) :: st) S) : V G M n0 nE Z n ρ pc L (.ref (gB G + k) :: st) S :=
  fun p e s m args below meth c E H locs ls hP hS hl => by
    obtain ⟨hd, rfl⟩ := h
    exact va_alen E.1 E.2.1 E.2.2.2.2.2.2.2.2.1 (Pic_arr hP hk hn) 0 0 rfl (ty := .int) rfl rfl hd (kk p e s m args below meth c E H locs ls hP hS hl)
theorem V_iast {k len j : Nat} {i x : Int32} (h : Dc M pc .iastore 1 pc') (hk : okd k = .inr (false, len)) (hn : k < n) (hij : i = nI j) (hi : j < len) (kk : V G M n0 nE Z n ρ pc' L st (sI S k j x)) : V G M n0 nE Z n ρ pc L (.int x :: .int i :: .ref (gB G + k) :: st) S :=
  fun p e s m args below meth c E H locs ls hP hS hl => by
    obtain ⟨hd, rfl⟩ := h
    subst hij
    have hl0 := okd_len hk
    have hc : (nI j).toNatClampNeg = j := nI_clamp (by omega)
    have hP0 := Pic_arr hP hk hn
    have hin : vp_in (nI j) len := vp_in_nI hi (by omega)
    have hK : va_K (gD G) vwCl (tysG G) s := E.2.2.2.2.2.2.2.2.1
    refine W.iast E.1 E.2.1 (hP0 0 _ rfl) ((hK.2 0 _ rfl).1 len (fun j => .int (S.1 k j))) (fun q => by cases q) (by show ¬ (nI j < 0 ∨ (arrV _ _ _).slots.size ≤ _); rw [arrV_size]; exact hin) rfl rfl hd fun H1 e1 z oq => ?_
    refine kk p e s m args below meth c E H1 _ ls (hP.put z oq ?_ (fun a ha => ent_congr (fun b => ?_) (fun b => rfl) (fun b => rfl))) (hS.put z oq (Nat.le_add_right _ _)) hl
    · rw [ent_arr hk]
      show H1[gB G + k]? = some (vp_cell _ _)
      rw [e1, hc, vp_cell_i, vp_cell_i, arrV_store]
      congr 2
      funext q
      by_cases hq : q = j
      · subst hq
        simp [updV, sI_1]
      · simp [updV, sI_1, hq]
    · rw [sI_1, if_neg (fun q => ha q.1)]
theorem V_zast {k len j : Nat} {i x : Int32} (h : Dc M pc .bastore 1 pc') (hk : okd k = .inr (true, len)) (hn : k < n) (hij : i = nI j) (hi : j < len) (hx : vp_nar .boolean x = x) (kk : V G M n0 nE Z n ρ pc' L st (sI S k j x)) : V G M n0 nE Z n ρ pc L (.int x :: .int i :: .ref (gB G + k) :: st) S :=
  fun p e s m args below meth c E H locs ls hP hS hl => by
    obtain ⟨hd, rfl⟩ := h
    subst hij
    have hl0 := okd_len hk
    have hc : (nI j).toNatClampNeg = j := nI_clamp (by omega)
    have hP0 := Pic_arz hP hk hn
    have hin : vp_in (nI j) len := vp_in_nI hi (by omega)
    have hK : va_K (gD G) vwCl (tysG G) s := E.2.2.2.2.2.2.2.2.1
    refine W.zast E.1 E.2.1 (hP0 0 _ rfl) ((hK.2 1 _ rfl).1 len (fun j => .int (S.1 k j))) (fun q => by cases q) (by show ¬ (nI j < 0 ∨ (arrV _ _ _).slots.size ≤ _); rw [arrV_size]; exact hin) rfl rfl hd fun H1 e1 z oq => ?_
    refine kk p e s m args below meth c E H1 _ ls (hP.put z oq ?_ (fun a ha => ent_congr (fun b => ?_) (fun b => rfl) (fun b => rfl))) (hS.put z oq (Nat.le_add_right _ _)) hl
    · rw [ent_arz hk]
      show H1[gB G + k]? = some (vp_cell _ _)
      rw [e1, hc, vp_cell_i, vp_cell_i, arrV_store]
      congr 2
      funext q
      by_cases hq : q = j
      · subst hq
        have : narrow .boolean (.int x) = .int x := by
          have h2 : narrow .boolean (.int x) = .int (vp_nar .boolean x) := rfl
          rw [h2, hx]
        simp [updV, sI_1, this]
      · simp [updV, sI_1, hq]
    · rw [sI_1, if_neg (fun q => ha q.1)]
/-- making an array: the next object of the world -/
theorem V_newa {b : Bool} {len : Nat} {i : Int32} (h : Dc M pc (.newarray (if b then .boolean else .int)) 2 pc') (hk : okd n = .inr (b, len)) (hi : i = nI len) (hz : ∀ j, S.1 n j = 0) (hE : n + 1 ≤ nE) (h0 : n0 ≤ n) (kk : V G M n0 nE Z (n + 1) ρ pc' L (.ref (gB G + n) :: st) S) : V G M n0 nE Z n ρ pc L (.int i :: st) S :=
  fun p e s m args below meth c E H locs ls hP hS hl => by
    obtain ⟨hd, rfl⟩ := h
    subst hi
    have hl0 := okd_len hk
    have hc : (nI len).toNatClampNeg = len := nI_clamp (by omega)
    have hK : va_K (gD G) vwCl (tysG G) s := E.2.2.2.2.2.2.2.2.1
    have hsz : SZ (n + 1) = SZ n + len := by show SZ n + szk n = _; unfold szk; rw [hk]
    have m1 := SZ_mono h0
    have m2 := SZ_mono hE
    have hw : Cond.arrayClass (newarray.typeOf (if b then .boolean else .int)) ∈ lw_tbl := by
      cases b
      · exact List.mem_append_right _ (List.mem_of_getElem? (i := 44) (by decide +kernel))
      · exact List.mem_append_right _ (List.mem_of_getElem? (i := 775) (by decide +kernel))
    refine va_newaK E.1 E.2.1 (atype := if b then .boolean else .int) (E.2.2.2.2.2.2.2.1 _ hw (by cases b <;> rfl) args) (g := F0 m pc ls (.int (nI len) :: st)) rfl hd (n := nI len) (N := len) (rest := st) rfl (nI_pos (by omega)) hc (by cases b <;> (show len * _ ≤ _; simp [componentBytes, newarray.typeOf]; omega)) (by show n - n0 + 1 ≤ nE - n0; omega) (by show SZ n - SZ n0 + len ≤ SZ nE - SZ n0; omega) (h := gB G + n) hP.1 fun H1 cA e1 z1 o1 hAr hNm => ?_
    rw [show n - n0 + 1 = (n + 1) - n0 by omega, show SZ n - SZ n0 + len = SZ (n + 1) - SZ n0 by omega]
    refine kk p e s m args below meth c E H1 locs ls (hP.push (by rw [z1, hP.1]) (fun q hq => o1 q (by rw [← hP.1]; exact hq)) ?_) ⟨Nat.le_trans hS.1 (by rw [z1, hP.1]; omega), fun x h1 h2 => (o1 x (by have := hS.1; rw [hP.1] at this; omega)).trans (hS.2.1 x h1 h2), hS.2.2⟩ hl
    have hz0 : S.1 n = fun _ => 0 := funext hz
    cases b
    · rw [ent_arr hk]
      have hcA : cA = G.2.2.2.1 := Option.some.inj (hNm.symm.trans (hK.2 0 _ rfl).2)
      show H1[gB G + n]? = some (vp_cell _ _)
      rw [e1, hcA, vp_cell_i, hz0]
      rfl
    · rw [ent_arz hk]
      have hcA : cA = G.2.2.2.2 := Option.some.inj (hNm.symm.trans (hK.2 1 _ rfl).2)
      show H1[gB G + n]? = some (vp_cell _ _)
      rw [e1, hcA, vp_cell_i, hz0]
      rfl
def NW (M : MT) (pc c pc' : Nat) : Prop := ∃ idx, Dc M pc (.new idx) 3 pc' ∧ c < 10 ∧ Cond.classLink (mO M) idx (CC c) ∈ lw_tbl ∧ Cond.instantiable (CC c) (nfl c) ∈ lw_tbl ∧ Cond.initialized (CC c) ∈ lw_tbl
theorem tyy_dflt {B : Nat} {ρ : Rho} {S : AS} {k c j : Nat} (hr : (∃ C, tyy c j = .object C) ∨ (∃ t, tyy c j = .array t) ∨ tyy c j = .int ∨ tyy c j = .long) (h1 : S.1 k j = 0) (h2 : S.2 k j = 0) (h3 : ρ k j = none) : defaultValue (tyy c j) = fvl B ρ S k c j := by
  rcases hr with ⟨C, h⟩ | ⟨t, h⟩ | h | h
  · have : fkd c j = 2 := by unfold fkd; rw [h]
    rw [fvl_R this, h3, h]; rfl
  · have : fkd c j = 2 := by unfold fkd; rw [h]
    rw [fvl_R this, h3, h]; rfl
  · have : fkd c j = 0 := by unfold fkd; rw [h]
    rw [fvl_I this, h1, h]; rfl
  · have : fkd c j = 1 := by unfold fkd; rw [h]
    rw [fvl_L this, h2, h]; rfl
def tyB (t : FieldType) : Bool := match t with
  | .object _ => true
  | .array _ => true
  | .int => true
  | .long => true
  | _ => false
theorem tyB_or {t : FieldType} (h : tyB t = true) : (∃ C, t = .object C) ∨ (∃ u, t = .array u) ∨ t = .int ∨ t = .long := by
  cases t <;> simp [tyB] at h ⊢
theorem clB : ∀ c, c < 10 → ∀ k, k < nfl c → tyB (tyy c k) = true := by decide +kernel
theorem V_new {c0 : Nat} (h : NW M pc c0 pc') (hk : okd n = .inl c0) (hz1 : ∀ j, S.1 n j = 0) (hz2 : ∀ j, S.2 n j = 0) (hz3 : ∀ j, ρ n j = none) (hE : n + 1 ≤ nE) (h0 : n0 ≤ n) (kk : V G M n0 nE Z (n + 1) ρ pc' L (.ref (gB G + n) :: st) S) : V G M n0 nE Z n ρ pc L st S :=
  fun p e s m args below meth c E H locs ls hP hS hl => by
    obtain ⟨idx, ⟨hd, rfl⟩, hc, w1, w2, w3⟩ := h
    have hts := EF_ts E hc
    have hK : va_K (gD G) vwCl (tysG G) s := E.2.2.2.2.2.2.2.2.1
    have hKn := hK.1 c0 _ (clC c0 hc)
    have hsz : SZ (n + 1) = SZ n + nfl c0 := by show SZ n + szk n = _; unfold szk; rw [hk]
    have m1 := SZ_mono h0
    have m2 := SZ_mono hE
    refine W.newcK E.1 E.2.1 E.2.2.2.2.2.1 (E.2.2.2.2.2.2.2.1 _ w1 rfl args) (E.2.2.2.2.2.2.2.1 _ w2 rfl args) (E.2.2.2.2.2.2.2.1 _ w3 rfl args) (g := F0 m pc ls st) rfl hd (by show n - n0 + 1 ≤ nE - n0; omega) (by show SZ n - SZ n0 + nfl c0 ≤ SZ nE - SZ n0; omega) hKn.2.1 (h := gB G + n) hP.1 fun H1 kC hkC e1 z1 o1 => ?_
    rw [show n - n0 + 1 = (n + 1) - n0 by omega, show SZ n - SZ n0 + nfl c0 = SZ (n + 1) - SZ n0 by omega]
    refine kk p e s m args below meth c E H1 locs ls (hP.push (by rw [z1, hP.1]) (fun q hq => o1 q (by rw [← hP.1]; exact hq)) ?_) ⟨Nat.le_trans hS.1 (by rw [z1, hP.1]; omega), fun x h1 h2 => (o1 x (by have := hS.1; rw [hP.1] at this; omega)).trans (hS.2.1 x h1 h2), hS.2.2⟩ hl
    rw [ent_obj hk]
    refine ⟨_, clC c0 hc, (u_born (tyy c0) hts (fun _ h => h) hKn hkC e1 (clT c0 hc)).to (fun j hj => ?_)⟩
    rw [fvl_V hj]
    exact tyy_dflt (tyB_or (clB c0 hc j hj)) (hz1 j) (hz2 j) (hz3 j)
def OI (M : MT) (pc pc' : Nat) : Prop := ∃ idx, Dc M pc (.invokespecial idx) 3 pc' ∧ Cond.methodLink (mO M) idx Lib.objectInit ∈ lw_tbl
theorem V_obj {a : Nat} (h : OI M pc pc') (hf : 1 ≤ mF M) (hlo : (st.map fun v => v.category).sum + 12 ≤ mLo M) (kk : V G M n0 nE Z n ρ pc' L st S) : V G M n0 nE Z n ρ pc L (.ref a :: st) S :=
  fun p e s m args below meth c E H locs ls hP hS hl => by
    obtain ⟨idx, ⟨hd, rfl⟩, w1⟩ := h
    have i1 : Cond.instanceMethod Lib.objectInit ∈ lw_tbl := List.mem_append_right _ (List.mem_of_getElem? (i := 18) (by decide +kernel))
    have i2 : Cond.code Lib.objectInit ⟨#[0xb1]⟩ 1 none ∈ lw_tbl := List.mem_append_right _ (List.mem_of_getElem? (i := 19) (by decide +kernel))
    refine W.objInit E.1 E.2.1 E.2.2.2.2.2.1 (E.2.2.2.2.2.2.2.1 _ w1 rfl args) (E.2.2.2.2.2.2.2.1 _ i1 rfl args) (E.2.2.2.2.2.2.2.1 _ i2 rfl args) (g := F0 m pc ls (.ref a :: st)) rfl ?_ (rest := st) rfl hd hf (by show 2 * 0 + _ + 12 ≤ mLo M; omega) (kk p e s m args below meth c E H locs ls hP hS hl)
    show ls.size = c.maxLocals
    rw [E.2.2.1]; exact hl.1.1
def LI (M : MT) (pc : Nat) (v : Int32) (pc' : Nat) : Prop := ∃ idx, Dc M pc (.ldc idx) 2 pc' ∧ Cond.constant (mO M) idx v ∈ lw_tbl
def LL (M : MT) (pc : Nat) (v : Int64) (pc' : Nat) : Prop := ∃ idx, Dc M pc (.ldc2_w idx) 3 pc' ∧ Cond.constantLong (mO M) idx v ∈ lw_tbl
theorem V_ldc {v : Int32} (h : LI M pc v pc') (kk : V G M n0 nE Z n ρ pc' L (.int v :: st) S) : V G M n0 nE Z n ρ pc L st S :=
  fun p e s m args below meth c E H locs ls hP hS hl => by
    obtain ⟨idx, ⟨hd, rfl⟩, w1⟩ := h
    exact lv_ldc E.1 E.2.1 E.2.2.2.2.2.1 (E.2.2.2.2.2.2.2.1 _ w1 rfl args) hd (kk p e s m args below meth c E H locs ls hP hS hl)
theorem V_ldc2 {v : Int64} (h : LL M pc v pc') (kk : V G M n0 nE Z n ρ pc' L (.long v :: st) S) : V G M n0 nE Z n ρ pc L st S :=
  fun p e s m args below meth c E H locs ls hP hS hl => by
    obtain ⟨idx, ⟨hd, rfl⟩, w1⟩ := h
    exact lv_ldc2 E.1 E.2.1 E.2.2.2.2.2.1 (E.2.2.2.2.2.2.2.1 _ w1 rfl args) hd (kk p e s m args below meth c E H locs ls hP hS hl)
def MX (M : MT) (pc pc' : Nat) : Prop := ∃ idx, Dc M pc (.invokestatic idx) 3 pc' ∧ Cond.methodLink (mO M) idx Lib.Math.max.name ∈ lw_tbl
theorem V_max {x y : Int32} (h : MX M pc pc') (hf : 1 ≤ mF M) (hlo : (st.map fun v => v.category).sum + 13 ≤ mLo M) (hc1 : n ≤ nE) (kk : V G M n0 nE Z n ρ pc' L (.int (if x < y then y else x) :: st) S) : V G M n0 nE Z n ρ pc L (.int y :: .int x :: st) S :=
  fun p e s m args below meth c E H locs ls hP hS hl => by
    obtain ⟨idx, ⟨hd, rfl⟩, w1⟩ := h
    have i1 : Cond.static Lib.Math.max.name ∈ lw_tbl := List.mem_append_right _ (List.mem_of_getElem? (i := 387) (by decide +kernel))
    have i2 : Cond.code Lib.Math.max.name Lib.Math.max.code 2 (some .int) ∈ lw_tbl := List.mem_append_right _ (List.mem_of_getElem? (i := 388) (by decide +kernel))
    have i3 : Cond.initialized "java/lang/Math" ∈ lw_tbl := List.mem_append_right _ (List.mem_of_getElem? (i := 11) (by decide +kernel))
    have m2 := SZ_mono hc1
    exact va_mmax E.1 E.2.1 (by rw [E.2.2.1]; exact hl.1.1.symm) E.2.2.2.2.2.1 (E.2.2.2.2.2.2.2.1 _ w1 rfl args) (E.2.2.2.2.2.2.2.1 _ i1 rfl args) (E.2.2.2.2.2.2.2.1 _ i3 rfl args) (E.2.2.2.2.2.2.2.1 _ i2 rfl args) hf hlo (by show n - n0 ≤ nE - n0; omega) (by show SZ n - SZ n0 ≤ SZ nE - SZ n0; omega) hd (kk p e s m args below meth c E H locs ls hP hS hl)
end VH
