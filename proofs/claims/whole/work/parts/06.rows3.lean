/-! The rows, on: fields, arrays, making -/
section XRows3
variable {M : xM} {d mc ms pc : Nat} {L : xL} {st : List Value} {h : xH} {Post : Option Value → xH → Prop}
/-- a field's link: in the class itself, or of a nest mate -/
def xFd (own : String) (idx ci j : Nat) : Prop := ∃ (C : String) (T : u_T) (N : Nat), vwCl[ci]? = some (C, T, N) ∧ (∀ w ∈ u_ws C T N, w ∈ lw_good) ∧ j < N ∧ (Cond.fieldLink own idx (T j).1 (T j).2.1 (T j).2.2.1 ∈ lw_good ∨ Cond.fieldLinkNest own idx (T j).1 (T j).2.1 (T j).2.2.1 RX3 ∈ lw_nest)
theorem XW.getf (pc' : Nat) {idx ci j o : Nat} {fs : List Value} {v : Value} (hw : xFd M.1.cls idx ci j) (hd : decode M.2.1 pc = .ok (.getfield idx, 3)) (hh : h[o]? = some (.inr (ci, fs))) (hv : fs[j]? = some v) (hp : pc + 3 = pc') (k : XW M d mc ms pc' L (v :: st) h Post) : XW M d mc ms pc L (.ref o :: st) h Post := by
  subst hp
  obtain ⟨C, T, N, hc, hin, hj, hl⟩ := hw
  refine XW.row (fun p l e R s m args below meth c G Q H locs cells slots ls F P S E k => ?_) k
  have hv' : (fs.map (xv G))[j]? = some (xv G v) := by rw [List.getElem?_map, hv]; rfl
  rcases hl with hl | hl
  · exact va_get F.1 F.2.1 F.2.2.2.2.1 hin F.2.2.2.1 F.2.2.2.2.2.1.1 P o (xw_get hh) hc j hj (F.2.2.2.2.1 _ hl) (fun _ h9 => h9) hv' hd k
  · exact va_getN F.1 F.2.1 F.2.2.2.2.1 hin F.2.2.2.1 F.2.2.2.2.2.1.1 P o (xw_get hh) hc j hj ((F.2.2.2.2.2.1.2.1 _ hl).use rfl) (fun _ h9 => h9) hv' hd k
theorem XW.rowH {pc' : Nat} {st' : List Value} {h' : xH} (hl : h'.length = h.length)
    (row : ∀ (p : Program) (l : Launch) (e : Env) (R : Room) (s : State) (m : MethodId) (args : Array Value) (below : List Frame) (meth : Method) (c : Code) (G : xG) (Q : State → Prop) (H : Heap) (locs : List Loc) (cells slots : Nat) (ls : Array Slot),
      xF M d p R s m args meth c G → xP G h H → va_S (xA G) s.heap H locs → xls G ls M.2.2.1 L → (∀ (H1 : Heap) (locs1 : List Loc), xP G h' H1 → va_S (xA G) s.heap H1 locs1 → W p l e R s m args below meth c H1 locs1 cells slots Q (F0 m pc' ls (st'.map (xv G)))) → W p l e R s m args below meth c H locs cells slots Q (F0 m pc ls (st.map (xv G))))
    (k : XW M d mc ms pc' L st' h' Post) : XW M d mc ms pc L st h Post := by
  intro p l e R s m args below meth c G Q H locs cells slots C1 S1 ls F P S E b hr
  exact row p l e R s m args below meth c G Q H locs cells slots ls F P S E (fun H1 locs1 P1 S1' => k p l e R s m args below meth c G Q H1 locs1 cells slots C1 S1 ls F P1 S1' E ⟨b.1, b.2.1, b.2.2.1, b.2.2.2.1, by rw [hl]; exact b.2.2.2.2⟩ hr)
theorem xe_set (G : xG) (ci j : Nat) (fs : List Value) (v : Value) : xe G (.inr (ci, fs.set j v)) = .inr (ci, (fs.map (xv G)).set j (xv G v)) := by
  show Sum.inr (ci, (fs.set j v).map (xv G)) = _
  rw [List.map_set]
/-- a value that a field of this type takes -/
def xfit (ty : FieldType) (v : Value) : Prop := ∀ G : xG, narrow ty (xv G v) = xv G v ∧ fits ty (xv G v) = true
theorem xfit_i (x : Int32) : xfit .int (.int x) := fun _ => ⟨rfl, rfl⟩
theorem xfit_l (x : Int64) : xfit .long (.long x) := fun _ => ⟨rfl, rfl⟩
theorem xfit_a (t : FieldType) (x : Nat) : xfit (.array t) (.ref x) := fun _ => ⟨rfl, rfl⟩
theorem xfit_o (t : String) (x : Nat) : xfit (.object t) (.ref x) := fun _ => ⟨rfl, rfl⟩
/-- a field that may be written: not final, or final and its class's own, in a constructor -/
def xFp (own name : String) (idx ci j : Nat) (ty : FieldType) : Prop := ∃ (C : String) (T : u_T) (N : Nat) (ty0 : Nat → FieldType), vwCl[ci]? = some (C, T, N) ∧ (∀ w ∈ u_ws C T N, w ∈ lw_good) ∧ j < N ∧ (∀ k, k < N → parseFieldDescriptor (T k).2.2.1 = some (ty0 k)) ∧ (∀ a, a < N → ∀ b, b < N → a ≠ b → (T a).2.1 ≠ (T b).2.1) ∧ parseFieldDescriptor (T j).2.2.1 = some ty ∧
  (((T j).2.2.2 = false ∧ Cond.fieldLink own idx (T j).1 (T j).2.1 (T j).2.2.1 ∈ lw_good) ∨ ((T j).2.2.2 = false ∧ Cond.fieldLinkNest own idx (T j).1 (T j).2.1 (T j).2.2.1 RX3 ∈ lw_nest) ∨ ((T j).2.2.2 = true ∧ (T j).1 = own ∧ name = "<init>" ∧ Cond.fieldLink own idx (T j).1 (T j).2.1 (T j).2.2.1 ∈ lw_good))
theorem XW.putf (pc' : Nat) {idx ci j o : Nat} {fs : List Value} {v : Value} {ty : FieldType} {h' : xH} (hw : xFp M.1.cls M.1.name idx ci j ty) (hd : decode M.2.1 pc = .ok (.putfield idx, 3)) (hh : h[o]? = some (.inr (ci, fs))) (hj : j < fs.length) (hf : xfit ty v) (he : h.set o (.inr (ci, fs.set j v)) = h') (hp : pc + 3 = pc') (k : XW M d mc ms pc' L st h' Post) : XW M d mc ms pc L (v :: .ref o :: st) h Post := by
  subst hp; subst he
  obtain ⟨C, T, N, ty0, hc, hin, hjN, hty, hnm, hpd, hl⟩ := hw
  refine XW.rowH (by rw [List.length_set]) (fun p l e R s m args below meth c G Q H locs cells slots ls F P S E k => ?_) k
  have hl0 : j < (fs.map (xv G)).length := by rw [List.length_map]; exact hj
  have fin : ∀ (H1 : Heap) (locs1 : List Loc), va_P G.1 vwCl ((xw G h).set o (G.2.2.1 + o, .inr (ci, (fs.map (xv G)).set j (xv G v)))) H1 → va_D (xA G) ((xw G h).set o (G.2.2.1 + o, .inr (ci, (fs.map (xv G)).set j (xv G v)))) → va_S (xA G) s.heap H1 locs1 → W p l e R s m args below meth c H1 locs1 cells slots Q (F0 m (pc + 3) ls (st.map (xv G))) := by
    intro H1 locs1 hP _ hS
    rw [← xe_set, xw_set] at hP
    exact k H1 locs1 hP hS
  rcases hl with ⟨hfn, hl⟩ | ⟨hfn, hl⟩ | ⟨hfn, hdc, hin2, hl⟩
  · exact va_put F.1 F.2.1 F.2.2.2.2.1 hin ty0 hty hnm F.2.2.2.1 F.2.2.2.2.2.1.1 P (xw_D G h) S o (xw_get hh) hc j hjN (F.2.2.2.2.1 _ hl) (fun _ h9 => h9) hfn hpd (hf G).1 (hf G).2 hl0 hd fin
  · exact va_putN F.1 F.2.1 F.2.2.2.2.1 hin ty0 hty hnm F.2.2.2.1 F.2.2.2.2.2.1.1 P (xw_D G h) S o (xw_get hh) hc j hjN ((F.2.2.2.2.2.1.2.1 _ hl).use rfl) (fun _ h9 => h9) hfn hpd (hf G).1 (hf G).2 hl0 hd fin
  · exact va_putF F.1 F.2.1 F.2.2.2.2.1 hin ty0 hty hnm F.2.2.2.1 F.2.2.2.2.2.1.1 P (xw_D G h) S o (xw_get hh) hc j hjN (F.2.2.2.2.1 _ hl) (fun _ h9 => h9) hfn (F.2.2.2.2.2.2.2.1.trans hin2) hdc hpd (hf G).1 (hf G).2 hl0 hd fin
-- arrays
theorem xP_set {G : xG} {h : xH} {H1 : Heap} {o : Nat} {c : xC} (hP : va_P G.1 vwCl ((xw G h).set o (G.2.2.1 + o, xe G c)) H1) : xP G (h.set o c) H1 := by
  rw [xw_set] at hP; exact hP
theorem XW.iald (pc' : Nat) {o n : Nat} {f : Nat → Int32} {i : Int32} (j : Nat) (hd : decode M.2.1 pc = .ok (.iaload, 1)) (hh : h[o]? = some (.inl (n, .inl f))) (hi : i = nI j) (hj : j < n) (hn : n < 2 ^ 31) (hp : pc + 1 = pc') (k : XW M d mc ms pc' L (.int (f j) :: st) h Post) : XW M d mc ms pc L (.int i :: .ref o :: st) h Post := by
  subst hp; subst hi
  have hc : (nI j).toNatClampNeg = j := nI_clamp (by omega)
  refine XW.row (fun p l e R s m args below meth c G Q H locs cells slots ls F P S E k => ?_) k
  refine va_iald (i := nI j) F.1 F.2.1 F.2.2.2.2.2.1.1 P o 0 (xw_get hh) rfl (vp_in_nI hj hn) hd ?_
  rw [hc]; exact k
theorem XW.sald (pc' : Nat) {x n : Nat} {f : Nat → Int32} {i : Int32} (j : Nat) (hm : M.2.2.2.2 = some (n, f)) (hd : decode M.2.1 pc = .ok (.iaload, 1)) (hi : i = nI j) (hj : j < n) (hn : n < 2 ^ 31) (hp : pc + 1 = pc') (k : XW M d mc ms pc' L (.int (f j) :: st) h Post) : XW M d mc ms pc L (.int i :: .retAddr x :: st) h Post := by
  subst hp; subst hi
  have hc : (nI j).toNatClampNeg = j := nI_clamp (by omega)
  refine XW.row (fun p l e R s m args below meth c G Q H locs cells slots ls F P S E k => ?_) k
  have hX := F.2.2.2.2.2.2.2.2.2.1
  unfold xX at hX
  rw [hm] at hX
  refine va_sld (i := nI j) F.1 F.2.1 hX.1 hX.2.1 (Nat.not_le.mpr hX.2.2) S (vp_in_nI hj hn) hd ?_
  rw [hc]; exact k
theorem XW.slen (pc' : Nat) {x n : Nat} {f : Nat → Int32} (hm : M.2.2.2.2 = some (n, f)) (hd : decode M.2.1 pc = .ok (.arraylength, 1)) (hp : pc + 1 = pc') (k : XW M d mc ms pc' L (.int (nI n) :: st) h Post) : XW M d mc ms pc L (.retAddr x :: st) h Post := by
  subst hp
  refine XW.row (fun p l e R s m args below meth c G Q H locs cells slots ls F P S E k => ?_) k
  have hX := F.2.2.2.2.2.2.2.2.2.1
  unfold xX at hX
  rw [hm] at hX
  exact va_slen F.1 F.2.1 hX.1 hX.2.1 (Nat.not_le.mpr hX.2.2) S hd k
theorem XW.fald (pc' : Nat) {o n : Nat} {f : Nat → UInt32} {i : Int32} (j : Nat) (hd : decode M.2.1 pc = .ok (.faload, 1)) (hh : h[o]? = some (.inl (n, .inr (.inr (.inl f))))) (hi : i = nI j) (hj : j < n) (hn : n < 2 ^ 31) (hp : pc + 1 = pc') (k : XW M d mc ms pc' L (.float (f j) :: st) h Post) : XW M d mc ms pc L (.int i :: .ref o :: st) h Post := by
  subst hp; subst hi
  have hc : (nI j).toNatClampNeg = j := nI_clamp (by omega)
  refine XW.row (fun p l e R s m args below meth c G Q H locs cells slots ls F P S E k => ?_) k
  refine va_fald (i := nI j) F.1 F.2.1 F.2.2.2.2.2.1.1 P o 1 (xw_get hh) rfl (vp_in_nI hj hn) hd ?_
  rw [hc]; exact k
theorem XW.aald (pc' : Nat) {o n q : Nat} {f : Nat → Option Nat} {i : Int32} (j : Nat) (hd : decode M.2.1 pc = .ok (.aaload, 1)) (hh : h[o]? = some (.inl (n, .inr (.inr (.inr (.inr f)))))) (hi : i = nI j) (hj : j < n) (hn : n < 2 ^ 31) (hq : f j = some q) (hp : pc + 1 = pc') (k : XW M d mc ms pc' L (.ref q :: st) h Post) : XW M d mc ms pc L (.int i :: .ref o :: st) h Post := by
  subst hp; subst hi
  have hc : (nI j).toNatClampNeg = j := nI_clamp (by omega)
  refine XW.row (fun p l e R s m args below meth c G Q H locs cells slots ls F P S E k => ?_) k
  refine va_aldq (i := nI j) F.1 F.2.1 F.2.2.2.2.2.1.1 P o 2 (xw_get hh) rfl (vp_in_nI hj hn) hd ?_
  rw [hc]
  simp only [hq, Option.map_some]
  exact k
theorem XW.alen (pc' : Nat) {o : Nat} {a : vp_A} {v : Int32} (hd : decode M.2.1 pc = .ok (.arraylength, 1)) (hh : h[o]? = some (.inl a)) (hv : Int32.ofNat a.1 = v) (hp : pc + 1 = pc') (k : XW M d mc ms pc' L (.int v :: st) h Post) : XW M d mc ms pc L (.ref o :: st) h Post := by
  subst hp; subst hv
  refine XW.row (fun p l e R s m args below meth c G Q H locs cells slots ls F P S E k => ?_) k
  obtain ⟨n, f | f | f | f | f⟩ := a
  · exact va_alen F.1 F.2.1 F.2.2.2.2.2.1.1 P o 0 (xw_get hh) rfl rfl hd k
  · exact va_alen F.1 F.2.1 F.2.2.2.2.2.1.1 P o 0 (xw_get hh) rfl rfl hd k
  · exact va_alen F.1 F.2.1 F.2.2.2.2.2.1.1 P o 1 (xw_get hh) rfl rfl hd k
  · exact va_alen F.1 F.2.1 F.2.2.2.2.2.1.1 P o 1 (xw_get hh) rfl rfl hd k
  · exact va_alen F.1 F.2.1 F.2.2.2.2.2.1.1 P o 2 (xw_get hh) rfl rfl hd k
theorem XW.iast (pc' : Nat) {o n : Nat} {f : Nat → Int32} {i x : Int32} {h' : xH} (j : Nat) (hd : decode M.2.1 pc = .ok (.iastore, 1)) (hh : h[o]? = some (.inl (n, .inl f))) (hi : i = nI j) (hj : j < n) (hn : n < 2 ^ 31) (he : h.set o (.inl (n, .inl (upd f j x))) = h') (hp : pc + 1 = pc') (k : XW M d mc ms pc' L st h' Post) : XW M d mc ms pc L (.int x :: .int i :: .ref o :: st) h Post := by
  subst hp; subst hi; subst he
  have hc : (nI j).toNatClampNeg = j := nI_clamp (by omega)
  refine XW.rowH (by rw [List.length_set]) (fun p l e R s m args below meth c G Q H locs cells slots ls F P S E k => ?_) k
  refine va_iast (i := nI j) F.1 F.2.1 F.2.2.2.2.2.1.1 P (xw_D G h) S o 0 (xw_get hh) rfl (vp_in_nI hj hn) hd (fun H1 locs1 hP _ hS => ?_)
  rw [hc] at hP
  exact k H1 locs1 (xP_set (c := .inl (n, .inl (upd f j x))) hP) hS
theorem XW.fast (pc' : Nat) {o n : Nat} {f : Nat → UInt32} {i : Int32} {x : UInt32} {h' : xH} (j : Nat) (hd : decode M.2.1 pc = .ok (.fastore, 1)) (hh : h[o]? = some (.inl (n, .inr (.inr (.inl f))))) (hi : i = nI j) (hj : j < n) (hn : n < 2 ^ 31) (he : h.set o (.inl (n, .inr (.inr (.inl (vf_upd f j x))))) = h') (hp : pc + 1 = pc') (k : XW M d mc ms pc' L st h' Post) : XW M d mc ms pc L (.float x :: .int i :: .ref o :: st) h Post := by
  subst hp; subst hi; subst he
  have hc : (nI j).toNatClampNeg = j := nI_clamp (by omega)
  refine XW.rowH (by rw [List.length_set]) (fun p l e R s m args below meth c G Q H locs cells slots ls F P S E k => ?_) k
  refine va_fast (i := nI j) F.1 F.2.1 F.2.2.2.2.2.1.1 P (xw_D G h) S o 1 (xw_get hh) rfl (vp_in_nI hj hn) hd (fun H1 locs1 hP _ hS => ?_)
  rw [hc] at hP
  exact k H1 locs1 (xP_set (c := .inl (n, .inr (.inr (.inl (vf_upd f j x))))) hP) hS
theorem XW.aast (pc' : Nat) {o n q : Nat} {f : Nat → Option Nat} {i : Int32} {fs : List Value} {h' : xH} (j : Nat) (hd : decode M.2.1 pc = .ok (.aastore, 1)) (hh : h[o]? = some (.inl (n, .inr (.inr (.inr (.inr f)))))) (hq : h[q]? = some (.inr (1, fs))) (hi : i = nI j) (hj : j < n) (hn : n < 2 ^ 31) (he : h.set o (.inl (n, .inr (.inr (.inr (.inr (va_up f j (some q))))))) = h') (hp : pc + 1 = pc') (k : XW M d mc ms pc' L st h' Post) : XW M d mc ms pc L (.ref q :: .int i :: .ref o :: st) h Post := by
  subst hp; subst hi; subst he
  have hc : (nI j).toNatClampNeg = j := nI_clamp (by omega)
  refine XW.rowH (by rw [List.length_set]) (fun p l e R s m args below meth c G Q H locs cells slots ls F P S E k => ?_) k
  refine va_astq (i := nI j) F.1 F.2.1 F.2.2.2.2.2.1.1 P (xw_D G h) S o 2 q 1 (r := (RX1, TX1, 8)) (xw_get hh) rfl (xw_get hq) rfl (vp_in_nI hj hn) hd (fun H1 locs1 hP _ hS => ?_)
  rw [hc] at hP
  have e1 : (va_up (fun j => (f j).map (fun k => G.2.2.1 + k)) j (some (G.2.2.1 + q))) = (fun i => (va_up f j (some q) i).map (fun k => G.2.2.1 + k)) := by
    funext i
    unfold va_up
    by_cases e : i = j
    · simp [e]
    · simp [e]
  rw [e1] at hP
  exact k H1 locs1 (xP_set (c := .inl (n, .inr (.inr (.inr (.inr (va_up f j (some q))))))) hP) hS
end XRows3
