/-! A uniform world: the cells that the run has made, numbered 0, 1, .. in the order of their making; values whose references are such numbers (the law's own script is written retAddr 0) -/
abbrev xC : Type := vp_A ⊕ (Nat × List Value)
abbrev xH : Type := List xC
abbrev xL : Type := List (Option Value)
/-- a method: its name, code, size of its locals, what it returns; the script, where it has it -/
abbrev xM : Type := MethodName × ByteArray × Nat × Option FieldType × Option (Nat × (Nat → Int32))
/-- where a world lies: the classes' numbers and slots; the three array classes; the first cell; the script's cell -/
abbrev xG : Type := va_G × (ClassId × ClassId × ClassId) × Nat × Nat
def xv (G : xG) : Value → Value
  | .ref k => .ref (G.2.2.1 + k)
  | .retAddr _ => .ref G.2.2.2
  | v => v
def xe (G : xG) : xC → va_E
  | .inr (ci, fs) => .inr (ci, fs.map (xv G))
  | .inl (n, .inl f) => .inl (G.2.1.1, n, .inl f)
  | .inl (n, .inr (.inl f)) => .inl (G.2.1.1, n, .inr (.inl f))
  | .inl (n, .inr (.inr (.inl f))) => .inl (G.2.1.2.1, n, .inr (.inr (.inl f)))
  | .inl (n, .inr (.inr (.inr (.inl f)))) => .inl (G.2.1.2.1, n, .inr (.inr (.inr (.inl f))))
  | .inl (n, .inr (.inr (.inr (.inr f)))) => .inl (G.2.1.2.2, n, .inr (.inr (.inr (.inr (fun j => (f j).map (fun k => G.2.2.1 + k))))))
def xw (G : xG) (h : xH) : va_W := h.mapIdx (fun k c => (G.2.2.1 + k, xe G c))
abbrev xty (G : xG) : List (ClassId × FieldType) := [(G.2.1.1, .int), (G.2.1.2.1, .float), (G.2.1.2.2, .object RX1)]
abbrev xA (G : xG) : Nat → Prop := fun q => G.2.2.1 ≤ q
theorem xw_get {G : xG} {h : xH} {k : Nat} {c : xC} (hk : h[k]? = some c) : (xw G h)[k]? = some (G.2.2.1 + k, xe G c) := by
  unfold xw; rw [List.getElem?_mapIdx, hk]; rfl
theorem xw_getI {G : xG} {h : xH} {k : Nat} {q : Nat × va_E} (hk : (xw G h)[k]? = some q) : ∃ c, h[k]? = some c ∧ q = (G.2.2.1 + k, xe G c) := by
  unfold xw at hk; rw [List.getElem?_mapIdx] at hk
  cases hc : h[k]? with
  | none => rw [hc] at hk; cases hk
  | some c => rw [hc] at hk; exact ⟨c, rfl, (Option.some.inj hk).symm⟩
theorem xw_set {G : xG} {h : xH} {k : Nat} {c : xC} : (xw G h).set k (G.2.2.1 + k, xe G c) = xw G (h.set k c) := by
  apply List.ext_getElem?
  intro j
  unfold xw
  rw [List.getElem?_set, List.getElem?_mapIdx, List.getElem?_mapIdx, List.getElem?_set, List.length_mapIdx]
  by_cases e : k = j
  · subst e
    by_cases l : k < h.length
    · simp [l]
    · simp [l]
  · simp [e]
theorem xw_push {G : xG} {h : xH} {c : xC} : xw G h ++ [(G.2.2.1 + h.length, xe G c)] = xw G (h ++ [c]) := by
  unfold xw
  rw [List.mapIdx_append]
  simp
/-- the cells lie apart, all from the first on -/
theorem xw_D (G : xG) (h : xH) : va_D (xA G) (xw G h) := by
  refine ⟨fun i j p q hi hj e => ?_, fun k q hk => ?_⟩
  · obtain ⟨c, -, rfl⟩ := xw_getI hi
    obtain ⟨d, -, rfl⟩ := xw_getI hj
    have e : G.2.2.1 + i = G.2.2.1 + j := e
    omega
  · obtain ⟨c, -, rfl⟩ := xw_getI hk
    exact Nat.le_add_right _ _
/-- the heap holds the world -/
def xP (G : xG) (h : xH) (H : Heap) : Prop := va_P G.1 vwCl (xw G h) H
/-- the locals -/
def xls (G : xG) (ls : Array Slot) (n : Nat) (L : xL) : Prop := ls.size = n ∧ lv_wf ls ∧ ∀ (i : Nat) (v : Value), L[i]? = some (some v) → ls[i]? = some (.val (xv G v))
def xisN : Cond → Bool
  | .fieldLinkNest .. => true
  | .methodLinkNest .. => true
  | _ => false
def lw_good : List Cond := lw_tbl.filter goodWord
def lw_nest : List Cond := lw_tbl.filter xisN
theorem xNw_warm {w : Cond} (hw : xisN w = true) {s U : State} (hW : s.WarmedH U.vm) (h : va_Nw w s) : va_Nw w U := by
  cases w <;> first | (cases hw; done) | exact va_Nw.warmF hW h | exact va_Nw.warmM hW h
theorem xNw_same {w : Cond} (hw : xisN w = true) {s U : State} (hv : s.vm = U.vm) (h : va_Nw w s) : va_Nw w U := by
  cases w <;> first | (cases hw; done) | exact va_Nw.same rfl hv h
/-- what the tables say of a state -/
def xK (G : xG) (U : State) : Prop := va_K G.1 vwCl (xty G) U ∧ (∀ w ∈ lw_nest, va_Nw w U) ∧ va_AO RX1 U
theorem xK.warm {G : xG} {s U : State} (hW : s.WarmedH U.vm) (h : xK G s) : xK G U :=
  ⟨va_K.moved hW.alike h.1, fun w hw => xNw_warm (List.mem_filter.mp hw).2 hW (h.2.1 w hw), va_AO.moved hW.alike h.2.2⟩
theorem xK.same {G : xG} {s U : State} (hv : s.vm = U.vm) (h : xK G s) : xK G U :=
  ⟨va_K.moved (hv ▸ Vm.Alike.refl s.vm) h.1, fun w hw => xNw_same (List.mem_filter.mp hw).2 hv (h.2.1 w hw), va_AO.moved (hv ▸ Vm.Alike.refl s.vm) h.2.2⟩
/-- the script, where the frame has it -/
def xX (scr : Option (Nat × (Nat → Int32))) (G : xG) (s : State) : Prop := match scr with
  | none => True
  | some (n, f) => va_X G.2.2.2 n f s s.heap ∧ G.2.2.2 < s.heap.size ∧ G.2.2.2 < G.2.2.1
/-- a frame of the method M, with room for d calls below it -/
def xF (M : xM) (d : Nat) (p : Program) (R : Room) (s : State) (m : MethodId) (args : Array Value) (meth : Method) (c : Code) (G : xG) : Prop :=
  p.tables.exec = Jvm.exec ∧ c.code = M.2.1 ∧ c.maxLocals = M.2.2.1 ∧ s.vm.findClass M.1.cls = some m.cls ∧ (∀ w ∈ lw_good, w.before args s = true) ∧ xK G s ∧ G.2.2.1 ≤ s.heap.size ∧ meth.name = M.1.name ∧ meth.locks = false ∧ xX M.2.2.2.2 G s ∧ d ≤ R.frames ∧ 38 * d ≤ R.locals
/-- a value that the method may return -/
def xnar : Option FieldType → Option Value → Prop
  | none, none => True
  | some ty, some (.int v) => narrow ty (.int v) = .int v
  | some .long, some (.long _) => True
  | some .float, some (.float _) => True
  | _, _ => False
def xrins : Option Value → Instr
  | none => .return_
  | some (.int _) => .ireturn
  | some (.long _) => .lreturn
  | some (.float _) => .freturn
  | some _ => .areturn
/-- the count of cells and slots: so many are to come yet; the world ends where the heap ends -/
def xB (G : xG) (h : xH) (s : State) (R : Room) (mc ms cells slots C1 S1 : Nat) : Prop := cells + mc = C1 ∧ slots + ms ≤ S1 ∧ C1 ≤ R.cells ∧ S1 ≤ R.slots ∧ G.2.2.1 + h.length = s.heap.size + cells
theorem xP.size {p : Program} {l : Launch} {e : Env} {R : Room} {s : State} {m : MethodId} {args : Array Value} {below : List Frame} {meth : Method} {c : Code} {T : State} {H : Heap} {locs : List Loc} {cells slots : Nat} {G : xG} {h : xH} (P : xP G h H) (hb0 : G.2.2.1 ≤ s.heap.size) (hT : T.heap = H) (X : Stand p l e R s m args below meth c T locs cells slots) (hz : G.2.2.1 + h.length = s.heap.size + cells) : H.size = G.2.2.1 + h.length := by
  have h1 : (T.setVm s.vm).heap.size ≤ s.heap.size + cells := X.same.2.2.1
  have h2 : s.heap.size ≤ (T.setVm s.vm).heap.size := X.same.2.1
  have e1 : (T.setVm s.vm).heap = H := hT
  rw [e1] at h1 h2
  cases hl : h.length with
  | zero => omega
  | succ n =>
    have hn : n < h.length := by omega
    have h3 : _ < H.size := (P n _ (xw_get (List.getElem?_eq_getElem hn))).lt
    have h3 : G.2.2.1 + n < H.size := h3
    omega
/-- from this point of the method on: it returns, with Post; it makes mc cells of at most ms slots -/
def XW (M : xM) (d mc ms : Nat) (pc : Nat) (L : xL) (st : List Value) (h : xH) (Post : Option Value → xH → Prop) : Prop :=
  ∀ (p : Program) (l : Launch) (e : Env) (R : Room) (s : State) (m : MethodId) (args : Array Value) (below : List Frame) (meth : Method) (c : Code) (G : xG) (Q : State → Prop) (H : Heap) (locs : List Loc) (cells slots C1 S1 : Nat) (ls : Array Slot),
    xF M d p R s m args meth c G → xP G h H → va_S (xA G) s.heap H locs → xls G ls M.2.2.1 L → xB G h s R mc ms cells slots C1 S1 →
    (∀ (pc : Nat) (ls : Array Slot) (r : Option Value) (h' : xH) (H' : Heap) (locs' : List Loc), Post r h' → xnar M.2.2.2.1 r → decode M.2.1 pc = .ok (xrins r, 1) → xP G h' H' → va_S (xA G) s.heap H' locs' → G.2.2.1 + h'.length = s.heap.size + C1 → W p l e R s m args below meth c H' locs' C1 S1 Q (F0 m pc ls (r.toList.map (xv G)))) →
    W p l e R s m args below meth c H locs cells slots Q (F0 m pc ls (st.map (xv G)))
