/-! The rows, on: stores, arithmetic, branches -/
section XRows2
variable {M : xM} {d mc ms pc : Nat} {L : xL} {st : List Value} {h : xH} {Post : Option Value → xH → Prop}
def xen (G : xG) (L : xL) : List (Nat × Value) := L.zipIdx.filterMap (fun q => q.1.map (fun v => (q.2, xv G v)))
theorem mem_xen {G : xG} {L : xL} {i : Nat} {w : Value} : (i, w) ∈ xen G L ↔ ∃ v, L[i]? = some (some v) ∧ w = xv G v := by
  unfold xen
  rw [List.mem_filterMap]
  constructor
  · rintro ⟨⟨o, j⟩, hm, hq⟩
    have hm := List.mem_zipIdx_iff_getElem?.mp hm
    cases o with
    | none => cases hq
    | some v =>
      simp only [Option.map_some, Option.some.injEq, Prod.mk.injEq] at hq
      obtain ⟨rfl, rfl⟩ := hq
      exact ⟨v, hm, rfl⟩
  · rintro ⟨v, hv, rfl⟩
    exact ⟨(some v, i), List.mem_zipIdx_iff_getElem?.mpr hv, rfl⟩
theorem xls_has {G : xG} {ls : Array Slot} {n : Nat} {L : xL} (E : xls G ls n L) : lv_has ls n (xen G L) := by
  refine ⟨E.1, E.2.1, fun q hq => ?_⟩
  obtain ⟨i, w⟩ := q
  obtain ⟨v, hv, rfl⟩ := mem_xen.mp hq
  exact E.2.2 i v hv
/-- no long or double stands ahead of this place -/
def xno2 (L : xL) (i : Nat) : Bool := match i with
  | 0 => true
  | j + 1 => match L[j]? with
    | some (some v) => v.category == 1
    | _ => true
theorem xv_cat (G : xG) (v : Value) : (xv G v).category = v.category := by cases v <;> rfl
theorem xls_set {G : xG} {ls' : Array Slot} {n i : Nat} {L : xL} {v : Value} (h2 : xno2 L i = true) (E : lv_has ls' n ((i, xv G v) :: (xen G L).filter (fun q => !(q.1 == i) && !(q.1 + 1 == i && q.2.category == 2)))) : xls G ls' n (L.set i (some v)) := by
  refine ⟨E.1, E.2.1, fun j w hw => ?_⟩
  rw [List.getElem?_set] at hw
  by_cases e : i = j
  · subst e
    rw [if_pos rfl] at hw
    by_cases l : i < L.length
    · rw [if_pos l] at hw
      cases hw
      exact E.2.2 (i, xv G v) List.mem_cons_self
    · rw [if_neg l] at hw
      cases hw
  · rw [if_neg e] at hw
    refine E.2.2 (j, xv G w) (List.mem_cons_of_mem _ (List.mem_filter.mpr ⟨mem_xen.mpr ⟨w, hw, rfl⟩, ?_⟩))
    have e1 : (j == i) = false := by simp; exact fun q => e q.symm
    simp only [e1, xv_cat]
    by_cases e2 : j + 1 = i
    · subst e2
      simp only [xno2, hw] at h2
      have h3 : w.category = 1 := by simpa using h2
      simp [h3]
    · simp [e2]
/-- a long takes two places -/
theorem xls_set2 {G : xG} {ls' : Array Slot} {n i : Nat} {L : xL} {v : Value} (h2 : xno2 L i = true) (E : lv_has ls' n ((i, xv G v) :: (xen G L).filter (fun q => !(q.1 == i) && (!(q.1 == i + 1) && !(q.1 + 1 == i && q.2.category == 2))))) : xls G ls' n ((L.set i (some v)).set (i + 1) none) := by
  refine ⟨E.1, E.2.1, fun j w hw => ?_⟩
  rw [List.getElem?_set, List.getElem?_set] at hw
  by_cases f : i + 1 = j
  · rw [if_pos f] at hw
    split at hw <;> cases hw
  · rw [if_neg f] at hw
    by_cases e : i = j
    · subst e
      rw [if_pos rfl] at hw
      by_cases l : i < L.length
      · rw [if_pos l] at hw
        cases hw
        exact E.2.2 (i, xv G v) List.mem_cons_self
      · rw [if_neg l] at hw
        cases hw
    · rw [if_neg e] at hw
      refine E.2.2 (j, xv G w) (List.mem_cons_of_mem _ (List.mem_filter.mpr ⟨mem_xen.mpr ⟨w, hw, rfl⟩, ?_⟩))
      have e1 : (j == i) = false := by simp; exact fun q => e q.symm
      have e3 : (j == i + 1) = false := by simp; exact fun q => f q.symm
      simp only [e1, e3, xv_cat]
      by_cases e2 : j + 1 = i
      · subst e2
        simp only [xno2, hw] at h2
        have h3 : w.category = 1 := by simpa using h2
        simp [h3]
      · simp [e2]
theorem XW.rowL {pc' : Nat} {st' : List Value} {L' : xL}
    (row : ∀ (p : Program) (l : Launch) (e : Env) (R : Room) (s : State) (m : MethodId) (args : Array Value) (below : List Frame) (meth : Method) (c : Code) (G : xG) (Q : State → Prop) (H : Heap) (locs : List Loc) (cells slots : Nat) (ls : Array Slot),
      xF M d p R s m args meth c G → xls G ls M.2.2.1 L → (∀ ls' : Array Slot, xls G ls' M.2.2.1 L' → W p l e R s m args below meth c H locs cells slots Q (F0 m pc' ls' (st'.map (xv G)))) → W p l e R s m args below meth c H locs cells slots Q (F0 m pc ls (st.map (xv G))))
    (k : XW M d mc ms pc' L' st' h Post) : XW M d mc ms pc L st h Post := by
  intro p l e R s m args below meth c G Q H locs cells slots C1 S1 ls F P S E b hr
  exact row p l e R s m args below meth c G Q H locs cells slots ls F E (fun ls' E' => k p l e R s m args below meth c G Q H locs cells slots C1 S1 ls' F P S E' b hr)

theorem XW.istore_n (pc' : Nat) {n : Fin 4} {x : Int32} {L' : xL} (hd : decode M.2.1 pc = .ok (.istore_n n, 1)) (hn : (n : Nat) < M.2.2.1) (h2 : xno2 L (n : Nat) = true) (hl : L.set (n : Nat) (some (.int x)) = L') (hp : pc + 1 = pc') (k : XW M d mc ms pc' L' st h Post) : XW M d mc ms pc L (.int x :: st) h Post := by
  subst hp; subst hl; exact XW.rowL (fun p l e R s m args below meth c G Q H locs cells slots ls F E k => lv_istore_n F.1 F.2.1 hd rfl (xls_has E) hn rfl (fun ls' E' => k ls' (xls_set (v := .int x) h2 E'))) k
theorem XW.istore (pc' : Nat) {n : Nat} {x : Int32} {L' : xL} (hd : decode M.2.1 pc = .ok (.istore n, 2)) (hn : n < M.2.2.1) (h2 : xno2 L n = true) (hl : L.set n (some (.int x)) = L') (hp : pc + 2 = pc') (k : XW M d mc ms pc' L' st h Post) : XW M d mc ms pc L (.int x :: st) h Post := by
  subst hp; subst hl; exact XW.rowL (fun p l e R s m args below meth c G Q H locs cells slots ls F E k => lv_istore F.1 F.2.1 hd (xls_has E) hn rfl (fun ls' E' => k ls' (xls_set (v := .int x) h2 E'))) k
theorem XW.fstore_n (pc' : Nat) {n : Fin 4} {x : UInt32} {L' : xL} (hd : decode M.2.1 pc = .ok (.fstore_n n, 1)) (hn : (n : Nat) < M.2.2.1) (h2 : xno2 L (n : Nat) = true) (hl : L.set (n : Nat) (some (.float x)) = L') (hp : pc + 1 = pc') (k : XW M d mc ms pc' L' st h Post) : XW M d mc ms pc L (.float x :: st) h Post := by
  subst hp; subst hl; exact XW.rowL (fun p l e R s m args below meth c G Q H locs cells slots ls F E k => lv_fstore_n F.1 F.2.1 hd rfl (xls_has E) hn rfl (fun ls' E' => k ls' (xls_set (v := .float x) h2 E'))) k
theorem XW.fstore (pc' : Nat) {n : Nat} {x : UInt32} {L' : xL} (hd : decode M.2.1 pc = .ok (.fstore n, 2)) (hn : n < M.2.2.1) (h2 : xno2 L n = true) (hl : L.set n (some (.float x)) = L') (hp : pc + 2 = pc') (k : XW M d mc ms pc' L' st h Post) : XW M d mc ms pc L (.float x :: st) h Post := by
  subst hp; subst hl; exact XW.rowL (fun p l e R s m args below meth c G Q H locs cells slots ls F E k => lv_fstore F.1 F.2.1 hd (xls_has E) hn rfl (fun ls' E' => k ls' (xls_set (v := .float x) h2 E'))) k
theorem XW.astore_n (pc' : Nat) {n : Fin 4} {x : Nat} {L' : xL} (hd : decode M.2.1 pc = .ok (.astore_n n, 1)) (hn : (n : Nat) < M.2.2.1) (h2 : xno2 L (n : Nat) = true) (hl : L.set (n : Nat) (some (.ref x)) = L') (hp : pc + 1 = pc') (k : XW M d mc ms pc' L' st h Post) : XW M d mc ms pc L (.ref x :: st) h Post := by
  subst hp; subst hl; exact XW.rowL (fun p l e R s m args below meth c G Q H locs cells slots ls F E k => lv_astore_n F.1 F.2.1 hd rfl (xls_has E) hn rfl (fun ls' E' => k ls' (xls_set (v := .ref x) h2 E'))) k
theorem XW.lstore_n (pc' : Nat) {n : Fin 4} {x : Int64} {L' : xL} (hd : decode M.2.1 pc = .ok (.lstore_n n, 1)) (hn : (n : Nat) + 1 < M.2.2.1) (h2 : xno2 L (n : Nat) = true) (hl : (L.set (n : Nat) (some (.long x))).set ((n : Nat) + 1) none = L') (hp : pc + 1 = pc') (k : XW M d mc ms pc' L' st h Post) : XW M d mc ms pc L (.long x :: st) h Post := by
  subst hp; subst hl; exact XW.rowL (fun p l e R s m args below meth c G Q H locs cells slots ls F E k => lv_lstore_n F.1 F.2.1 hd rfl (xls_has E) hn rfl (fun ls' E' => k ls' (xls_set2 (v := .long x) h2 E'))) k
theorem XW.iinc (pc' : Nat) {n : Nat} {z : Int} {x y : Int32} {L' : xL} (hd : decode M.2.1 pc = .ok (.iinc n z, 3)) (hx : L[n]? = some (some (.int x))) (hv : x + Int32.ofInt z = y) (hn : n < M.2.2.1) (h2 : xno2 L n = true) (hl : L.set n (some (.int y)) = L') (hp : pc + 3 = pc') (k : XW M d mc ms pc' L' st h Post) : XW M d mc ms pc L st h Post := by
  subst hp; subst hl; subst hv
  refine XW.rowL (fun p l e R s m args below meth c G Q H locs cells slots ls F E k => ?_) k
  obtain ⟨k0, hk0⟩ := List.getElem?_of_mem (mem_xen.mpr ⟨_, hx, rfl⟩ : (n, xv G (.int x)) ∈ xen G L)
  exact lv_iinc F.1 F.2.1 hd (xls_has E) hk0 rfl hn rfl (fun ls' E' => k ls' (xls_set (v := .int (x + Int32.ofInt z)) h2 E'))
theorem XW.iadd (pc' : Nat) {x y : Int32} (hd : decode M.2.1 pc = .ok (.iadd, 1)) (hp : pc + 1 = pc') (k : XW M d mc ms pc' L (.int (x + y) :: st) h Post) : XW M d mc ms pc L (.int y :: .int x :: st) h Post := by
  subst hp; exact XW.row (fun p l e R s m args below meth c G Q H locs cells slots ls F P S E k => lv_iadd F.1 F.2.1 hd k) k
theorem XW.isub (pc' : Nat) {x y : Int32} (hd : decode M.2.1 pc = .ok (.isub, 1)) (hp : pc + 1 = pc') (k : XW M d mc ms pc' L (.int (x - y) :: st) h Post) : XW M d mc ms pc L (.int y :: .int x :: st) h Post := by
  subst hp; exact XW.row (fun p l e R s m args below meth c G Q H locs cells slots ls F P S E k => lv_isub F.1 F.2.1 hd k) k
theorem XW.imul (pc' : Nat) {x y : Int32} (hd : decode M.2.1 pc = .ok (.imul, 1)) (hp : pc + 1 = pc') (k : XW M d mc ms pc' L (.int (x * y) :: st) h Post) : XW M d mc ms pc L (.int y :: .int x :: st) h Post := by
  subst hp; exact XW.row (fun p l e R s m args below meth c G Q H locs cells slots ls F P S E k => lv_imul F.1 F.2.1 hd k) k
theorem XW.iand (pc' : Nat) {x y : Int32} (hd : decode M.2.1 pc = .ok (.iand, 1)) (hp : pc + 1 = pc') (k : XW M d mc ms pc' L (.int (x &&& y) :: st) h Post) : XW M d mc ms pc L (.int y :: .int x :: st) h Post := by
  subst hp; exact XW.row (fun p l e R s m args below meth c G Q H locs cells slots ls F P S E k => lv_iand F.1 F.2.1 hd k) k
theorem XW.ior (pc' : Nat) {x y : Int32} (hd : decode M.2.1 pc = .ok (.ior, 1)) (hp : pc + 1 = pc') (k : XW M d mc ms pc' L (.int (x ||| y) :: st) h Post) : XW M d mc ms pc L (.int y :: .int x :: st) h Post := by
  subst hp; exact XW.row (fun p l e R s m args below meth c G Q H locs cells slots ls F P S E k => lv_ior F.1 F.2.1 hd k) k
theorem XW.ixor (pc' : Nat) {x y : Int32} (hd : decode M.2.1 pc = .ok (.ixor, 1)) (hp : pc + 1 = pc') (k : XW M d mc ms pc' L (.int (x ^^^ y) :: st) h Post) : XW M d mc ms pc L (.int y :: .int x :: st) h Post := by
  subst hp; exact XW.row (fun p l e R s m args below meth c G Q H locs cells slots ls F P S E k => lv_ixor F.1 F.2.1 hd k) k
theorem XW.ishl (pc' : Nat) {x y : Int32} (hd : decode M.2.1 pc = .ok (.ishl, 1)) (hp : pc + 1 = pc') (k : XW M d mc ms pc' L (.int (x <<< (y &&& 31)) :: st) h Post) : XW M d mc ms pc L (.int y :: .int x :: st) h Post := by
  subst hp; exact XW.row (fun p l e R s m args below meth c G Q H locs cells slots ls F P S E k => lv_ishl F.1 F.2.1 hd k) k
theorem XW.ishr (pc' : Nat) {x y : Int32} (hd : decode M.2.1 pc = .ok (.ishr, 1)) (hp : pc + 1 = pc') (k : XW M d mc ms pc' L (.int (x >>> (y &&& 31)) :: st) h Post) : XW M d mc ms pc L (.int y :: .int x :: st) h Post := by
  subst hp; exact XW.row (fun p l e R s m args below meth c G Q H locs cells slots ls F P S E k => lv_ishr F.1 F.2.1 hd k) k
theorem XW.iushr (pc' : Nat) {x y : Int32} (hd : decode M.2.1 pc = .ok (.iushr, 1)) (hp : pc + 1 = pc') (k : XW M d mc ms pc' L (.int (x.toUInt32 >>> (y.toUInt32 &&& Int32.toUInt32 31)).toInt32 :: st) h Post) : XW M d mc ms pc L (.int y :: .int x :: st) h Post := by
  subst hp; exact XW.row (fun p l e R s m args below meth c G Q H locs cells slots ls F P S E k => lv_iushr F.1 F.2.1 hd rfl k) k
theorem XW.ineg (pc' : Nat) {x : Int32} (hd : decode M.2.1 pc = .ok (.ineg, 1)) (hp : pc + 1 = pc') (k : XW M d mc ms pc' L (.int (-x) :: st) h Post) : XW M d mc ms pc L (.int x :: st) h Post := by
  subst hp; exact XW.row (fun p l e R s m args below meth c G Q H locs cells slots ls F P S E k => lv_ineg F.1 F.2.1 hd k) k
theorem XW.i2l (pc' : Nat) {x : Int32} (hd : decode M.2.1 pc = .ok (.i2l, 1)) (hp : pc + 1 = pc') (k : XW M d mc ms pc' L (.long x.toInt64 :: st) h Post) : XW M d mc ms pc L (.int x :: st) h Post := by
  subst hp; exact XW.row (fun p l e R s m args below meth c G Q H locs cells slots ls F P S E k => lv_i2l F.1 F.2.1 hd rfl k) k
theorem XW.ladd (pc' : Nat) {x y : Int64} (hd : decode M.2.1 pc = .ok (.ladd, 1)) (hp : pc + 1 = pc') (k : XW M d mc ms pc' L (.long (x + y) :: st) h Post) : XW M d mc ms pc L (.long y :: .long x :: st) h Post := by
  subst hp; exact XW.row (fun p l e R s m args below meth c G Q H locs cells slots ls F P S E k => lv_ladd F.1 F.2.1 hd k) k
theorem XW.lmul (pc' : Nat) {x y : Int64} (hd : decode M.2.1 pc = .ok (.lmul, 1)) (hp : pc + 1 = pc') (k : XW M d mc ms pc' L (.long (x * y) :: st) h Post) : XW M d mc ms pc L (.long y :: .long x :: st) h Post := by
  subst hp; exact XW.row (fun p l e R s m args below meth c G Q H locs cells slots ls F P S E k => lv_lmul F.1 F.2.1 hd k) k
theorem XW.lcmp (pc' : Nat) {x y : Int64} (hd : decode M.2.1 pc = .ok (.lcmp, 1)) (hp : pc + 1 = pc') (k : XW M d mc ms pc' L (.int (lg_cmp x y) :: st) h Post) : XW M d mc ms pc L (.long y :: .long x :: st) h Post := by
  subst hp; exact XW.row (fun p l e R s m args below meth c G Q H locs cells slots ls F P S E k => W.lcmp F.1 F.2.1 hd k) k
theorem XW.fadd (pc' : Nat) {x y : UInt32} (hd : decode M.2.1 pc = .ok (.fadd, 1)) (hn : vf_n32 (FP.fadd x y)) (hp : pc + 1 = pc') (k : XW M d mc ms pc' L (.float (FP.fadd x y) :: st) h Post) : XW M d mc ms pc L (.float y :: .float x :: st) h Post := by
  subst hp; exact XW.row (fun p l e R s m args below meth c G Q H locs cells slots ls F P S E k => lv_fadd F.1 F.2.1 hd hn k) k
theorem XW.fsub (pc' : Nat) {x y : UInt32} (hd : decode M.2.1 pc = .ok (.fsub, 1)) (hn : vf_n32 (FP.fsub x y)) (hp : pc + 1 = pc') (k : XW M d mc ms pc' L (.float (FP.fsub x y) :: st) h Post) : XW M d mc ms pc L (.float y :: .float x :: st) h Post := by
  subst hp; exact XW.row (fun p l e R s m args below meth c G Q H locs cells slots ls F P S E k => lv_fsub F.1 F.2.1 hd hn k) k
theorem XW.fmul (pc' : Nat) {x y : UInt32} (hd : decode M.2.1 pc = .ok (.fmul, 1)) (hn : vf_n32 (FP.fmul x y)) (hp : pc + 1 = pc') (k : XW M d mc ms pc' L (.float (FP.fmul x y) :: st) h Post) : XW M d mc ms pc L (.float y :: .float x :: st) h Post := by
  subst hp; exact XW.row (fun p l e R s m args below meth c G Q H locs cells slots ls F P S E k => lv_fmul F.1 F.2.1 hd hn k) k
theorem XW.fdiv (pc' : Nat) {x y : UInt32} (hd : decode M.2.1 pc = .ok (.fdiv, 1)) (hn : vf_n32 (FP.fdiv x y)) (hp : pc + 1 = pc') (k : XW M d mc ms pc' L (.float (FP.fdiv x y) :: st) h Post) : XW M d mc ms pc L (.float y :: .float x :: st) h Post := by
  subst hp; exact XW.row (fun p l e R s m args below meth c G Q H locs cells slots ls F P S E k => lv_fdiv F.1 F.2.1 hd hn k) k
theorem XW.fneg (pc' : Nat) {x : UInt32} (hd : decode M.2.1 pc = .ok (.fneg, 1)) (hp : pc + 1 = pc') (k : XW M d mc ms pc' L (.float (FP.fneg x) :: st) h Post) : XW M d mc ms pc L (.float x :: st) h Post := by
  subst hp; exact XW.row (fun p l e R s m args below meth c G Q H locs cells slots ls F P S E k => lv_fneg F.1 F.2.1 hd k) k
theorem XW.fcmp (pc' : Nat) {x y : UInt32} {op : CmpOp} (hd : decode M.2.1 pc = .ok (.fcmp op, 1)) (hp : pc + 1 = pc') (k : XW M d mc ms pc' L (.int (Op.cmpValue (FP.fcmp x y) op) :: st) h Post) : XW M d mc ms pc L (.float y :: .float x :: st) h Post := by
  subst hp; exact XW.row (fun p l e R s m args below meth c G Q H locs cells slots ls F P S E k => lv_fcmp F.1 F.2.1 hd k) k
theorem XW.i2f (pc' : Nat) {x : Int32} (hd : decode M.2.1 pc = .ok (.i2f, 1)) (hp : pc + 1 = pc') (k : XW M d mc ms pc' L (.float (FP.i2f x) :: st) h Post) : XW M d mc ms pc L (.int x :: st) h Post := by
  subst hp; exact XW.row (fun p l e R s m args below meth c G Q H locs cells slots ls F P S E k => lv_i2f F.1 F.2.1 hd k) k
theorem XW.f2i (pc' : Nat) {x : UInt32} (hd : decode M.2.1 pc = .ok (.f2i, 1)) (hp : pc + 1 = pc') (k : XW M d mc ms pc' L (.int (FP.f2i x) :: st) h Post) : XW M d mc ms pc L (.float x :: st) h Post := by
  subst hp; exact XW.row (fun p l e R s m args below meth c G Q H locs cells slots ls F P S E k => lv_f2i F.1 F.2.1 hd k) k
theorem XW.dup (pc' : Nat) {v : Value} (hd : decode M.2.1 pc = .ok (.dup, 1)) (hv : v.category = 1) (hp : pc + 1 = pc') (k : XW M d mc ms pc' L (v :: v :: st) h Post) : XW M d mc ms pc L (v :: st) h Post := by
  subst hp; exact XW.row (fun p l e R s m args below meth c G Q H locs cells slots ls F P S E k => lv_dup F.1 F.2.1 hd ((xv_cat G v).trans hv) k) k
theorem XW.pop (pc' : Nat) {v : Value} (hd : decode M.2.1 pc = .ok (.pop, 1)) (hv : v.category = 1) (hp : pc + 1 = pc') (k : XW M d mc ms pc' L st h Post) : XW M d mc ms pc L (v :: st) h Post := by
  subst hp; exact XW.row (fun p l e R s m args below meth c G Q H locs cells slots ls F P S E k => lv_pop F.1 F.2.1 hd ((xv_cat G v).trans hv) k) k
theorem XW.dup2 (pc' : Nat) {v w : Value} (hd : decode M.2.1 pc = .ok (.dup2, 1)) (hv : v.category = 1) (hw : w.category = 1) (hp : pc + 1 = pc') (k : XW M d mc ms pc' L (v :: w :: v :: w :: st) h Post) : XW M d mc ms pc L (v :: w :: st) h Post := by
  subst hp; exact XW.row (fun p l e R s m args below meth c G Q H locs cells slots ls F P S E k => lv_dup2_11 F.1 F.2.1 hd ((xv_cat G v).trans hv) ((xv_cat G w).trans hw) k) k
theorem XW.if_eq (t f : Nat) {x : Int32} {off : Int} (hd : decode M.2.1 pc = .ok (.ifCond .eq off, 3)) (ht : (pc : Int) + off = (t : Int)) (hp : pc + 3 = f) (kt : x = 0 → XW M d mc ms t L st h Post) (kf : ¬ x = 0 → XW M d mc ms f L st h Post) : XW M d mc ms pc L (.int x :: st) h Post := by
  subst hp; exact XW.row2 (fun p l e R s m args below meth c G Q H locs cells slots ls F k1 k2 => lv_if_eq F.1 F.2.1 hd ht k1 k2) kt kf
theorem XW.icmp_eq (t f : Nat) {x y : Int32} {off : Int} (hd : decode M.2.1 pc = .ok (.if_icmp .eq off, 3)) (ht : (pc : Int) + off = (t : Int)) (hp : pc + 3 = f) (kt : x = y → XW M d mc ms t L st h Post) (kf : ¬ x = y → XW M d mc ms f L st h Post) : XW M d mc ms pc L (.int y :: .int x :: st) h Post := by
  subst hp; exact XW.row2 (fun p l e R s m args below meth c G Q H locs cells slots ls F k1 k2 => lv_icmp_eq F.1 F.2.1 hd ht k1 k2) kt kf
theorem XW.if_ne (t f : Nat) {x : Int32} {off : Int} (hd : decode M.2.1 pc = .ok (.ifCond .ne off, 3)) (ht : (pc : Int) + off = (t : Int)) (hp : pc + 3 = f) (kt : ¬ x = 0 → XW M d mc ms t L st h Post) (kf : x = 0 → XW M d mc ms f L st h Post) : XW M d mc ms pc L (.int x :: st) h Post := by
  subst hp; exact XW.row2 (fun p l e R s m args below meth c G Q H locs cells slots ls F k1 k2 => lv_if_ne F.1 F.2.1 hd ht k1 k2) kt kf
theorem XW.icmp_ne (t f : Nat) {x y : Int32} {off : Int} (hd : decode M.2.1 pc = .ok (.if_icmp .ne off, 3)) (ht : (pc : Int) + off = (t : Int)) (hp : pc + 3 = f) (kt : ¬ x = y → XW M d mc ms t L st h Post) (kf : x = y → XW M d mc ms f L st h Post) : XW M d mc ms pc L (.int y :: .int x :: st) h Post := by
  subst hp; exact XW.row2 (fun p l e R s m args below meth c G Q H locs cells slots ls F k1 k2 => lv_icmp_ne F.1 F.2.1 hd ht k1 k2) kt kf
theorem XW.if_lt (t f : Nat) {x : Int32} {off : Int} (hd : decode M.2.1 pc = .ok (.ifCond .lt off, 3)) (ht : (pc : Int) + off = (t : Int)) (hp : pc + 3 = f) (kt : x < 0 → XW M d mc ms t L st h Post) (kf : ¬ x < 0 → XW M d mc ms f L st h Post) : XW M d mc ms pc L (.int x :: st) h Post := by
  subst hp; exact XW.row2 (fun p l e R s m args below meth c G Q H locs cells slots ls F k1 k2 => lv_if_lt F.1 F.2.1 hd ht k1 k2) kt kf
theorem XW.icmp_lt (t f : Nat) {x y : Int32} {off : Int} (hd : decode M.2.1 pc = .ok (.if_icmp .lt off, 3)) (ht : (pc : Int) + off = (t : Int)) (hp : pc + 3 = f) (kt : x < y → XW M d mc ms t L st h Post) (kf : ¬ x < y → XW M d mc ms f L st h Post) : XW M d mc ms pc L (.int y :: .int x :: st) h Post := by
  subst hp; exact XW.row2 (fun p l e R s m args below meth c G Q H locs cells slots ls F k1 k2 => lv_icmp_lt F.1 F.2.1 hd ht k1 k2) kt kf
theorem XW.if_ge (t f : Nat) {x : Int32} {off : Int} (hd : decode M.2.1 pc = .ok (.ifCond .ge off, 3)) (ht : (pc : Int) + off = (t : Int)) (hp : pc + 3 = f) (kt : 0 ≤ x → XW M d mc ms t L st h Post) (kf : ¬ 0 ≤ x → XW M d mc ms f L st h Post) : XW M d mc ms pc L (.int x :: st) h Post := by
  subst hp; exact XW.row2 (fun p l e R s m args below meth c G Q H locs cells slots ls F k1 k2 => lv_if_ge F.1 F.2.1 hd ht k1 k2) kt kf
theorem XW.icmp_ge (t f : Nat) {x y : Int32} {off : Int} (hd : decode M.2.1 pc = .ok (.if_icmp .ge off, 3)) (ht : (pc : Int) + off = (t : Int)) (hp : pc + 3 = f) (kt : y ≤ x → XW M d mc ms t L st h Post) (kf : ¬ y ≤ x → XW M d mc ms f L st h Post) : XW M d mc ms pc L (.int y :: .int x :: st) h Post := by
  subst hp; exact XW.row2 (fun p l e R s m args below meth c G Q H locs cells slots ls F k1 k2 => lv_icmp_ge F.1 F.2.1 hd ht k1 k2) kt kf
theorem XW.if_gt (t f : Nat) {x : Int32} {off : Int} (hd : decode M.2.1 pc = .ok (.ifCond .gt off, 3)) (ht : (pc : Int) + off = (t : Int)) (hp : pc + 3 = f) (kt : 0 < x → XW M d mc ms t L st h Post) (kf : ¬ 0 < x → XW M d mc ms f L st h Post) : XW M d mc ms pc L (.int x :: st) h Post := by
  subst hp; exact XW.row2 (fun p l e R s m args below meth c G Q H locs cells slots ls F k1 k2 => lv_if_gt F.1 F.2.1 hd ht k1 k2) kt kf
theorem XW.icmp_gt (t f : Nat) {x y : Int32} {off : Int} (hd : decode M.2.1 pc = .ok (.if_icmp .gt off, 3)) (ht : (pc : Int) + off = (t : Int)) (hp : pc + 3 = f) (kt : y < x → XW M d mc ms t L st h Post) (kf : ¬ y < x → XW M d mc ms f L st h Post) : XW M d mc ms pc L (.int y :: .int x :: st) h Post := by
  subst hp; exact XW.row2 (fun p l e R s m args below meth c G Q H locs cells slots ls F k1 k2 => lv_icmp_gt F.1 F.2.1 hd ht k1 k2) kt kf
theorem XW.if_le (t f : Nat) {x : Int32} {off : Int} (hd : decode M.2.1 pc = .ok (.ifCond .le off, 3)) (ht : (pc : Int) + off = (t : Int)) (hp : pc + 3 = f) (kt : x ≤ 0 → XW M d mc ms t L st h Post) (kf : ¬ x ≤ 0 → XW M d mc ms f L st h Post) : XW M d mc ms pc L (.int x :: st) h Post := by
  subst hp; exact XW.row2 (fun p l e R s m args below meth c G Q H locs cells slots ls F k1 k2 => lv_if_le F.1 F.2.1 hd ht k1 k2) kt kf
theorem XW.icmp_le (t f : Nat) {x y : Int32} {off : Int} (hd : decode M.2.1 pc = .ok (.if_icmp .le off, 3)) (ht : (pc : Int) + off = (t : Int)) (hp : pc + 3 = f) (kt : x ≤ y → XW M d mc ms t L st h Post) (kf : ¬ x ≤ y → XW M d mc ms f L st h Post) : XW M d mc ms pc L (.int y :: .int x :: st) h Post := by
  subst hp; exact XW.row2 (fun p l e R s m args below meth c G Q H locs cells slots ls F k1 k2 => lv_icmp_le F.1 F.2.1 hd ht k1 k2) kt kf
theorem XW.goto (t : Nat) {off : Int} (hd : decode M.2.1 pc = .ok (.goto off, 3)) (ht : (pc : Int) + off = (t : Int)) (k : XW M d mc ms t L st h Post) : XW M d mc ms pc L st h Post := XW.row (fun p l e R s m args below meth c G Q H locs cells slots ls F P S E k => lv_goto F.1 F.2.1 hd ht k) k
theorem XW.tableIn (t : Nat) {df lo hi : Int} {offs : Array Int} {len : Nat} {x : Int32} {off : Int} (hd : decode M.2.1 pc = .ok (.tableswitch df lo hi offs, len)) (h1 : ¬ x.toInt < lo) (h2 : ¬ hi < x.toInt) (ho : offs[(x.toInt - lo).toNat]? = some off) (ht : (pc : Int) + off = (t : Int)) (k : XW M d mc ms t L st h Post) : XW M d mc ms pc L (.int x :: st) h Post := XW.row (fun p l e R s m args below meth c G Q H locs cells slots ls F P S E k => lv_tableIn F.1 F.2.1 hd h1 h2 ho ht k) k
theorem XW.tableOut (t : Nat) {df lo hi : Int} {offs : Array Int} {len : Nat} {x : Int32} (hd : decode M.2.1 pc = .ok (.tableswitch df lo hi offs, len)) (h1 : x.toInt < lo ∨ hi < x.toInt) (ht : (pc : Int) + df = (t : Int)) (k : XW M d mc ms t L st h Post) : XW M d mc ms pc L (.int x :: st) h Post := XW.row (fun p l e R s m args below meth c G Q H locs cells slots ls F P S E k => lv_tableOut F.1 F.2.1 hd h1 ht k) k
theorem XW.lookup (t : Nat) {df : Int} {ps : Array (Int × Int)} {len : Nat} {x : Int32} {off : Int} (hd : decode M.2.1 pc = .ok (.lookupswitch df ps, len)) (hq : (ps.toList.zip (ps.toList.drop 1)).all (fun (a, next) => a.1 < next.1) = true) (ho : Op.lookupswitch.offset ps.toList df x.toInt = off) (ht : (pc : Int) + off = (t : Int)) (k : XW M d mc ms t L st h Post) : XW M d mc ms pc L (.int x :: st) h Post := XW.row (fun p l e R s m args below meth c G Q H locs cells slots ls F P S E k => lv_lookup F.1 F.2.1 hd hq ho ht k) k
end XRows2
