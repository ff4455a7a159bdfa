/-! The rows: an instruction each -/
section XRows
variable {M : xM} {d mc ms pc : Nat} {L : xL} {st : List Value} {h : xH} {Post : Option Value → xH → Prop}
theorem XW.row {pc' : Nat} {st' : List Value}
    (row : ∀ (p : Program) (l : Launch) (e : Env) (R : Room) (s : State) (m : MethodId) (args : Array Value) (below : List Frame) (meth : Method) (c : Code) (G : xG) (Q : State → Prop) (H : Heap) (locs : List Loc) (cells slots : Nat) (ls : Array Slot),
      xF M d p R s m args meth c G → xP G h H → va_S (xA G) s.heap H locs → xls G ls M.2.2.1 L → W p l e R s m args below meth c H locs cells slots Q (F0 m pc' ls (st'.map (xv G))) → W p l e R s m args below meth c H locs cells slots Q (F0 m pc ls (st.map (xv G))))
    (k : XW M d mc ms pc' L st' h Post) : XW M d mc ms pc L st h Post := by
  intro p l e R s m args below meth c G Q H locs cells slots C1 S1 ls F P S E b hr
  exact row p l e R s m args below meth c G Q H locs cells slots ls F P S E (k p l e R s m args below meth c G Q H locs cells slots C1 S1 ls F P S E b hr)
theorem XW.row2 {pc1 pc2 : Nat} {st1 st2 : List Value} {c1 c2 : Prop}
    (row : ∀ (p : Program) (l : Launch) (e : Env) (R : Room) (s : State) (m : MethodId) (args : Array Value) (below : List Frame) (meth : Method) (c : Code) (G : xG) (Q : State → Prop) (H : Heap) (locs : List Loc) (cells slots : Nat) (ls : Array Slot),
      xF M d p R s m args meth c G → (c1 → W p l e R s m args below meth c H locs cells slots Q (F0 m pc1 ls (st1.map (xv G)))) → (c2 → W p l e R s m args below meth c H locs cells slots Q (F0 m pc2 ls (st2.map (xv G)))) → W p l e R s m args below meth c H locs cells slots Q (F0 m pc ls (st.map (xv G))))
    (k1 : c1 → XW M d mc ms pc1 L st1 h Post) (k2 : c2 → XW M d mc ms pc2 L st2 h Post) : XW M d mc ms pc L st h Post := by
  intro p l e R s m args below meth c G Q H locs cells slots C1 S1 ls F P S E b hr
  exact row p l e R s m args below meth c G Q H locs cells slots ls F (fun q => k1 q p l e R s m args below meth c G Q H locs cells slots C1 S1 ls F P S E b hr) (fun q => k2 q p l e R s m args below meth c G Q H locs cells slots C1 S1 ls F P S E b hr)
theorem XW.post {Post' : Option Value → xH → Prop} (k : XW M d mc ms pc L st h Post') (hp : ∀ r h', Post' r h' → Post r h') : XW M d mc ms pc L st h Post := by
  intro p l e R s m args below meth c G Q H locs cells slots C1 S1 ls F P S E b hr
  exact k p l e R s m args below meth c G Q H locs cells slots C1 S1 ls F P S E b (fun pc ls r h' H' locs' hP => hr pc ls r h' H' locs' (hp r h' hP))
theorem XW.eqs {L' : xL} {st' : List Value} {h' : xH} (e1 : L = L') (e2 : st = st') (e3 : h = h') (k : XW M d mc ms pc L' st' h' Post) : XW M d mc ms pc L st h Post := by
  subst e1; subst e2; subst e3; exact k
/-- fewer locals are known -/
def xle : xL → xL → Bool
  | [], _ => true
  | _ :: _, [] => false
  | none :: a, _ :: b => xle a b
  | some v :: a, some w :: b => decide (v = w) && xle a b
  | some _ :: _, none :: _ => false
theorem XW.weakP {L' : xL} (hl : ∀ (i : Nat) (v : Value), L'[i]? = some (some v) → L[i]? = some (some v)) (k : XW M d mc ms pc L' st h Post) : XW M d mc ms pc L st h Post := by
  intro p l e R s m args below meth c G Q H locs cells slots C1 S1 ls F P S E b hr
  exact k p l e R s m args below meth c G Q H locs cells slots C1 S1 ls F P S ⟨E.1, E.2.1, fun i v q => E.2.2 i v (hl i v q)⟩ b hr
/-- fewer locals, as a list of which to keep -/
def xkeep : List Bool → xL → xL
  | _, [] => []
  | [], L => L
  | true :: b, o :: L => o :: xkeep b L
  | false :: b, _ :: L => none :: xkeep b L
theorem xkeep_le : ∀ (b : List Bool) (L : xL) (i : Nat) (v : Value), (xkeep b L)[i]? = some (some v) → L[i]? = some (some v)
  | [], [], i, v, h => by simp [xkeep] at h
  | _ :: _, [], i, v, h => by simp [xkeep] at h
  | [], _ :: _, i, v, h => h
  | true :: b, o :: L, 0, v, h => h
  | false :: b, o :: L, 0, v, h => by simp [xkeep] at h
  | true :: b, o :: L, i + 1, v, h => by
    simp only [xkeep, List.getElem?_cons_succ] at h ⊢
    exact xkeep_le b L i v h
  | false :: b, o :: L, i + 1, v, h => by
    simp only [xkeep, List.getElem?_cons_succ] at h ⊢
    exact xkeep_le b L i v h
theorem XW.weak {L' : xL} (b : List Bool) (e : xkeep b L = L') (k : XW M d mc ms pc L' st h Post) : XW M d mc ms pc L st h Post := by
  subst e; exact XW.weakP (xkeep_le b L) k
-- constants
theorem XW.iconst (pc' : Nat) {n : Int} {v : Int32} (hd : decode M.2.1 pc = .ok (.iconst n, 1)) (hv : Int32.ofInt n = v) (hp : pc + 1 = pc') (k : XW M d mc ms pc' L (.int v :: st) h Post) : XW M d mc ms pc L st h Post := by
  subst hp; exact XW.row (fun p l e R s m args below meth c G Q H locs cells slots ls F P S E k => lv_iconst F.1 F.2.1 hd hv k) k
theorem XW.bipush (pc' : Nat) {n : Int} {v : Int32} (hd : decode M.2.1 pc = .ok (.bipush n, 2)) (hv : (Int8.ofInt n).toInt32 = v) (hp : pc + 2 = pc') (k : XW M d mc ms pc' L (.int v :: st) h Post) : XW M d mc ms pc L st h Post := by
  subst hp; exact XW.row (fun p l e R s m args below meth c G Q H locs cells slots ls F P S E k => lv_bipush F.1 F.2.1 hd hv k) k
theorem XW.sipush (pc' : Nat) {n : Int} {v : Int32} (hd : decode M.2.1 pc = .ok (.sipush n, 3)) (hv : (Int16.ofInt n).toInt32 = v) (hp : pc + 3 = pc') (k : XW M d mc ms pc' L (.int v :: st) h Post) : XW M d mc ms pc L st h Post := by
  subst hp; exact XW.row (fun p l e R s m args below meth c G Q H locs cells slots ls F P S E k => lv_sipush F.1 F.2.1 hd hv k) k
theorem XW.ldci (pc' : Nat) {i : Nat} {v : Int32} (hw : Jvm.Cond.constant M.1.cls i v ∈ lw_good) (hd : decode M.2.1 pc = .ok (.ldc i, 2)) (hp : pc + 2 = pc') (k : XW M d mc ms pc' L (.int v :: st) h Post) : XW M d mc ms pc L st h Post := by
  subst hp; exact XW.row (fun p l e R s m args below meth c G Q H locs cells slots ls F P S E k => lv_ldc F.1 F.2.1 F.2.2.2.1 (F.2.2.2.2.1 _ hw) hd k) k
theorem XW.ldcwi (pc' : Nat) {i : Nat} {v : Int32} (hw : Jvm.Cond.constant M.1.cls i v ∈ lw_good) (hd : decode M.2.1 pc = .ok (.ldc_w i, 3)) (hp : pc + 3 = pc') (k : XW M d mc ms pc' L (.int v :: st) h Post) : XW M d mc ms pc L st h Post := by
  subst hp; exact XW.row (fun p l e R s m args below meth c G Q H locs cells slots ls F P S E k => lv_ldcw F.1 F.2.1 F.2.2.2.1 (F.2.2.2.2.1 _ hw) hd k) k
theorem XW.ldcf (pc' : Nat) {i : Nat} {v : UInt32} (hw : Jvm.Cond.constantFloat M.1.cls i v ∈ lw_good) (hd : decode M.2.1 pc = .ok (.ldc i, 2)) (hp : pc + 2 = pc') (k : XW M d mc ms pc' L (.float v :: st) h Post) : XW M d mc ms pc L st h Post := by
  subst hp; exact XW.row (fun p l e R s m args below meth c G Q H locs cells slots ls F P S E k => lv_ldcf F.1 F.2.1 F.2.2.2.1 (F.2.2.2.2.1 _ hw) hd k) k
theorem XW.ldc2 (pc' : Nat) {i : Nat} {v : Int64} (hw : Jvm.Cond.constantLong M.1.cls i v ∈ lw_good) (hd : decode M.2.1 pc = .ok (.ldc2_w i, 3)) (hp : pc + 3 = pc') (k : XW M d mc ms pc' L (.long v :: st) h Post) : XW M d mc ms pc L st h Post := by
  subst hp; exact XW.row (fun p l e R s m args below meth c G Q H locs cells slots ls F P S E k => lv_ldc2 F.1 F.2.1 F.2.2.2.1 (F.2.2.2.2.1 _ hw) hd k) k
theorem XW.fconst0 (pc' : Nat) (hd : decode M.2.1 pc = .ok (.fconst 0, 1)) (hp : pc + 1 = pc') (k : XW M d mc ms pc' L (.float FP.fconst0 :: st) h Post) : XW M d mc ms pc L st h Post := by
  subst hp; exact XW.row (fun p l e R s m args below meth c G Q H locs cells slots ls F P S E k => lv_fconst0 F.1 F.2.1 hd k) k
theorem XW.fconst1 (pc' : Nat) (hd : decode M.2.1 pc = .ok (.fconst 1, 1)) (hp : pc + 1 = pc') (k : XW M d mc ms pc' L (.float FP.fconst1 :: st) h Post) : XW M d mc ms pc L st h Post := by
  subst hp; exact XW.row (fun p l e R s m args below meth c G Q H locs cells slots ls F P S E k => lv_fconst1 F.1 F.2.1 hd k) k
theorem XW.fconst2 (pc' : Nat) (hd : decode M.2.1 pc = .ok (.fconst 2, 1)) (hp : pc + 1 = pc') (k : XW M d mc ms pc' L (.float FP.fconst2 :: st) h Post) : XW M d mc ms pc L st h Post := by
  subst hp; exact XW.row (fun p l e R s m args below meth c G Q H locs cells slots ls F P S E k => lv_fconst2 F.1 F.2.1 hd k) k
-- loads
theorem XW.iload_n (pc' : Nat) {n : Fin 4} {x : Int32} (hd : decode M.2.1 pc = .ok (.iload_n n, 1)) (hl : L[(n : Nat)]? = some (some (.int x))) (hp : pc + 1 = pc') (k : XW M d mc ms pc' L (.int x :: st) h Post) : XW M d mc ms pc L st h Post := by
  subst hp; exact XW.row (fun p l e R s m args below meth c G Q H locs cells slots ls F P S E k => lv_iload_n F.1 F.2.1 hd rfl (E.2.2 _ _ hl) k) k
theorem XW.iload (pc' : Nat) {n : Nat} {x : Int32} (hd : decode M.2.1 pc = .ok (.iload n, 2)) (hl : L[n]? = some (some (.int x))) (hp : pc + 2 = pc') (k : XW M d mc ms pc' L (.int x :: st) h Post) : XW M d mc ms pc L st h Post := by
  subst hp; exact XW.row (fun p l e R s m args below meth c G Q H locs cells slots ls F P S E k => lv_iload F.1 F.2.1 hd (E.2.2 _ _ hl) k) k
theorem XW.fload_n (pc' : Nat) {n : Fin 4} {x : UInt32} (hd : decode M.2.1 pc = .ok (.fload_n n, 1)) (hl : L[(n : Nat)]? = some (some (.float x))) (hp : pc + 1 = pc') (k : XW M d mc ms pc' L (.float x :: st) h Post) : XW M d mc ms pc L st h Post := by
  subst hp; exact XW.row (fun p l e R s m args below meth c G Q H locs cells slots ls F P S E k => lv_fload_n F.1 F.2.1 hd rfl (E.2.2 _ _ hl) k) k
theorem XW.fload (pc' : Nat) {n : Nat} {x : UInt32} (hd : decode M.2.1 pc = .ok (.fload n, 2)) (hl : L[n]? = some (some (.float x))) (hp : pc + 2 = pc') (k : XW M d mc ms pc' L (.float x :: st) h Post) : XW M d mc ms pc L st h Post := by
  subst hp; exact XW.row (fun p l e R s m args below meth c G Q H locs cells slots ls F P S E k => lv_fload F.1 F.2.1 hd (E.2.2 _ _ hl) k) k
theorem XW.lload_n (pc' : Nat) {n : Fin 4} {x : Int64} (hd : decode M.2.1 pc = .ok (.lload_n n, 1)) (hl : L[(n : Nat)]? = some (some (.long x))) (hp : pc + 1 = pc') (k : XW M d mc ms pc' L (.long x :: st) h Post) : XW M d mc ms pc L st h Post := by
  subst hp; exact XW.row (fun p l e R s m args below meth c G Q H locs cells slots ls F P S E k => lv_lload_n F.1 F.2.1 hd rfl (E.2.2 _ _ hl) k) k
theorem XW.aload_n (pc' : Nat) {n : Fin 4} {x : Nat} (hd : decode M.2.1 pc = .ok (.aload_n n, 1)) (hl : L[(n : Nat)]? = some (some (.ref x))) (hp : pc + 1 = pc') (k : XW M d mc ms pc' L (.ref x :: st) h Post) : XW M d mc ms pc L st h Post := by
  subst hp; exact XW.row (fun p l e R s m args below meth c G Q H locs cells slots ls F P S E k => lv_aload_n F.1 F.2.1 hd rfl (E.2.2 _ _ hl) k) k
theorem XW.aload_s (pc' : Nat) {n : Fin 4} {x : Nat} (hd : decode M.2.1 pc = .ok (.aload_n n, 1)) (hl : L[(n : Nat)]? = some (some (.retAddr x))) (hp : pc + 1 = pc') (k : XW M d mc ms pc' L (.retAddr x :: st) h Post) : XW M d mc ms pc L st h Post := by
  subst hp; exact XW.row (fun p l e R s m args below meth c G Q H locs cells slots ls F P S E k => lv_aload_n F.1 F.2.1 hd rfl (E.2.2 _ _ hl) k) k
theorem XW.aload (pc' : Nat) {n : Nat} {x : Nat} (hd : decode M.2.1 pc = .ok (.aload n, 2)) (hl : L[n]? = some (some (.ref x))) (hp : pc + 2 = pc') (k : XW M d mc ms pc' L (.ref x :: st) h Post) : XW M d mc ms pc L st h Post := by
  subst hp; exact XW.row (fun p l e R s m args below meth c G Q H locs cells slots ls F P S E k => lv_aload F.1 F.2.1 hd (E.2.2 _ _ hl) k) k
end XRows
