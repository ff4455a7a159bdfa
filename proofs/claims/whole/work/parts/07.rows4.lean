/-! The rows, on: making cells, returning, calling -/
section XRows4
variable {M : xM} {d mc ms pc : Nat} {L : xL} {st : List Value} {h : xH} {Post : Option Value → xH → Prop}
theorem xP.push {G : xG} {h : xH} {H H1 : Heap} {c : xC} (P : xP G h H) (hz : H.size = G.2.2.1 + h.length) (o1 : ∀ q, q < H.size → H1[q]? = H[q]?) (hc : va_at G.1 vwCl (G.2.2.1 + h.length, xe G c) H1) : xP G (h ++ [c]) H1 := by
  unfold xP
  rw [← xw_push]
  refine (P.kept (fun k x hx => o1 x.1 ((P k x hx).lt))).app (fun k x hx => ?_)
  have hl : k < 1 := (List.getElem?_eq_some_iff.mp hx).1
  rw [show k = 0 by omega] at hx
  cases hx
  exact hc
theorem xS.push {G : xG} {H0 H H1 : Heap} {locs : List Loc} (S : va_S (xA G) H0 H locs) (z1 : H1.size = H.size + 1) (o1 : ∀ q, q < H.size → H1[q]? = H[q]?) : va_S (xA G) H0 H1 locs :=
  ⟨Nat.le_trans S.1 (by omega), fun x h1 h2 => (o1 x (Nat.lt_of_lt_of_le h1 S.1)).trans (S.2.1 x h1 h2), S.2.2⟩
/-- what 'new' needs -/
def xNc (own : String) (idx ci N : Nat) (fs : List Value) : Prop := ∃ (C : String) (T : u_T) (ty0 : Nat → FieldType), vwCl[ci]? = some (C, T, N) ∧ (∀ w ∈ u_ws C T N, w ∈ lw_good) ∧ (∀ k, k < N → parseFieldDescriptor (T k).2.2.1 = some (ty0 k)) ∧ Cond.classLink own idx C ∈ lw_good ∧ Cond.instantiable C N ∈ lw_good ∧ Cond.initialized C ∈ lw_good ∧ ∀ (G : xG) (j : Nat), j < N → defaultValue (ty0 j) = vp_V (fs.map (xv G)) j
theorem XW.newc (pc' : Nat) {idx ci N mc' ms' : Nat} {fs : List Value} {h' : xH} (hw : xNc M.1.cls idx ci N fs) (hd : decode M.2.1 pc = .ok (.new idx, 3)) (hmc : mc' + 1 = mc) (hms : ms' + N = ms) (he : h ++ [.inr (ci, fs)] = h') (hp : pc + 3 = pc') (k : XW M d mc' ms' pc' L (.ref h.length :: st) h' Post) : XW M d mc ms pc L st h Post := by
  subst hp; subst he; subst hmc; subst hms
  obtain ⟨C, T, ty0, hc, hin, hty, w1, w2, w3, hfs⟩ := hw
  intro p l e R s m args below meth c G Q H locs cells slots C1 S1 ls F P S E b hr T0 hT X
  obtain ⟨b1, b2, b3, b4, b5⟩ := b
  have hz := P.size F.2.2.2.2.2.2.1 hT X b5
  have hKn := F.2.2.2.2.2.1.1.1 ci _ hc
  suffices key : W p l e R s m args below meth c H locs cells slots Q (F0 m pc ls (st.map (xv G))) from key T0 hT X
  refine W.newcK F.1 F.2.1 F.2.2.2.1 (F.2.2.2.2.1 _ w1) (F.2.2.2.2.1 _ w2) (F.2.2.2.2.1 _ w3) rfl hd (by omega) (by omega) hKn.2.1 hz (fun H1 kC hkC e1 z1 o1 => ?_)
  rw [← hz] at o1 z1
  refine k p l e R s m args below meth c G Q H1 locs (cells + 1) (slots + N) C1 S1 ls F (P.push hz o1 ⟨_, hc, (u_born ty0 F.2.2.2.2.1 hin hKn hkC e1 hty).to (hfs G)⟩) (xS.push S z1 o1) E ⟨by omega, by omega, b3, b4, ?_⟩ hr
  rw [List.length_append, List.length_singleton]; omega
theorem XW.newI (pc' : Nat) {n : Int32} {N mc' ms' : Nat} {h' : xH} (hw : Cond.arrayClass .int ∈ lw_good) (hd : decode M.2.1 pc = .ok (.newarray .int, 2)) (hn : n = nI N) (hN : N < 100000) (hmc : mc' + 1 = mc) (hms : ms' + N = ms) (he : h ++ [.inl (N, .inl (fun _ => 0))] = h') (hp : pc + 2 = pc') (k : XW M d mc' ms' pc' L (.ref h.length :: st) h' Post) : XW M d mc ms pc L (.int n :: st) h Post := by
  subst hp; subst he; subst hmc; subst hms; subst hn
  intro p l e R s m args below meth c G Q H locs cells slots C1 S1 ls F P S E b hr T0 hT X
  obtain ⟨b1, b2, b3, b4, b5⟩ := b
  have hz := P.size F.2.2.2.2.2.2.1 hT X b5
  suffices key : W p l e R s m args below meth c H locs cells slots Q (F0 m pc ls (.int (nI N) :: st.map (xv G))) from key T0 hT X
  refine va_newaK (atype := .int) F.1 F.2.1 (F.2.2.2.2.1 _ hw) rfl hd rfl (nI_pos (by omega)) (nI_clamp (by omega)) (by show N * 4 ≤ _; omega) (by omega) (by omega) hz (fun H1 cA e1 z1 o1 hAr hNm => ?_)
  have hcl : s.vm.findClass ("[" ++ (FieldType.int).toString) = some G.2.1.1 := (F.2.2.2.2.2.1.1.2 0 _ rfl).2
  have hcA : cA = G.2.1.1 := Option.some.inj (hNm.symm.trans hcl)
  subst hcA
  rw [← hz] at o1 z1
  refine k p l e R s m args below meth c G Q H1 locs (cells + 1) (slots + N) C1 S1 ls F (P.push hz o1 e1) (xS.push S z1 o1) E ⟨by omega, by omega, b3, b4, ?_⟩ hr
  rw [List.length_append, List.length_singleton]; omega
theorem XW.newF (pc' : Nat) {n : Int32} {N mc' ms' : Nat} {h' : xH} (hw : Cond.arrayClass .float ∈ lw_good) (hd : decode M.2.1 pc = .ok (.newarray .float, 2)) (hn : n = nI N) (hN : N < 100000) (hmc : mc' + 1 = mc) (hms : ms' + N = ms) (he : h ++ [.inl (N, .inr (.inr (.inl (fun _ => 0))))] = h') (hp : pc + 2 = pc') (k : XW M d mc' ms' pc' L (.ref h.length :: st) h' Post) : XW M d mc ms pc L (.int n :: st) h Post := by
  subst hp; subst he; subst hmc; subst hms; subst hn
  intro p l e R s m args below meth c G Q H locs cells slots C1 S1 ls F P S E b hr T0 hT X
  obtain ⟨b1, b2, b3, b4, b5⟩ := b
  have hz := P.size F.2.2.2.2.2.2.1 hT X b5
  suffices key : W p l e R s m args below meth c H locs cells slots Q (F0 m pc ls (.int (nI N) :: st.map (xv G))) from key T0 hT X
  refine va_newaK (atype := .float) F.1 F.2.1 (F.2.2.2.2.1 _ hw) rfl hd rfl (nI_pos (by omega)) (nI_clamp (by omega)) (by show N * 4 ≤ _; omega) (by omega) (by omega) hz (fun H1 cA e1 z1 o1 hAr hNm => ?_)
  have hcl : s.vm.findClass ("[" ++ (FieldType.float).toString) = some G.2.1.2.1 := (F.2.2.2.2.2.1.1.2 1 _ rfl).2
  have hcA : cA = G.2.1.2.1 := Option.some.inj (hNm.symm.trans hcl)
  subst hcA
  rw [← hz] at o1 z1
  refine k p l e R s m args below meth c G Q H1 locs (cells + 1) (slots + N) C1 S1 ls F (P.push hz o1 e1) (xS.push S z1 o1) E ⟨by omega, by omega, b3, b4, ?_⟩ hr
  rw [List.length_append, List.length_singleton]; omega
theorem XW.newA (pc' : Nat) {idx : Nat} {n : Int32} {N mc' ms' : Nat} {h' : xH} (hw : Cond.classLink M.1.cls idx RX1 ∈ lw_good) (hd : decode M.2.1 pc = .ok (.anewarray idx, 3)) (hn : n = nI N) (hN : N < 100000) (hmc : mc' + 1 = mc) (hms : ms' + N = ms) (he : h ++ [.inl (N, .inr (.inr (.inr (.inr (fun _ => none)))))] = h') (hp : pc + 3 = pc') (k : XW M d mc' ms' pc' L (.ref h.length :: st) h' Post) : XW M d mc ms pc L (.int n :: st) h Post := by
  subst hp; subst he; subst hmc; subst hms; subst hn
  intro p l e R s m args below meth c G Q H locs cells slots C1 S1 ls F P S E b hr T0 hT X
  obtain ⟨b1, b2, b3, b4, b5⟩ := b
  have hz := P.size F.2.2.2.2.2.2.1 hT X b5
  have hc0 : (nI N).toNatClampNeg = N := nI_clamp (by omega)
  suffices key : W p l e R s m args below meth c H locs cells slots Q (F0 m pc ls (.int (nI N) :: st.map (xv G))) from key T0 hT X
  refine W.anew F.1 F.2.1 F.2.2.2.1 (F.2.2.2.2.1 _ hw) (va_AO.use F.2.2.2.2.2.1.2.2) rfl hd rfl (nI_pos (by omega)) (by rw [hc0]; omega) (by omega) (by rw [hc0]; omega) (fun cA kA comp f1 f2 f3 f4 => ?_)
  have hcl : s.vm.findClass ("[" ++ (FieldType.object RX1).toString) = some G.2.1.2.2 := by
    obtain ⟨kA', comp', g1, g2, g3, g4⟩ := (F.2.2.2.2.2.1.1.2 2 _ rfl).2
    exact g4
  have hcA : cA = G.2.1.2.2 := Option.some.inj (f1.symm.trans hcl)
  subst hcA
  rw [hc0]
  generalize hH1 : H.push ({ cls := G.2.1.2.2, slots := Array.replicate N .null, vm := .none } : Cell) = H1
  have z1 : H1.size = H.size + 1 := by rw [← hH1, Array.size_push]
  have e1 : H1[H.size]? = some (arrV G.2.1.2.2 N (fun _ => .null)) := by rw [← hH1, Array.getElem?_push_size, ← arrV_new]
  have o1 : ∀ q : Nat, q < H.size → H1[q]? = H[q]? := fun q hq => by rw [← hH1, Array.getElem?_push, if_neg (Nat.ne_of_lt hq)]
  rw [hz] at e1
  have := k p l e R s m args below meth c G Q H1 locs (cells + 1) (slots + N) C1 S1 ls F (P.push hz o1 e1) (xS.push S z1 o1) E ⟨by omega, by omega, b3, b4, by rw [List.length_append, List.length_singleton]; omega⟩ hr
  rw [hz]
  exact this
-- returns
theorem XW.iret {v : Int32} (hd : decode M.2.1 pc = .ok (.ireturn, 1)) (hn : xnar M.2.2.2.1 (some (.int v))) (hp : Post (some (.int v)) h) : XW M d 0 ms pc L [.int v] h Post := by
  intro p l e R s m args below meth c G Q H locs cells slots C1 S1 ls F P S E b hr
  obtain ⟨b1, b2, b3, b4, b5⟩ := b
  have b1 : cells = C1 := b1
  subst b1
  exact W.widen (Nat.le_refl _) (by omega) (hr pc ls (some (.int v)) h H locs hp hn hd P S b5)
theorem XW.lret {v : Int64} (hd : decode M.2.1 pc = .ok (.lreturn, 1)) (hn : xnar M.2.2.2.1 (some (.long v))) (hp : Post (some (.long v)) h) : XW M d 0 ms pc L [.long v] h Post := by
  intro p l e R s m args below meth c G Q H locs cells slots C1 S1 ls F P S E b hr
  obtain ⟨b1, b2, b3, b4, b5⟩ := b
  have b1 : cells = C1 := b1
  subst b1
  exact W.widen (Nat.le_refl _) (by omega) (hr pc ls (some (.long v)) h H locs hp hn hd P S b5)
theorem XW.fret {v : UInt32} (hd : decode M.2.1 pc = .ok (.freturn, 1)) (hn : xnar M.2.2.2.1 (some (.float v))) (hp : Post (some (.float v)) h) : XW M d 0 ms pc L [.float v] h Post := by
  intro p l e R s m args below meth c G Q H locs cells slots C1 S1 ls F P S E b hr
  obtain ⟨b1, b2, b3, b4, b5⟩ := b
  have b1 : cells = C1 := b1
  subst b1
  exact W.widen (Nat.le_refl _) (by omega) (hr pc ls (some (.float v)) h H locs hp hn hd P S b5)
theorem XW.vret (hd : decode M.2.1 pc = .ok (.return_, 1)) (hn : xnar M.2.2.2.1 none) (hp : Post none h) : XW M d 0 ms pc L [] h Post := by
  intro p l e R s m args below meth c G Q H locs cells slots C1 S1 ls F P S E b hr
  obtain ⟨b1, b2, b3, b4, b5⟩ := b
  have b1 : cells = C1 := b1
  subst b1
  exact W.widen (Nat.le_refl _) (by omega) (hr pc ls none h H locs hp hn hd P S b5)
end XRows4
