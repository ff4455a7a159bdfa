/-! Calling: a contract is XW from the method's first instruction -/
section XCalls
variable {M : xM} {d mc ms pc : Nat} {L : xL} {st : List Value} {h : xH} {Post : Option Value → xH → Prop}
def xsl (vs : List Value) : xL := vs.flatMap (fun v => if v.category = 2 then [some v, none] else [some v])
def xin (vs : List Value) (n : Nat) : xL := xsl vs ++ List.replicate (n - (xsl vs).length) none
/-- the method's contract: with these values and this world it returns, with Post -/
abbrev XC (M : xM) (d mc ms : Nat) (vs : List Value) (h : xH) (Post : Option Value → xH → Prop) : Prop := XW M d mc ms 0 (xin vs M.2.2.1) [] h Post
theorem xsl_args (G : xG) : ∀ (vs : List Value) (i k : Nat) (v : Value), (xsl vs)[i]? = some (some v) → (k + i, xv G v) ∈ lv_args k (vs.map (xv G))
  | [], i, k, v, h => by simp [xsl] at h
  | w :: vs, i, k, v, h => by
    have ih := xsl_args G vs
    by_cases hc : w.category = 2
    · have e : xsl (w :: vs) = some w :: none :: xsl vs := by simp [xsl, hc]
      rw [e] at h
      show (k + i, xv G v) ∈ (k, xv G w) :: lv_args (if (xv G w).category = 2 then k + 2 else k + 1) (vs.map (xv G))
      rw [xv_cat, if_pos hc]
      match i, h with
      | 0, h => cases h; exact List.mem_cons_self
      | 1, h => simp at h
      | i + 2, h =>
        have h : (xsl vs)[i]? = some (some v) := by simpa using h
        have := ih i (k + 2) v h
        rw [show k + 2 + i = k + (i + 2) by omega] at this
        exact List.mem_cons_of_mem _ this
    · have e : xsl (w :: vs) = some w :: xsl vs := by simp [xsl, hc]
      rw [e] at h
      show (k + i, xv G v) ∈ (k, xv G w) :: lv_args (if (xv G w).category = 2 then k + 2 else k + 1) (vs.map (xv G))
      rw [xv_cat, if_neg hc]
      match i, h with
      | 0, h => cases h; exact List.mem_cons_self
      | i + 1, h =>
        have h : (xsl vs)[i]? = some (some v) := by simpa using h
        have := ih i (k + 1) v h
        rw [show k + 1 + i = k + (i + 1) by omega] at this
        exact List.mem_cons_of_mem _ this
theorem xsl_len (G : xG) : ∀ vs : List Value, (lg_sl (vs.map (xv G))).length = (xsl vs).length
  | [] => rfl
  | w :: vs => by
    have ih := xsl_len G vs
    simp only [lg_sl, xsl, List.map_cons, List.flatMap_cons, List.length_append, xv_cat] at ih ⊢
    rw [ih]
    by_cases hc : w.category = 2 <;> simp [hc]
theorem xin_entry {G : xG} {vs : List Value} {n : Nat} (hn : (xsl vs).length ≤ n) : xls G ((lg_sl (vs.map (xv G)) ++ List.replicate (n - (lg_sl (vs.map (xv G))).length) Slot.unset).toArray) n (xin vs n) := by
  have hl := lv_entry (vs.map (xv G)) (n := n) (by rw [xsl_len]; exact hn)
  refine ⟨hl.1, hl.2.1, fun i v hv => ?_⟩
  refine hl.2.2 (i, xv G v) ?_
  unfold xin at hv
  by_cases hi : i < (xsl vs).length
  · rw [List.getElem?_append_left hi] at hv
    have := xsl_args G vs i 0 v hv
    rw [Nat.zero_add] at this
    exact this
  · rw [List.getElem?_append_right (by omega), List.getElem?_replicate] at hv
    split at hv <;> cases hv
def xws (M : xM) : List Cond := Cond.code M.1 M.2.1 M.2.2.1 M.2.2.2.1 :: lw_good
def xrm (d mc ms : Nat) : Room := { frames := d, cells := mc, slots := ms, locals := 38 * d }
def xPc (G : xG) (vs : List Value) (h : xH) : Array Value → State → Prop := fun a U => a = (vs.map (xv G)).toArray ∧ xP G h U.heap ∧ U.heap.size = G.2.2.1 + h.length ∧ xK G U
def xQc (G : xG) (h : xH) (mc : Nat) (Post : Option Value → xH → Prop) : Array Value → State → Outcome → State → Prop := fun _ st0 oc t => ∃ (r : Option Value) (h' : xH), oc = .returned (r.map (xv G)) ∧ Post r h' ∧ xP G h' t.heap ∧ h'.length = h.length + mc ∧ va_F (xA G) st0 t
theorem XC.met (l : Launch) (G : xG) {vs : List Value} (hM : M.2.2.2.2 = none) (hpl : plainName M.1.cls = true) (hn : (xsl vs).length ≤ M.2.2.1) (k : XC M d mc ms vs h Post) : Met l M.1 (xws M) (xrm d mc ms) (xPc G vs h) (xQc G h mc Post) mc ms (xA G) := by
  refine Met.ofW (cc := M.2.1) (maxL := M.2.2.1) (ret := M.2.2.2.1) hpl rfl ?_
  intro p e s m args below meth c s₁ B hml hv
  obtain ⟨rfl, hP, hz, hK⟩ := hv
  have hts := atoms_spec (ws := xws M) B.pre
  have hown : s.vm.findClass M.1.cls = some m.cls := findClass_of_methodNamed B.named
  have hname := (name_of_methodNamed B.named B.method).1
  have hr := B.returns
  have hx := B.exec
  have hb := B.bytes
  have hlocks := B.notSynchronized
  rw [lg_entry_eq]
  refine k p l e (xrm d mc ms) s m _ below meth c G _ s.heap [] 0 0 mc ms _ ⟨hx, hb, hml, hown, fun w hw => hts w (List.mem_cons_of_mem _ hw), hK, by omega, hname, hlocks, by rw [hM]; trivial, Nat.le_refl _, Nat.le_refl _⟩ hP va_S.rf (xin_entry hn) ⟨Nat.zero_add _, by omega, Nat.le_refl _, Nat.le_refl _, by omega⟩ (fun pc ls r h' H' locs' hPost hnar hdec hP' hS' hz' => ?_)
  have hlen : h'.length = h.length + mc := by omega
  have fin : ∀ t : State, t.heap = H' → s.WarmedH t.vm → xQc G h mc Post ((vs.map (xv G)).toArray) s (.returned (r.map (xv G))) t := fun t ht _ => ⟨r, h', rfl, hPost, by rw [ht]; exact hP', hlen, hS'.F ht⟩
  generalize hret : M.2.2.2.1 = ret at hnar hr
  match ret, r, hnar with
  | none, none, _ => exact W.vret hx hb hr fin hS'.2.2 hdec
  | some ty, some (.int v), hn => exact W.zret (ty := ty) hx hb hr hn fin hS'.2.2 hdec
  | some .long, some (.long v), _ => exact W.lret hx hb hr fin hS'.2.2 hdec
  | some .float, some (.float v), _ => exact W.fret hx hb hr fin hS'.2.2 hdec
/-- a method that can be called -/
def xMd (M' : xM) (n : Nat) : Prop := M'.2.2.2.2 = none ∧ plainName M'.1.cls = true ∧ M'.2.2.1 ≤ 19 ∧ Cond.code M'.1 M'.2.1 M'.2.2.1 M'.2.2.2.1 ∈ lw_good ∧ Cond.initialized M'.1.cls ∈ lw_good ∧ (M'.1.cls ≠ "java/lang/invoke/MethodHandle" ∧ M'.1.cls ≠ "java/lang/invoke/VarHandle" ∧ (parseMethodDescriptor M'.1.desc).map (fun d => d.parameters.length) = some n)
theorem lw_goodIn {ws : List Cond} (hw : ∀ w ∈ ws, w ∈ lw_good) : GoodIn lw_good ws := fun w h => ⟨hw w h, good_of_word (List.mem_filter.mp (hw w h)).2⟩
theorem xws_in {M' : xM} {n : Nat} (hm : xMd M' n) : ∀ w ∈ xws M', w ∈ lw_good := fun w hw => (List.mem_cons.mp hw).elim (fun e => by rw [e]; exact hm.2.2.2.1) id
theorem xPc_blind {G : xG} {vs : List Value} {h : xH} : FrameBlind (xPc G vs h) := fun a U g mk q => ⟨q.1, q.2.1, q.2.2.1, xK.same (rfl : U.vm = (U.calling g mk a).vm) q.2.2.2⟩
/-- behind a call -/
theorem xgo {M : xM} {p : Program} {l : Launch} {e : Env} {R : Room} {s : State} {m : MethodId} {args : Array Value} {below : List Frame} {meth : Method} {c : Code} {G : xG} {Q : State → Prop} {H : Heap} {locs : List Loc} {cells slots C1 S1 mc' ms' mcr msr : Nat} {ls : Array Slot} {T0 : State} {st0 : List Value} {rest : List Value} {a : Array Value} {Post' : Option Value → xH → Prop}
    (hr0 : va_Run p l e R s m args below meth c H locs cells slots mc' ms' (F0 m pc ls st0) (rest.map (xv G)) (xQc G h mc' Post' a) (xA G)) (S : va_S (xA G) s.heap H locs) (hT : T0.heap = H) (X : Stand p l e R s m args below meth c T0 locs cells slots)
    (F : xF M d p R s m args meth c G) (E : xls G ls M.2.2.1 L) (b1 : cells + (mc' + mcr) = C1) (b2 : slots + (ms' + msr) ≤ S1) (b3 : C1 ≤ R.cells) (b4 : S1 ≤ R.slots) (b5 : G.2.2.1 + h.length = s.heap.size + cells)
    (hr : ∀ (pc : Nat) (ls : Array Slot) (r : Option Value) (h' : xH) (H' : Heap) (locs' : List Loc), Post r h' → xnar M.2.2.2.1 r → decode M.2.1 pc = .ok (xrins r, 1) → xP G h' H' → va_S (xA G) s.heap H' locs' → G.2.2.1 + h'.length = s.heap.size + C1 → W p l e R s m args below meth c H' locs' C1 S1 Q (F0 m pc ls (r.toList.map (xv G))))
    (k : ∀ (r : Option Value) (h1 : xH), Post' r h1 → XW M d mcr msr (pc + 3) L (r.toList ++ rest) h1 Post) : ∃ t, Steps p.tables e below (T0.setTop (F0 m pc ls st0)) t ∧ Q t := by
  obtain ⟨v, st₀, t, T', Lc, h0, X', hLc, e1, e2, ⟨r, h1, hv, hPost, hP1, hl1, hF⟩, go⟩ := hr0 T0 hT X
  have hv : v = r.map (xv G) := by injection hv
  subst hv
  obtain ⟨hz, hk⟩ := hF
  rw [h0] at hz hk
  have S' : va_S (xA G) s.heap T'.heap (locs ++ Lc) := ⟨Nat.le_trans S.1 (by rw [e1]; exact hz), fun q h1 h2 => by rw [e1, hk q (Nat.lt_of_lt_of_le h1 S.1) h2]; exact S.2.1 q h1 h2, fun q hq => by
      rcases List.mem_append.mp hq with h | h
      · exact S.2.2 q h
      · exact hLc q h⟩
  obtain ⟨t2, a1, b1'⟩ := k r h1 hPost p l e R s m args below meth c G Q T'.heap (locs ++ Lc) (cells + mc') (slots + ms') C1 S1 ls F (by rw [e1]; exact hP1) S' E ⟨by omega, by omega, b3, b4, by omega⟩ hr T' rfl X'
  refine ⟨t2, go t2 ?_, b1'⟩
  cases r with
  | none => exact a1
  | some w => exact a1
/-- a virtual call of a method of the receiver's own class -/
def xMv (own : String) (idx ci n : Nat) (M' : xM) : Prop := xMd M' n ∧ Cond.methodLink own idx M'.1 ∈ lw_good ∧ Cond.instanceMethod M'.1 ∈ lw_good ∧ Cond.selects M'.1.cls M'.1 M'.1 ∈ lw_good ∧ ∃ q : vw_C, vwCl[ci]? = some q ∧ q.1 = M'.1.cls
theorem XW.callV (pc' : Nat) {M' : xM} {d' mc' ms' mcr msr idx ci o : Nat} {fs vs rest : List Value} {st0 : List Value} {Post' : Option Value → xH → Prop} (hw : xMv M.1.cls idx ci vs.length M') (hd : decode M.2.1 pc = .ok (.invokevirtual idx, 3)) (hst : st0 = vs.reverse ++ .ref o :: rest) (ho : h[o]? = some (.inr (ci, fs))) (hdd : d' + 1 ≤ d) (hre : (rest.map (fun v => v.category)).sum ≤ 8) (hmc : mc' + mcr = mc) (hms : ms' + msr = ms) (hnn : (xsl (.ref o :: vs)).length ≤ M'.2.2.1) (hp : pc + 3 = pc') (hc : XC M' d' mc' ms' (.ref o :: vs) h Post') (k : ∀ (r : Option Value) (h1 : xH), Post' r h1 → XW M d mcr msr pc' L (r.toList ++ rest) h1 Post) : XW M d mc ms pc L st0 h Post := by
  subst hp; subst hmc; subst hms; subst hst
  obtain ⟨hmd, w1, w2, w3, q, hq1, hq2⟩ := hw
  intro p l e R s m args below meth c G Q H locs cells slots C1 S1 ls F P S E b hr T0 hT X
  obtain ⟨b1, b2, b3, b4, b5⟩ := b
  have hz := P.size F.2.2.2.2.2.2.1 hT X b5
  have hfr : d ≤ R.frames := F.2.2.2.2.2.2.2.2.2.2.1
  have hlo : 38 * d ≤ R.locals := F.2.2.2.2.2.2.2.2.2.2.2
  have h19 := hmd.2.2.1
  have cw : CallW R s args M.1.cls M'.1.cls idx M'.1 M'.2.1 M'.2.2.1 M'.2.2.2.1 (xws M') (xrm d' mc' ms') mc' ms' vs.length := by
    refine cwV vs.length F.2.2.2.2.1 (lw_goodIn (fun w hw => ?_)) rfl rfl rfl ⟨rfl, hmd.2.2.2.2.2⟩ ⟨by show d' + 1 ≤ _; omega, by show 8 + (M'.2.2.1 + 11) + 38 * d' ≤ _; omega⟩
    rcases List.mem_append.mp hw with hw | hw
    · simp only [List.mem_cons, List.not_mem_nil, or_false] at hw
      rcases hw with rfl | rfl | rfl | rfl
      · exact w1
      · exact w2
      · exact w3
      · exact hmd.2.2.2.2.1
    · exact xws_in hmd w hw
  have hcat : ((rest.map (xv G)).map (fun v => v.category)).sum ≤ 8 := by
    rw [List.map_map]
    have : ((fun v : Value => v.category) ∘ xv G) = (fun v => v.category) := funext (fun v => xv_cat G v)
    rw [this]; exact hre
  have hpre : PreV s H M'.1.cls (G.2.2.1 + o) (xPc G (.ref o :: vs) h) (vs.map (xv G)) := ⟨xPc_blind, by
      have := va_recv F.2.2.2.2.2.1.1 P hq1 (xw_get ho)
      rw [hq2] at this
      exact this, fun U hU hW => ⟨rfl, by rw [hU]; exact P, by rw [hU]; exact hz, F.2.2.2.2.2.1.warm hW⟩⟩
  have run := va_runV (l := l) (e := e) (below := below) (meth := meth) (H := H) (locs := locs) (cells := cells) (slots := slots) (rest := rest.map (xv G)) (g := F0 m pc ls ((vs.reverse ++ .ref o :: rest).map (xv G))) (As := vs.map (xv G)) (b := G.2.2.1 + o) ⟨F.1, F.2.1, F.2.2.1, F.2.2.2.1, F.2.2.2.2.1⟩ (XC.met l G hmd.1 hmd.2.1 hnn hc) cw hpre rfl (List.length_map _) E.1 (by show (vs.reverse ++ .ref o :: rest).map (xv G) = _; rw [List.map_append, List.map_reverse]; rfl) (lv_room hcat) hd ⟨by omega, by omega⟩
  exact xgo run S hT X F E b1 b2 b3 b4 b5 hr k
/-- a static call, or one of a nest mate's static method -/
def xMs (own : String) (idx n : Nat) (M' : xM) : Prop := xMd M' n ∧ Cond.static M'.1 ∈ lw_good ∧ (Cond.methodLink own idx M'.1 ∈ lw_good ∨ Cond.methodLinkNest own idx M'.1 RX3 ∈ lw_nest)
theorem XW.callS (pc' : Nat) {M' : xM} {d' mc' ms' mcr msr idx : Nat} {vs rest : List Value} {st0 : List Value} {Post' : Option Value → xH → Prop} (hw : xMs M.1.cls idx vs.length M') (hd : decode M.2.1 pc = .ok (.invokestatic idx, 3)) (hst : st0 = vs.reverse ++ rest) (hdd : d' + 1 ≤ d) (hre : (rest.map (fun v => v.category)).sum ≤ 8) (hmc : mc' + mcr = mc) (hms : ms' + msr = ms) (hnn : (xsl vs).length ≤ M'.2.2.1) (hp : pc + 3 = pc') (hc : XC M' d' mc' ms' vs h Post') (k : ∀ (r : Option Value) (h1 : xH), Post' r h1 → XW M d mcr msr pc' L (r.toList ++ rest) h1 Post) : XW M d mc ms pc L st0 h Post := by
  subst hp; subst hmc; subst hms; subst hst
  obtain ⟨hmd, w1, w2⟩ := hw
  intro p l e R s m args below meth c G Q H locs cells slots C1 S1 ls F P S E b hr T0 hT X
  obtain ⟨b1, b2, b3, b4, b5⟩ := b
  have hz := P.size F.2.2.2.2.2.2.1 hT X b5
  have hfr : d ≤ R.frames := F.2.2.2.2.2.2.2.2.2.2.1
  have hlo : 38 * d ≤ R.locals := F.2.2.2.2.2.2.2.2.2.2.2
  have h19 := hmd.2.2.1
  have hcat : ((rest.map (xv G)).map (fun v => v.category)).sum ≤ 8 := by
    rw [List.map_map]
    have : ((fun v : Value => v.category) ∘ xv G) = (fun v => v.category) := funext (fun v => xv_cat G v)
    rw [this]; exact hre
  have hpre : PreS s H (xPc G vs h) (vs.map (xv G)) := ⟨xPc_blind, fun U hU hW => ⟨rfl, by rw [hU]; exact P, by rw [hU]; exact hz, F.2.2.2.2.2.1.warm hW⟩⟩
  have hstk : (vs.reverse ++ rest).map (xv G) = (vs.map (xv G)).reverse ++ rest.map (xv G) := by rw [List.map_append, List.map_reverse]
  rcases w2 with w2 | w2
  · have cw : CallB R s args M.1.cls idx M'.1 M'.2.1 M'.2.2.1 M'.2.2.2.1 (xws M') (xrm d' mc' ms') mc' ms' vs.length ∧ (Cond.static M'.1).before args s = true := by
      refine va_cwS vs.length F.2.2.2.2.1 (lw_goodIn (fun w hw => ?_)) rfl rfl rfl hmd.2.2.2.2.2 ⟨by show d' + 1 ≤ _; omega, by show 8 + (M'.2.2.1 + 11) + 38 * d' ≤ _; omega⟩
      rcases List.mem_append.mp hw with hw | hw
      · simp only [List.mem_cons, List.not_mem_nil, or_false] at hw
        rcases hw with rfl | rfl | rfl
        · exact w2
        · exact w1
        · exact hmd.2.2.2.2.1
      · exact xws_in hmd w hw
    have run := va_runS (l := l) (e := e) (below := below) (meth := meth) (H := H) (locs := locs) (cells := cells) (slots := slots) (rest := rest.map (xv G)) (g := F0 m pc ls ((vs.reverse ++ rest).map (xv G))) (As := vs.map (xv G)) ⟨F.1, F.2.1, F.2.2.1, F.2.2.2.1, F.2.2.2.2.1⟩ (XC.met l G hmd.1 hmd.2.1 hnn hc) cw hpre rfl (List.length_map _) E.1 hstk (lv_room hcat) hd ⟨by omega, by omega⟩
    exact xgo run S hT X F E b1 b2 b3 b4 b5 hr k
  · have cw : va_CN R s args M.1.cls idx M'.1 RX3 M'.2.1 M'.2.2.1 M'.2.2.2.1 (xws M') (xrm d' mc' ms') mc' ms' vs.length := va_cnB vs.length F.2.2.2.2.1 (lw_goodIn (xws_in hmd)) rfl rfl rfl (F.2.2.2.2.2.1.2.1 _ w2) (F.2.2.2.2.1 _ hmd.2.2.2.2.1) hmd.2.2.2.2.2 ⟨by show d' + 1 ≤ _; omega, by show 8 + (M'.2.2.1 + 11) + 38 * d' ≤ _; omega⟩
    have run := va_runSN (l := l) (e := e) (below := below) (meth := meth) (H := H) (locs := locs) (cells := cells) (slots := slots) (rest := rest.map (xv G)) (g := F0 m pc ls ((vs.reverse ++ rest).map (xv G))) (As := vs.map (xv G)) ⟨F.1, F.2.1, F.2.2.1, F.2.2.2.1, F.2.2.2.2.1⟩ (XC.met l G hmd.1 hmd.2.1 hnn hc) ⟨cw, F.2.2.2.2.1 _ w1, trivial⟩ hpre rfl (List.length_map _) E.1 hstk (lv_room hcat) hd ⟨by omega, by omega⟩
    exact xgo run S hT X F E b1 b2 b3 b4 b5 hr k
/-- a constructor's call -/
def xMi (own : String) (idx n : Nat) (M' : xM) : Prop := xMd M' n ∧ Cond.methodLink own idx M'.1 ∈ lw_good ∧ Cond.instanceMethod M'.1 ∈ lw_good ∧ M'.1.name = "<init>" ∧ M'.2.2.2.1 = none
theorem XW.callI (pc' : Nat) {M' : xM} {d' mc' ms' mcr msr idx o : Nat} {vs rest : List Value} {st0 : List Value} {Post' : Option Value → xH → Prop} (hw : xMi M.1.cls idx vs.length M') (hd : decode M.2.1 pc = .ok (.invokespecial idx, 3)) (hst : st0 = vs.reverse ++ .ref o :: rest) (hdd : d' + 1 ≤ d) (hre : (rest.map (fun v => v.category)).sum ≤ 8) (hmc : mc' + mcr = mc) (hms : ms' + msr = ms) (hnn : (xsl (.ref o :: vs)).length ≤ M'.2.2.1) (hp : pc + 3 = pc') (hc : XC M' d' mc' ms' (.ref o :: vs) h Post') (k : ∀ (r : Option Value) (h1 : xH), Post' r h1 → XW M d mcr msr pc' L (r.toList ++ rest) h1 Post) : XW M d mc ms pc L st0 h Post := by
  subst hp; subst hmc; subst hms; subst hst
  obtain ⟨hmd, w1, w2, w3, w4⟩ := hw
  intro p l e R s m args below meth c G Q H locs cells slots C1 S1 ls F P S E b hr T0 hT X
  obtain ⟨b1, b2, b3, b4, b5⟩ := b
  have hz := P.size F.2.2.2.2.2.2.1 hT X b5
  have hfr : d ≤ R.frames := F.2.2.2.2.2.2.2.2.2.2.1
  have hlo : 38 * d ≤ R.locals := F.2.2.2.2.2.2.2.2.2.2.2
  have h19 := hmd.2.2.1
  have hcat : ((rest.map (xv G)).map (fun v => v.category)).sum ≤ 8 := by
    rw [List.map_map]
    have : ((fun v : Value => v.category) ∘ xv G) = (fun v => v.category) := funext (fun v => xv_cat G v)
    rw [this]; exact hre
  have hpre : PreS s H (xPc G (.ref o :: vs) h) (.ref (G.2.2.1 + o) :: vs.map (xv G)) := ⟨xPc_blind, fun U hU hW => ⟨rfl, by rw [hU]; exact P, by rw [hU]; exact hz, F.2.2.2.2.2.1.warm hW⟩⟩
  have hwe : xws M' = Cond.code M'.1 M'.2.1 M'.2.2.1 none :: lw_good := by unfold xws; rw [w4]
  have cw := cwI (R := R) (bytes := M'.2.1) (maxL := M'.2.2.1) (rm := xrm d' mc' ms') vs.length F.2.2.2.2.1 (lw_goodIn (xws_in hmd)) hwe rfl rfl (F.2.2.2.2.1 _ hmd.2.2.2.2.1) (F.2.2.2.2.1 _ w1) (F.2.2.2.2.1 _ w2) w3 hmd.2.2.2.2.2 ⟨by show d' + 1 ≤ _; omega, by show 8 + (M'.2.2.1 + 11) + 38 * d' ≤ _; omega⟩
  have run := va_runI (l := l) (e := e) (below := below) (meth := meth) (H := H) (locs := locs) (cells := cells) (slots := slots) (rest := rest.map (xv G)) (g := F0 m pc ls ((vs.reverse ++ .ref o :: rest).map (xv G))) (As := vs.map (xv G)) (b := G.2.2.1 + o) ⟨F.1, F.2.1, F.2.2.1, F.2.2.2.1, F.2.2.2.2.1⟩ (XC.met l G hmd.1 hmd.2.1 hnn hc) cw hpre rfl (List.length_map _) E.1 (by show (vs.reverse ++ .ref o :: rest).map (xv G) = _; rw [List.map_append, List.map_reverse]; rfl) (lv_room hcat) hd ⟨by omega, by omega⟩
  exact xgo run S hT X F E b1 b2 b3 b4 b5 hr k
/-- Object's own constructor -/
theorem XW.objInit (pc' : Nat) {idx o : Nat} (w1 : Cond.methodLink M.1.cls idx Lib.objectInit ∈ lw_good) (w2 : Cond.instanceMethod Lib.objectInit ∈ lw_good) (w3 : Cond.code Lib.objectInit ⟨#[0xb1]⟩ 1 none ∈ lw_good) (hd : decode M.2.1 pc = .ok (.invokespecial idx, 3)) (hdd : 1 ≤ d) (hp : pc + 3 = pc') (k : XW M d mc ms pc' L [] h Post) : XW M d mc ms pc L [.ref o] h Post := by
  subst hp
  refine XW.row (fun p l e R s m args below meth c G Q H locs cells slots ls F P S E k => ?_) k
  have hfr : d ≤ R.frames := F.2.2.2.2.2.2.2.2.2.2.1
  have hlo : 38 * d ≤ R.locals := F.2.2.2.2.2.2.2.2.2.2.2
  exact W.objInit (rest := []) F.1 F.2.1 F.2.2.2.1 (F.2.2.2.2.1 _ w1) (F.2.2.2.2.1 _ w2) (F.2.2.2.2.1 _ w3) rfl (E.1.trans F.2.2.1.symm) rfl hd (by omega) (by show 2 * 0 + 0 + 12 ≤ _; omega) k
/-- System.arraycopy of whole rows of ints, from their beginning -/
theorem XW.copy (pc' : Nat) {idx a0 a n0 n1 : Nat} {z1 z2 z3 : Int32} {f g : Nat → Int32} {h' : xH} (n : Nat) (w1 : Cond.methodLink M.1.cls idx arraycopyName ∈ lw_good) (w2 : Cond.native arraycopyName ∈ lw_good) (w3 : Cond.static arraycopyName ∈ lw_good) (w4 : Cond.initialized "java/lang/System" ∈ lw_good) (hd : decode M.2.1 pc = .ok (.invokestatic idx, 3)) (h0 : h[a0]? = some (.inl (n0, .inl f))) (h1 : h[a]? = some (.inl (n1, .inl g))) (e1 : z1 = 0) (e2 : z2 = 0) (e3 : z3 = nI n) (hn0 : n ≤ n0) (hn1 : n ≤ n1) (hn : n < 2 ^ 31) (hdd : 1 ≤ d) (he : h.set a (.inl (n1, .inl (va_cpy f g 0 0 n))) = h') (hp : pc + 3 = pc') (k : XW M d mc ms pc' L [] h' Post) : XW M d mc ms pc L [.int z3, .int z2, .ref a, .int z1, .ref a0] h Post := by
  subst hp; subst e1; subst e2; subst e3; subst he
  have hc : (nI n).toNatClampNeg = n := nI_clamp hn
  have hc0 : (0 : Int32).toNatClampNeg = 0 := rfl
  refine XW.rowH (by rw [List.length_set]) (fun p l e R s m args below meth c G Q H locs cells slots ls F P S E k => ?_) k
  have hfr : d ≤ R.frames := F.2.2.2.2.2.2.2.2.2.2.1
  have hlo : 38 * d ≤ R.locals := F.2.2.2.2.2.2.2.2.2.2.2
  have hnf : nativeFrameWords "java/lang/System" "arraycopy" 5 = 7 := by decide +kernel
  refine va_copyi (rest := []) F.1 F.2.1 (F.2.2.1.trans E.1.symm) F.2.2.2.1 (F.2.2.2.2.1 _ w1) (F.2.2.2.2.1 _ w2) (F.2.2.2.2.1 _ w3) (F.2.2.2.2.1 _ w4) F.2.2.2.2.2.1.1 P (xw_D G h) S a0 a 0 0 (ty := .int) (xw_get h0) (xw_get h1) rfl rfl rfl (sp := 0) (dp := 0) (n := nI n) (by decide) (by decide) (nI_pos hn) (by rw [hc, hc0]; omega) (by rw [hc, hc0]; omega) (fun _ _ => rfl) (by omega) (by rw [hnf]; show 0 + (7 + 11) ≤ _; omega) hd (fun H1 locs1 hP _ hS => ?_)
  rw [hc, hc0] at hP
  exact k H1 locs1 (xP_set (c := .inl (n1, .inl (va_cpy f g 0 0 n))) hP) hS
end XCalls
