/-! The class itself: what is refused, the states -/
section XLdc
variable {p : Program} {l : Launch} {e : Env} {R : Room} {s : State} {m : MethodId} {args : Array Value} {below : List Frame} {meth : Method} {c : Code} {T : State} {locs : List Loc} {cells slots : Nat}
theorem x_ldcwF (X : Stand p l e R s m args below meth c T locs cells slots) (hexec : p.tables.exec = Jvm.exec) {own : String} {index : Nat} {v : UInt32} (hown : s.vm.findClass own = some m.cls)
    (hconst : (Cond.constantFloat own index v).before args s = true) {g : JFrame} (hg : g.method = m) (hdg : decode c.code g.pc = .ok (.ldc_w index, 3)) :
    ∀ target, Steps p.tables e below (T.setTop { g with pc := g.pc + 3, stack := .float v :: g.stack }) target → Steps p.tables e below (T.setTop g) target := by
  obtain ⟨k, cf, hk, hcf, hcp⟩ := Cond.constantFloat_spec hown hconst
  obtain ⟨k', hk', he⟩ := X.warmed.alike.2.2 _ _ hk
  intro target hrest
  subst hg
  jvm_step X.here [hexec, hdg, ldc_w.wp_float (s := T) (f := g) X.here.top hk' (by rw [he]; exact hcf) hcp]
  exact hrest
end XLdc
theorem XW.ldcwf {M : xM} {d mc ms pc : Nat} {L : xL} {st : List Value} {h : xH} {Post : Option Value → xH → Prop} (pc' : Nat) {i : Nat} {v : UInt32} (hw : Jvm.Cond.constantFloat M.1.cls i v ∈ lw_good) (hd : decode M.2.1 pc = .ok (.ldc_w i, 3)) (hp : pc + 3 = pc') (k : XW M d mc ms pc' L (.float v :: st) h Post) : XW M d mc ms pc L st h Post := by
  subst hp
  refine XW.row (fun p l e R s m args below meth c G Q H locs cells slots ls F P S E k => ?_) k
  intro T hT X
  obtain ⟨t, a, b⟩ := k T hT X
  exact ⟨t, x_ldcwF X F.1 F.2.2.2.1 (F.2.2.2.2.1 _ hw) (g := F0 m pc ls (st.map (xv G))) rfl (by rw [F.2.1]; exact hd) t a, b⟩
/-- a COLOUR's number -/
def isC (x col : Int32) : Bool := !decide (x < 0) && !decide (col ≤ x)
theorem isC_n {x : Int32} {c : Nat} (hc : c < 2 ^ 31) (h : isC x (nI c) = true) : ∃ j, j < c ∧ x = nI j := by
  unfold isC at h
  simp only [Bool.and_eq_true, Bool.not_eq_true', decide_eq_false_iff_not] at h
  obtain ⟨j, h1, h2⟩ := nI_of h.1
  refine ⟨j, ?_, h2⟩
  have h3 := h.2
  rw [h2, nI_leI hc h1] at h3
  omega
/-- one more refused -/
def rfZ (Z : xZ) (w : Nat) : xZ := sA Z 44 (upd (Z.2.1 44) w (Z.2.1 44 w + 1))
def wcF (r g b col : Int32) : Int32 := if rgbF r g b = true then (if col < 20 then 0 else -4) else -2
def wlF (what v : Int32) : Int32 := if inF what 0 2 = true ∧ inF v 0 255 = true then 0 else -2
def wxF (i on col : Int32) : Int32 := if isC i col = true ∧ inF on 0 1 = true then 0 else -2
def wfF (n fx : Int32) : Int32 := if inF n 1 8 = true then (if bcF fx ≤ n then 0 else -3) else -2
set_option maxHeartbeats 400000 in
set_option maxRecDepth 100000 in
theorem c_refuse0 {Z : xZ} : XC mX3_refuse 0 0 0 [.ref 0, .int (-2)] (HP Z) (fun r h' => r = some (.int (-2)) ∧ h' = HP (rfZ Z 0)) := by
  show XW mX3_refuse 0 0 0 0 [some (.ref 0), some (.int (-2)), none] [] (HP Z) _
  refine XW.bipush 2 dX3_refuse_0 (v := -2) (by decide) rfl ?_
  refine XW.iload_n 3 dX3_refuse_2 rfl rfl ?_
  refine XW.isub 4 dX3_refuse_3 rfl ?_
  refine XW.eqs (st' := [.int 0]) rfl (by decide) rfl ?_
  refine XW.istore_n 5 (L' := [some (.ref 0), some (.int (-2)), some (.int 0)]) dX3_refuse_4 (by decide) rfl rfl rfl ?_
  refine XW.iload_n 6 dX3_refuse_5 rfl rfl ?_
  refine XW.if_lt 28 9 dX3_refuse_6 (by decide) rfl (fun c_6 => ?_) (fun c_6 => ?_)
  · exact absurd c_6 (by decide)
  · refine XW.iload_n 10 dX3_refuse_9 rfl rfl ?_
    refine XW.aload_n 11 dX3_refuse_10 rfl rfl ?_
    refine XW.getf 14 (v := .ref 44) f3_24 dX3_refuse_11 rfl rfl rfl ?_
    refine XW.alen 15 (v := 3) dX3_refuse_14 rfl rfl rfl ?_
    refine XW.icmp_geN 28 18 0 3 dX3_refuse_15 (by decide) rfl rfl rfl (by omega) (by omega) (fun c_15 => ?_) (fun c_15 => ?_)
    · exact absurd c_15 (by decide)
    · refine XW.aload_n 19 dX3_refuse_18 rfl rfl ?_
      refine XW.getf 22 (v := .ref 44) f3_24 dX3_refuse_19 rfl rfl rfl ?_
      refine XW.iload_n 23 dX3_refuse_22 rfl rfl ?_
      refine XW.dup2 24 dX3_refuse_23 rfl rfl rfl ?_
      refine XW.iald 25 0 dX3_refuse_24 rfl rfl (by omega) (by decide) rfl ?_
      refine XW.iconst 26 dX3_refuse_25 (v := 1) (by decide) rfl ?_
      refine XW.iadd 27 dX3_refuse_26 rfl ?_
      refine XW.iast 28 (h' := HP (sA Z 44 (upd (Z.2.1 44) 0 ((Z.2.1 44 0) + 1)))) 0 dX3_refuse_27 rfl rfl (by omega) (by decide) rfl rfl ?_
      refine XW.iload_n 29 dX3_refuse_28 rfl rfl ?_
      exact XW.iret dX3_refuse_29 rfl (⟨rfl, rfl⟩)
set_option maxHeartbeats 400000 in
set_option maxRecDepth 100000 in
theorem c_refuse1 {Z : xZ} : XC mX3_refuse 0 0 0 [.ref 0, .int (-3)] (HP Z) (fun r h' => r = some (.int (-3)) ∧ h' = HP (rfZ Z 1)) := by
  show XW mX3_refuse 0 0 0 0 [some (.ref 0), some (.int (-3)), none] [] (HP Z) _
  refine XW.bipush 2 dX3_refuse_0 (v := -2) (by decide) rfl ?_
  refine XW.iload_n 3 dX3_refuse_2 rfl rfl ?_
  refine XW.isub 4 dX3_refuse_3 rfl ?_
  refine XW.eqs (st' := [.int 1]) rfl (by decide) rfl ?_
  refine XW.istore_n 5 (L' := [some (.ref 0), some (.int (-3)), some (.int 1)]) dX3_refuse_4 (by decide) rfl rfl rfl ?_
  refine XW.iload_n 6 dX3_refuse_5 rfl rfl ?_
  refine XW.if_lt 28 9 dX3_refuse_6 (by decide) rfl (fun c_6 => ?_) (fun c_6 => ?_)
  · exact absurd c_6 (by decide)
  · refine XW.iload_n 10 dX3_refuse_9 rfl rfl ?_
    refine XW.aload_n 11 dX3_refuse_10 rfl rfl ?_
    refine XW.getf 14 (v := .ref 44) f3_24 dX3_refuse_11 rfl rfl rfl ?_
    refine XW.alen 15 (v := 3) dX3_refuse_14 rfl rfl rfl ?_
    refine XW.icmp_geN 28 18 1 3 dX3_refuse_15 (by decide) rfl rfl rfl (by omega) (by omega) (fun c_15 => ?_) (fun c_15 => ?_)
    · exact absurd c_15 (by decide)
    · refine XW.aload_n 19 dX3_refuse_18 rfl rfl ?_
      refine XW.getf 22 (v := .ref 44) f3_24 dX3_refuse_19 rfl rfl rfl ?_
      refine XW.iload_n 23 dX3_refuse_22 rfl rfl ?_
      refine XW.dup2 24 dX3_refuse_23 rfl rfl rfl ?_
      refine XW.iald 25 1 dX3_refuse_24 rfl rfl (by omega) (by decide) rfl ?_
      refine XW.iconst 26 dX3_refuse_25 (v := 1) (by decide) rfl ?_
      refine XW.iadd 27 dX3_refuse_26 rfl ?_
      refine XW.iast 28 (h' := HP (sA Z 44 (upd (Z.2.1 44) 1 ((Z.2.1 44 1) + 1)))) 1 dX3_refuse_27 rfl rfl (by omega) (by decide) rfl rfl ?_
      refine XW.iload_n 29 dX3_refuse_28 rfl rfl ?_
      exact XW.iret dX3_refuse_29 rfl (⟨rfl, rfl⟩)
set_option maxHeartbeats 400000 in
set_option maxRecDepth 100000 in
theorem c_refuse2 {Z : xZ} : XC mX3_refuse 0 0 0 [.ref 0, .int (-4)] (HP Z) (fun r h' => r = some (.int (-4)) ∧ h' = HP (rfZ Z 2)) := by
  show XW mX3_refuse 0 0 0 0 [some (.ref 0), some (.int (-4)), none] [] (HP Z) _
  refine XW.bipush 2 dX3_refuse_0 (v := -2) (by decide) rfl ?_
  refine XW.iload_n 3 dX3_refuse_2 rfl rfl ?_
  refine XW.isub 4 dX3_refuse_3 rfl ?_
  refine XW.eqs (st' := [.int 2]) rfl (by decide) rfl ?_
  refine XW.istore_n 5 (L' := [some (.ref 0), some (.int (-4)), some (.int 2)]) dX3_refuse_4 (by decide) rfl rfl rfl ?_
  refine XW.iload_n 6 dX3_refuse_5 rfl rfl ?_
  refine XW.if_lt 28 9 dX3_refuse_6 (by decide) rfl (fun c_6 => ?_) (fun c_6 => ?_)
  · exact absurd c_6 (by decide)
  · refine XW.iload_n 10 dX3_refuse_9 rfl rfl ?_
    refine XW.aload_n 11 dX3_refuse_10 rfl rfl ?_
    refine XW.getf 14 (v := .ref 44) f3_24 dX3_refuse_11 rfl rfl rfl ?_
    refine XW.alen 15 (v := 3) dX3_refuse_14 rfl rfl rfl ?_
    refine XW.icmp_geN 28 18 2 3 dX3_refuse_15 (by decide) rfl rfl rfl (by omega) (by omega) (fun c_15 => ?_) (fun c_15 => ?_)
    · exact absurd c_15 (by decide)
    · refine XW.aload_n 19 dX3_refuse_18 rfl rfl ?_
      refine XW.getf 22 (v := .ref 44) f3_24 dX3_refuse_19 rfl rfl rfl ?_
      refine XW.iload_n 23 dX3_refuse_22 rfl rfl ?_
      refine XW.dup2 24 dX3_refuse_23 rfl rfl rfl ?_
      refine XW.iald 25 2 dX3_refuse_24 rfl rfl (by omega) (by decide) rfl ?_
      refine XW.iconst 26 dX3_refuse_25 (v := 1) (by decide) rfl ?_
      refine XW.iadd 27 dX3_refuse_26 rfl ?_
      refine XW.iast 28 (h' := HP (sA Z 44 (upd (Z.2.1 44) 2 ((Z.2.1 44 2) + 1)))) 2 dX3_refuse_27 rfl rfl (by omega) (by decide) rfl rfl ?_
      refine XW.iload_n 29 dX3_refuse_28 rfl rfl ?_
      exact XW.iret dX3_refuse_29 rfl (⟨rfl, rfl⟩)
set_option maxHeartbeats 400000 in
set_option maxRecDepth 100000 in
theorem c_isColour {Z : xZ} (x : Int32) : XC mX3_isColour 0 0 0 [.ref 0, .int x] (HP Z) (fun r h' => r = some (.int (b2i (isC x (Z.1 1 0)))) ∧ h' = HP Z) := by
  show XW mX3_isColour 0 0 0 0 [some (.ref 0), some (.int x)] [] (HP Z) _
  refine XW.iload_n 1 dX3_isColour_0 rfl rfl ?_
  refine XW.if_lt 19 4 dX3_isColour_1 (by decide) rfl (fun c_1 => ?_) (fun c_1 => ?_)
  · refine XW.iconst 20 dX3_isColour_19 (v := 0) (by decide) rfl ?_
    exact XW.iret dX3_isColour_20 rfl (⟨pF (by simp [isC, *]), rfl⟩)
  · refine XW.iload_n 5 dX3_isColour_4 rfl rfl ?_
    refine XW.aload_n 6 dX3_isColour_5 rfl rfl ?_
    refine XW.getf 9 (v := .ref 1) f3_10 dX3_isColour_6 rfl rfl rfl ?_
    refine XW.getf 12 (v := .int (Z.1 1 0)) f3_167 dX3_isColour_9 rfl rfl rfl ?_
    refine XW.icmp_ge 19 15 dX3_isColour_12 (by decide) rfl (fun c_12 => ?_) (fun c_12 => ?_)
    · refine XW.iconst 20 dX3_isColour_19 (v := 0) (by decide) rfl ?_
      exact XW.iret dX3_isColour_20 rfl (⟨pF (by simp [isC, *]), rfl⟩)
    · refine XW.iconst 16 dX3_isColour_15 (v := 1) (by decide) rfl ?_
      refine XW.goto 20 dX3_isColour_16 (by decide) ?_
      exact XW.iret dX3_isColour_20 rfl (⟨pT (by simp [isC, *]), rfl⟩)
set_option maxHeartbeats 400000 in
set_option maxRecDepth 100000 in
theorem c_whyNoColour {Z : xZ} (x y z : Int32) : XC mX3_whyNoColour 2 0 0 [.ref 0, .int x, .int y, .int z] (HP Z) (fun r h' => r = some (.int (wcF x y z (Z.1 1 0))) ∧ h' = HP Z) := by
  show XW mX3_whyNoColour 2 0 0 0 [some (.ref 0), some (.int x), some (.int y), some (.int z)] [] (HP Z) _
  refine XW.iload_n 1 dX3_whyNoColour_0 rfl rfl ?_
  refine XW.iload_n 2 dX3_whyNoColour_1 rfl rfl ?_
  refine XW.iload_n 3 dX3_whyNoColour_2 rfl rfl ?_
  refine XW.callS 6 (vs := [.int x, .int y, .int z]) (rest := []) (mcr := 0) (msr := 0) c3_60 dX3_whyNoColour_3 rfl (by decide) (Nat.le_of_ble_eq_true rfl) rfl rfl (Nat.le_of_ble_eq_true rfl) rfl (c_isRgb _ _ _ _) (fun r h1 hq => ?_)
  obtain ⟨rfl, rfl⟩ := hq
  refine XW.if_neB 12 9 dX3_whyNoColour_6 (by decide) rfl (fun c_6 => ?_) (fun c_6 => ?_)
  · refine XW.aload_n 13 dX3_whyNoColour_12 rfl rfl ?_
    refine XW.getf 16 (v := .ref 1) f3_10 dX3_whyNoColour_13 rfl rfl rfl ?_
    refine XW.getf 19 (v := .int (Z.1 1 0)) f3_167 dX3_whyNoColour_16 rfl rfl rfl ?_
    refine XW.bipush 21 dX3_whyNoColour_19 (v := 20) (by decide) rfl ?_
    refine XW.icmp_lt 29 24 dX3_whyNoColour_21 (by decide) rfl (fun c_21 => ?_) (fun c_21 => ?_)
    · refine XW.iconst 30 dX3_whyNoColour_29 (v := 0) (by decide) rfl ?_
      exact XW.iret dX3_whyNoColour_30 rfl (⟨by simp [wcF, *], rfl⟩)
    · refine XW.bipush 26 dX3_whyNoColour_24 (v := -4) (by decide) rfl ?_
      refine XW.goto 30 dX3_whyNoColour_26 (by decide) ?_
      exact XW.iret dX3_whyNoColour_30 rfl (⟨by simp [wcF, *], rfl⟩)
  · refine XW.bipush 11 dX3_whyNoColour_9 (v := -2) (by decide) rfl ?_
    exact XW.iret dX3_whyNoColour_11 rfl (⟨by simp [wcF, *], rfl⟩)
set_option maxHeartbeats 400000 in
set_option maxRecDepth 100000 in
theorem c_whyNoLimit {Z : xZ} (x y : Int32) : XC mX3_whyNoLimit 1 0 0 [.ref 0, .int x, .int y] (HP Z) (fun r h' => r = some (.int (wlF x y)) ∧ h' = HP Z) := by
  show XW mX3_whyNoLimit 1 0 0 0 [some (.ref 0), some (.int x), some (.int y)] [] (HP Z) _
  refine XW.iload_n 1 dX3_whyNoLimit_0 rfl rfl ?_
  refine XW.iconst 2 dX3_whyNoLimit_1 (v := 0) (by decide) rfl ?_
  refine XW.iconst 3 dX3_whyNoLimit_2 (v := 2) (by decide) rfl ?_
  refine XW.callS 6 (vs := [.int x, .int 0, .int 2]) (rest := []) (mcr := 0) (msr := 0) c3_97 dX3_whyNoLimit_3 rfl (by decide) (Nat.le_of_ble_eq_true rfl) rfl rfl (Nat.le_of_ble_eq_true rfl) rfl (c_isWithin _ _ _ _) (fun r h1 hq => ?_)
  obtain ⟨rfl, rfl⟩ := hq
  refine XW.if_eqB 24 9 dX3_whyNoLimit_6 (by decide) rfl (fun c_6 => ?_) (fun c_6 => ?_)
  · refine XW.bipush 26 dX3_whyNoLimit_24 (v := -2) (by decide) rfl ?_
    exact XW.iret dX3_whyNoLimit_26 rfl (⟨by simp [wlF, *], rfl⟩)
  · refine XW.iload_n 10 dX3_whyNoLimit_9 rfl rfl ?_
    refine XW.iconst 11 dX3_whyNoLimit_10 (v := 0) (by decide) rfl ?_
    refine XW.sipush 14 dX3_whyNoLimit_11 (v := 255) (by decide) rfl ?_
    refine XW.callS 17 (vs := [.int y, .int 0, .int 255]) (rest := []) (mcr := 0) (msr := 0) c3_97 dX3_whyNoLimit_14 rfl (by decide) (Nat.le_of_ble_eq_true rfl) rfl rfl (Nat.le_of_ble_eq_true rfl) rfl (c_isWithin _ _ _ _) (fun r h1 hq => ?_)
    obtain ⟨rfl, rfl⟩ := hq
    refine XW.if_eqB 24 20 dX3_whyNoLimit_17 (by decide) rfl (fun c_17 => ?_) (fun c_17 => ?_)
    · refine XW.bipush 26 dX3_whyNoLimit_24 (v := -2) (by decide) rfl ?_
      exact XW.iret dX3_whyNoLimit_26 rfl (⟨by simp [wlF, *], rfl⟩)
    · refine XW.iconst 21 dX3_whyNoLimit_20 (v := 0) (by decide) rfl ?_
      refine XW.goto 26 dX3_whyNoLimit_21 (by decide) ?_
      exact XW.iret dX3_whyNoLimit_26 rfl (⟨by simp [wlF, *], rfl⟩)
set_option maxHeartbeats 400000 in
set_option maxRecDepth 100000 in
theorem c_whyNotFixed {Z : xZ} (x y : Int32) : XC mX3_whyNotFixed 1 0 0 [.ref 0, .int x, .int y] (HP Z) (fun r h' => r = some (.int (wxF x y (Z.1 1 0))) ∧ h' = HP Z) := by
  show XW mX3_whyNotFixed 1 0 0 0 [some (.ref 0), some (.int x), some (.int y)] [] (HP Z) _
  refine XW.aload_n 1 dX3_whyNotFixed_0 rfl rfl ?_
  refine XW.iload_n 2 dX3_whyNotFixed_1 rfl rfl ?_
  refine XW.callV 5 (vs := [.int x]) (rest := []) (mcr := 0) (msr := 0) c3_56 dX3_whyNotFixed_2 rfl rfl (by decide) (Nat.le_of_ble_eq_true rfl) rfl rfl (Nat.le_of_ble_eq_true rfl) rfl (c_isColour _) (fun r h1 hq => ?_)
  obtain ⟨rfl, rfl⟩ := hq
  refine XW.if_eqB 21 8 dX3_whyNotFixed_5 (by decide) rfl (fun c_5 => ?_) (fun c_5 => ?_)
  · refine XW.bipush 23 dX3_whyNotFixed_21 (v := -2) (by decide) rfl ?_
    exact XW.iret dX3_whyNotFixed_23 rfl (⟨by simp [wxF, *], rfl⟩)
  · refine XW.iload_n 9 dX3_whyNotFixed_8 rfl rfl ?_
    refine XW.iconst 10 dX3_whyNotFixed_9 (v := 0) (by decide) rfl ?_
    refine XW.iconst 11 dX3_whyNotFixed_10 (v := 1) (by decide) rfl ?_
    refine XW.callS 14 (vs := [.int y, .int 0, .int 1]) (rest := []) (mcr := 0) (msr := 0) c3_97 dX3_whyNotFixed_11 rfl (by decide) (Nat.le_of_ble_eq_true rfl) rfl rfl (Nat.le_of_ble_eq_true rfl) rfl (c_isWithin _ _ _ _) (fun r h1 hq => ?_)
    obtain ⟨rfl, rfl⟩ := hq
    refine XW.if_eqB 21 17 dX3_whyNotFixed_14 (by decide) rfl (fun c_14 => ?_) (fun c_14 => ?_)
    · refine XW.bipush 23 dX3_whyNotFixed_21 (v := -2) (by decide) rfl ?_
      exact XW.iret dX3_whyNotFixed_23 rfl (⟨by simp [wxF, *], rfl⟩)
    · refine XW.iconst 18 dX3_whyNotFixed_17 (v := 0) (by decide) rfl ?_
      refine XW.goto 23 dX3_whyNotFixed_18 (by decide) ?_
      exact XW.iret dX3_whyNotFixed_23 rfl (⟨by simp [wxF, *], rfl⟩)
set_option maxHeartbeats 400000 in
set_option maxRecDepth 100000 in
theorem c_whyNoFilling {Z : xZ} (x : Int32) : XC mX3_whyNoFilling 1 0 0 [.ref 0, .int x] (HP Z) (fun r h' => r = some (.int (wfF x (Z.1 1 5))) ∧ h' = HP Z) := by
  show XW mX3_whyNoFilling 1 0 0 0 [some (.ref 0), some (.int x)] [] (HP Z) _
  refine XW.iload_n 1 dX3_whyNoFilling_0 rfl rfl ?_
  refine XW.iconst 2 dX3_whyNoFilling_1 (v := 1) (by decide) rfl ?_
  refine XW.bipush 4 dX3_whyNoFilling_2 (v := 8) (by decide) rfl ?_
  refine XW.callS 7 (vs := [.int x, .int 1, .int 8]) (rest := []) (mcr := 0) (msr := 0) c3_97 dX3_whyNoFilling_4 rfl (by decide) (Nat.le_of_ble_eq_true rfl) rfl rfl (Nat.le_of_ble_eq_true rfl) rfl (c_isWithin _ _ _ _) (fun r h1 hq => ?_)
  obtain ⟨rfl, rfl⟩ := hq
  refine XW.if_neB 13 10 dX3_whyNoFilling_7 (by decide) rfl (fun c_7 => ?_) (fun c_7 => ?_)
  · refine XW.aload_n 14 dX3_whyNoFilling_13 rfl rfl ?_
    refine XW.getf 17 (v := .ref 1) f3_10 dX3_whyNoFilling_14 rfl rfl rfl ?_
    refine XW.getf 20 (v := .int (Z.1 1 5)) f3_179 dX3_whyNoFilling_17 rfl rfl rfl ?_
    refine XW.callS 23 (vs := [.int (Z.1 1 5)]) (rest := []) (mcr := 0) (msr := 0) c3_174 dX3_whyNoFilling_20 rfl (by decide) (Nat.le_of_ble_eq_true rfl) rfl rfl (Nat.le_of_ble_eq_true rfl) rfl (c_bitCount _ _) (fun r h1 hq => ?_)
    obtain ⟨rfl, rfl⟩ := hq
    refine XW.iload_n 24 dX3_whyNoFilling_23 rfl rfl ?_
    refine XW.icmp_le 32 27 dX3_whyNoFilling_24 (by decide) rfl (fun c_24 => ?_) (fun c_24 => ?_)
    · refine XW.iconst 33 dX3_whyNoFilling_32 (v := 0) (by decide) rfl ?_
      exact XW.iret dX3_whyNoFilling_33 rfl (⟨by simp [wfF, *], rfl⟩)
    · refine XW.bipush 29 dX3_whyNoFilling_27 (v := -3) (by decide) rfl ?_
      refine XW.goto 33 dX3_whyNoFilling_29 (by decide) ?_
      exact XW.iret dX3_whyNoFilling_33 rfl (⟨by simp [wfF, *], rfl⟩)
  · refine XW.bipush 12 dX3_whyNoFilling_10 (v := -2) (by decide) rfl ?_
    exact XW.iret dX3_whyNoFilling_12 rfl (⟨by simp [wfF, *], rfl⟩)
set_option maxHeartbeats 400000 in
set_option maxRecDepth 100000 in
theorem c_append {Z : xZ} {len : Nat} (x : Int32) (hlen : Z.1 45 1 = nI len) (l120 : len < 120) : XC mX2_append 0 0 0 [.ref 45, .int x] (HP Z) (fun r h' => r = some (.int (nI (len + 1))) ∧ h' = HP (sI (sA Z 46 (upd (Z.2.1 46) len x)) 45 1 (nI (len + 1)))) := by
  show XW mX2_append 0 0 0 0 [some (.ref 45), some (.int x)] [] (HP Z) _
  refine XW.aload_n 1 dX2_append_0 rfl rfl ?_
  refine XW.getf 4 (v := .int (Z.1 45 1)) f2_15 dX2_append_1 rfl rfl rfl ?_
  refine XW.aload_n 5 dX2_append_4 rfl rfl ?_
  refine XW.getf 8 (v := .ref 46) f2_9 dX2_append_5 rfl rfl rfl ?_
  refine XW.alen 9 (v := 120) dX2_append_8 rfl rfl rfl ?_
  refine XW.icmp_geN 32 12 len 120 dX2_append_9 (by decide) rfl hlen rfl (by omega) (by omega) (fun c_9 => ?_) (fun c_9 => ?_)
  · omega
  · refine XW.aload_n 13 dX2_append_12 rfl rfl ?_
    refine XW.getf 16 (v := .ref 46) f2_9 dX2_append_13 rfl rfl rfl ?_
    refine XW.aload_n 17 dX2_append_16 rfl rfl ?_
    refine XW.getf 20 (v := .int (Z.1 45 1)) f2_15 dX2_append_17 rfl rfl rfl ?_
    refine XW.iload_n 21 dX2_append_20 rfl rfl ?_
    refine XW.iast 22 (h' := HP (sA Z 46 (upd (Z.2.1 46) len x))) len dX2_append_21 rfl hlen (by omega) (by decide) rfl rfl ?_
    refine XW.aload_n 23 dX2_append_22 rfl rfl ?_
    refine XW.dup 24 dX2_append_23 rfl rfl ?_
    refine XW.getf 27 (v := .int (Z.1 45 1)) f2_15 dX2_append_24 rfl rfl rfl ?_
    refine XW.iconst 28 dX2_append_27 (v := 1) (by decide) rfl ?_
    refine XW.iadd 29 dX2_append_28 rfl ?_
    refine XW.putf 32 (h' := HP (sI (sA Z 46 (upd (Z.2.1 46) len x)) 45 1 ((Z.1 45 1) + 1))) (p2_15 _) dX2_append_29 rfl (Nat.le_of_ble_eq_true rfl) (xfit_i _) rfl rfl ?_
    refine XW.aload_n 33 dX2_append_32 rfl rfl ?_
    refine XW.getf 36 (v := .int ((Z.1 45 1) + 1)) f2_15 dX2_append_33 rfl rfl rfl ?_
    exact XW.iret dX2_append_36 rfl (⟨pE (na hlen rfl), by rw [show Z.1 45 1 + 1 = nI (len + 1) from na hlen rfl]⟩)
theorem HP_scene (Z : xZ) {q j : Nat} (hq : q = 8 + 6 * j) (hj : j < 6) : ∃ fs, (HP Z)[q]? = some (.inr (1, fs)) := by
  subst hq
  match j, hj with
  | 0, _ => exact ⟨_, rfl⟩
  | 1, _ => exact ⟨_, rfl⟩
  | 2, _ => exact ⟨_, rfl⟩
  | 3, _ => exact ⟨_, rfl⟩
  | 4, _ => exact ⟨_, rfl⟩
  | 5, _ => exact ⟨_, rfl⟩
  | n + 6, h => omega
/-- the row of scenes: every place holds one -/
def keptOK (f : Nat → Option Nat) : Prop := ∀ i, i < 6 → ∃ j, j < 6 ∧ f i = some (8 + 6 * j)
set_option maxHeartbeats 400000 in
theorem c_noteState {Z : xZ} {st j : Nat} (hst : Z.1 0 2 = nI st) (st5 : st ≤ 5) (hj : j < 6) (hk : Z.2.2.2.1 7 st = some (8 + 6 * j)) : XC mX3_noteState 2 0 0 [.ref 0] (HP Z) (fun r h' => r = none ∧ h' = HP (becZ Z (8 + 6 * j) 1)) := by
  show XW mX3_noteState 2 0 0 0 [some (.ref 0)] [] (HP Z) _
  refine XW.aload_n 1 dX3_noteState_0 rfl rfl ?_
  refine XW.getf 4 (v := .ref 7) f3_16 dX3_noteState_1 rfl rfl rfl ?_
  refine XW.aload_n 5 dX3_noteState_4 rfl rfl ?_
  refine XW.getf 8 (v := .int (Z.1 0 2)) f3_20 dX3_noteState_5 rfl rfl rfl ?_
  refine XW.aald 9 st dX3_noteState_8 rfl hst (by omega) (by decide) hk rfl ?_
  refine XW.aload_n 10 dX3_noteState_9 rfl rfl ?_
  refine XW.getf 13 (v := .ref 1) f3_10 dX3_noteState_10 rfl rfl rfl ?_
  obtain ⟨fs, hfs⟩ := HP_scene Z rfl hj
  refine XW.callV 16 (vs := [.ref 1]) (rest := []) (mcr := 0) (msr := 0) c3_212 dX3_noteState_13 rfl hfs (by decide) (Nat.le_of_ble_eq_true rfl) rfl rfl (Nat.le_of_ble_eq_true rfl) rfl (c_note rfl hj) (fun r h1 hq => ?_)
  obtain ⟨rfl, rfl⟩ := hq
  exact XW.vret dX3_noteState_16 trivial ⟨rfl, rfl⟩
set_option maxHeartbeats 400000 in
set_option maxRecDepth 100000 in
theorem c_keep1 {Z : xZ} {st : Nat} (hst : Z.1 0 2 = nI st) (st5 : st < 5) : XC mX3_keepNoted 0 0 0 [.ref 0] (HP Z) (fun r h' => r = none ∧ h' = HP (sI Z 0 2 (nI (st + 1)))) := by
  show XW mX3_keepNoted 0 0 0 0 [some (.ref 0), none, none] [] (HP Z) _
  refine XW.aload_n 1 dX3_keepNoted_0 rfl rfl ?_
  refine XW.getf 4 (v := .int (Z.1 0 2)) f3_20 dX3_keepNoted_1 rfl rfl rfl ?_
  refine XW.iconst 5 dX3_keepNoted_4 (v := 5) (by decide) rfl ?_
  refine XW.icmp_geN 19 8 st 5 dX3_keepNoted_5 (by decide) rfl hst rfl (by omega) (by omega) (fun c_5 => ?_) (fun c_5 => ?_)
  · omega
  · refine XW.aload_n 9 dX3_keepNoted_8 rfl rfl ?_
    refine XW.dup 10 dX3_keepNoted_9 rfl rfl ?_
    refine XW.getf 13 (v := .int (Z.1 0 2)) f3_20 dX3_keepNoted_10 rfl rfl rfl ?_
    refine XW.iconst 14 dX3_keepNoted_13 (v := 1) (by decide) rfl ?_
    refine XW.iadd 15 dX3_keepNoted_14 rfl ?_
    refine XW.putf 18 (h' := HP (sI Z 0 2 ((Z.1 0 2) + 1))) (p3_20 _) dX3_keepNoted_15 rfl (Nat.le_of_ble_eq_true rfl) (xfit_i _) rfl rfl ?_
    exact XW.vret dX3_keepNoted_18 trivial (⟨rfl, by rw [show Z.1 0 2 + 1 = nI (st + 1) from na hst rfl]⟩)
set_option maxHeartbeats 1000000 in
theorem c_keep2 {Z : xZ} {k0 k1 k2 k3 k4 k5 : Nat} (hst : Z.1 0 2 = nI 5) (h0 : Z.2.2.2.1 7 0 = some k0) (s0 : ∃ j, j < 6 ∧ k0 = 8 + 6 * j) (h1 : Z.2.2.2.1 7 1 = some k1) (s1 : ∃ j, j < 6 ∧ k1 = 8 + 6 * j) (h2 : Z.2.2.2.1 7 2 = some k2) (s2 : ∃ j, j < 6 ∧ k2 = 8 + 6 * j) (h3 : Z.2.2.2.1 7 3 = some k3) (s3 : ∃ j, j < 6 ∧ k3 = 8 + 6 * j) (h4 : Z.2.2.2.1 7 4 = some k4) (s4 : ∃ j, j < 6 ∧ k4 = 8 + 6 * j) (h5 : Z.2.2.2.1 7 5 = some k5) (s5 : ∃ j, j < 6 ∧ k5 = 8 + 6 * j) : XC mX3_keepNoted 0 0 0 [.ref 0] (HP Z) (fun r h' => r = none ∧ h' = HP (sR Z 7 (va_up (va_up (va_up (va_up (va_up (va_up (Z.2.2.2.1 7) 0 (some k1)) 1 (some k2)) 2 (some k3)) 3 (some k4)) 4 (some k5)) 5 (some k0)))) := by
  show XW mX3_keepNoted 0 0 0 0 [some (.ref 0), none, none] [] (HP Z) _
  refine XW.aload_n 1 dX3_keepNoted_0 rfl rfl ?_
  refine XW.getf 4 (v := .int (Z.1 0 2)) f3_20 dX3_keepNoted_1 rfl rfl rfl ?_
  refine XW.iconst 5 dX3_keepNoted_4 (v := 5) (by decide) rfl ?_
  refine XW.icmp_geN 19 8 5 5 dX3_keepNoted_5 (by decide) rfl hst rfl (by omega) (by omega) (fun _ => ?_) (fun c => absurd c (by decide))
  refine XW.aload_n 20 dX3_keepNoted_19 rfl rfl ?_
  refine XW.getf 23 (v := .ref 7) f3_16 dX3_keepNoted_20 rfl rfl rfl ?_
  refine XW.iconst 24 dX3_keepNoted_23 (v := 0) (by decide) rfl ?_
  refine XW.aald 25 0 dX3_keepNoted_24 rfl rfl (by omega) (by decide) h0 rfl ?_
  refine XW.astore_n 26 (L' := [some (.ref 0), some (.ref k0), none]) dX3_keepNoted_25 (by decide) rfl rfl rfl ?_
  refine XW.iconst 27 dX3_keepNoted_26 (v := 0) (by decide) rfl ?_
  refine XW.istore_n 28 (L' := [some (.ref 0), some (.ref k0), some (.int 0)]) dX3_keepNoted_27 (by decide) rfl rfl rfl ?_
  refine XW.iload_n 29 dX3_keepNoted_28 rfl rfl ?_
  refine XW.iconst 30 dX3_keepNoted_29 (v := 5) (by decide) rfl ?_
  refine XW.icmp_geN 53 33 0 5 dX3_keepNoted_30 (by decide) rfl rfl rfl (by omega) (by omega) (fun c => absurd c (by decide)) (fun _ => ?_)
  refine XW.aload_n 34 dX3_keepNoted_33 rfl rfl ?_
  refine XW.getf 37 (v := .ref 7) f3_16 dX3_keepNoted_34 rfl rfl rfl ?_
  refine XW.iload_n 38 dX3_keepNoted_37 rfl rfl ?_
  refine XW.aload_n 39 dX3_keepNoted_38 rfl rfl ?_
  refine XW.getf 42 (v := .ref 7) f3_16 dX3_keepNoted_39 rfl rfl rfl ?_
  refine XW.iload_n 43 dX3_keepNoted_42 rfl rfl ?_
  refine XW.iconst 44 dX3_keepNoted_43 (v := 1) (by decide) rfl ?_
  refine XW.iadd 45 dX3_keepNoted_44 rfl ?_
  refine XW.aald 46 (q := k1) 1 dX3_keepNoted_45 rfl (by decide) (by omega) (by decide) (show _ = _ from h1) rfl ?_
  obtain ⟨j1, hj1, ej1⟩ := s1
  obtain ⟨fs1, hfs1⟩ := HP_scene (Z) ej1 hj1
  refine XW.aast 47 (h' := HP (sR Z 7 (va_up (Z.2.2.2.1 7) 0 (some k1)))) 0 dX3_keepNoted_46 rfl hfs1 rfl (by omega) (by decide) rfl rfl ?_
  refine XW.iinc 50 (y := 1) (L' := [some (.ref 0), some (.ref k0), some (.int 1)]) dX3_keepNoted_47 rfl (by decide) (by decide) rfl rfl rfl ?_
  refine XW.goto 28 dX3_keepNoted_50 (by decide) ?_
  refine XW.iload_n 29 dX3_keepNoted_28 rfl rfl ?_
  refine XW.iconst 30 dX3_keepNoted_29 (v := 5) (by decide) rfl ?_
  refine XW.icmp_geN 53 33 1 5 dX3_keepNoted_30 (by decide) rfl rfl rfl (by omega) (by omega) (fun c => absurd c (by decide)) (fun _ => ?_)
  refine XW.aload_n 34 dX3_keepNoted_33 rfl rfl ?_
  refine XW.getf 37 (v := .ref 7) f3_16 dX3_keepNoted_34 rfl rfl rfl ?_
  refine XW.iload_n 38 dX3_keepNoted_37 rfl rfl ?_
  refine XW.aload_n 39 dX3_keepNoted_38 rfl rfl ?_
  refine XW.getf 42 (v := .ref 7) f3_16 dX3_keepNoted_39 rfl rfl rfl ?_
  refine XW.iload_n 43 dX3_keepNoted_42 rfl rfl ?_
  refine XW.iconst 44 dX3_keepNoted_43 (v := 1) (by decide) rfl ?_
  refine XW.iadd 45 dX3_keepNoted_44 rfl ?_
  refine XW.aald 46 (q := k2) 2 dX3_keepNoted_45 rfl (by decide) (by omega) (by decide) (show _ = _ from h2) rfl ?_
  obtain ⟨j2, hj2, ej2⟩ := s2
  obtain ⟨fs2, hfs2⟩ := HP_scene (sR Z 7 (va_up (Z.2.2.2.1 7) 0 (some k1))) ej2 hj2
  refine XW.aast 47 (h' := HP (sR Z 7 (va_up (va_up (Z.2.2.2.1 7) 0 (some k1)) 1 (some k2)))) 1 dX3_keepNoted_46 rfl hfs2 rfl (by omega) (by decide) rfl rfl ?_
  refine XW.iinc 50 (y := 2) (L' := [some (.ref 0), some (.ref k0), some (.int 2)]) dX3_keepNoted_47 rfl (by decide) (by decide) rfl rfl rfl ?_
  refine XW.goto 28 dX3_keepNoted_50 (by decide) ?_
  refine XW.iload_n 29 dX3_keepNoted_28 rfl rfl ?_
  refine XW.iconst 30 dX3_keepNoted_29 (v := 5) (by decide) rfl ?_
  refine XW.icmp_geN 53 33 2 5 dX3_keepNoted_30 (by decide) rfl rfl rfl (by omega) (by omega) (fun c => absurd c (by decide)) (fun _ => ?_)
  refine XW.aload_n 34 dX3_keepNoted_33 rfl rfl ?_
  refine XW.getf 37 (v := .ref 7) f3_16 dX3_keepNoted_34 rfl rfl rfl ?_
  refine XW.iload_n 38 dX3_keepNoted_37 rfl rfl ?_
  refine XW.aload_n 39 dX3_keepNoted_38 rfl rfl ?_
  refine XW.getf 42 (v := .ref 7) f3_16 dX3_keepNoted_39 rfl rfl rfl ?_
  refine XW.iload_n 43 dX3_keepNoted_42 rfl rfl ?_
  refine XW.iconst 44 dX3_keepNoted_43 (v := 1) (by decide) rfl ?_
  refine XW.iadd 45 dX3_keepNoted_44 rfl ?_
  refine XW.aald 46 (q := k3) 3 dX3_keepNoted_45 rfl (by decide) (by omega) (by decide) (show _ = _ from h3) rfl ?_
  obtain ⟨j3, hj3, ej3⟩ := s3
  obtain ⟨fs3, hfs3⟩ := HP_scene (sR Z 7 (va_up (va_up (Z.2.2.2.1 7) 0 (some k1)) 1 (some k2))) ej3 hj3
  refine XW.aast 47 (h' := HP (sR Z 7 (va_up (va_up (va_up (Z.2.2.2.1 7) 0 (some k1)) 1 (some k2)) 2 (some k3)))) 2 dX3_keepNoted_46 rfl hfs3 rfl (by omega) (by decide) rfl rfl ?_
  refine XW.iinc 50 (y := 3) (L' := [some (.ref 0), some (.ref k0), some (.int 3)]) dX3_keepNoted_47 rfl (by decide) (by decide) rfl rfl rfl ?_
  refine XW.goto 28 dX3_keepNoted_50 (by decide) ?_
  refine XW.iload_n 29 dX3_keepNoted_28 rfl rfl ?_
  refine XW.iconst 30 dX3_keepNoted_29 (v := 5) (by decide) rfl ?_
  refine XW.icmp_geN 53 33 3 5 dX3_keepNoted_30 (by decide) rfl rfl rfl (by omega) (by omega) (fun c => absurd c (by decide)) (fun _ => ?_)
  refine XW.aload_n 34 dX3_keepNoted_33 rfl rfl ?_
  refine XW.getf 37 (v := .ref 7) f3_16 dX3_keepNoted_34 rfl rfl rfl ?_
  refine XW.iload_n 38 dX3_keepNoted_37 rfl rfl ?_
  refine XW.aload_n 39 dX3_keepNoted_38 rfl rfl ?_
  refine XW.getf 42 (v := .ref 7) f3_16 dX3_keepNoted_39 rfl rfl rfl ?_
  refine XW.iload_n 43 dX3_keepNoted_42 rfl rfl ?_
  refine XW.iconst 44 dX3_keepNoted_43 (v := 1) (by decide) rfl ?_
  refine XW.iadd 45 dX3_keepNoted_44 rfl ?_
  refine XW.aald 46 (q := k4) 4 dX3_keepNoted_45 rfl (by decide) (by omega) (by decide) (show _ = _ from h4) rfl ?_
  obtain ⟨j4, hj4, ej4⟩ := s4
  obtain ⟨fs4, hfs4⟩ := HP_scene (sR Z 7 (va_up (va_up (va_up (Z.2.2.2.1 7) 0 (some k1)) 1 (some k2)) 2 (some k3))) ej4 hj4
  refine XW.aast 47 (h' := HP (sR Z 7 (va_up (va_up (va_up (va_up (Z.2.2.2.1 7) 0 (some k1)) 1 (some k2)) 2 (some k3)) 3 (some k4)))) 3 dX3_keepNoted_46 rfl hfs4 rfl (by omega) (by decide) rfl rfl ?_
  refine XW.iinc 50 (y := 4) (L' := [some (.ref 0), some (.ref k0), some (.int 4)]) dX3_keepNoted_47 rfl (by decide) (by decide) rfl rfl rfl ?_
  refine XW.goto 28 dX3_keepNoted_50 (by decide) ?_
  refine XW.iload_n 29 dX3_keepNoted_28 rfl rfl ?_
  refine XW.iconst 30 dX3_keepNoted_29 (v := 5) (by decide) rfl ?_
  refine XW.icmp_geN 53 33 4 5 dX3_keepNoted_30 (by decide) rfl rfl rfl (by omega) (by omega) (fun c => absurd c (by decide)) (fun _ => ?_)
  refine XW.aload_n 34 dX3_keepNoted_33 rfl rfl ?_
  refine XW.getf 37 (v := .ref 7) f3_16 dX3_keepNoted_34 rfl rfl rfl ?_
  refine XW.iload_n 38 dX3_keepNoted_37 rfl rfl ?_
  refine XW.aload_n 39 dX3_keepNoted_38 rfl rfl ?_
  refine XW.getf 42 (v := .ref 7) f3_16 dX3_keepNoted_39 rfl rfl rfl ?_
  refine XW.iload_n 43 dX3_keepNoted_42 rfl rfl ?_
  refine XW.iconst 44 dX3_keepNoted_43 (v := 1) (by decide) rfl ?_
  refine XW.iadd 45 dX3_keepNoted_44 rfl ?_
  refine XW.aald 46 (q := k5) 5 dX3_keepNoted_45 rfl (by decide) (by omega) (by decide) (show _ = _ from h5) rfl ?_
  obtain ⟨j5, hj5, ej5⟩ := s5
  obtain ⟨fs5, hfs5⟩ := HP_scene (sR Z 7 (va_up (va_up (va_up (va_up (Z.2.2.2.1 7) 0 (some k1)) 1 (some k2)) 2 (some k3)) 3 (some k4))) ej5 hj5
  refine XW.aast 47 (h' := HP (sR Z 7 (va_up (va_up (va_up (va_up (va_up (Z.2.2.2.1 7) 0 (some k1)) 1 (some k2)) 2 (some k3)) 3 (some k4)) 4 (some k5)))) 4 dX3_keepNoted_46 rfl hfs5 rfl (by omega) (by decide) rfl rfl ?_
  refine XW.iinc 50 (y := 5) (L' := [some (.ref 0), some (.ref k0), some (.int 5)]) dX3_keepNoted_47 rfl (by decide) (by decide) rfl rfl rfl ?_
  refine XW.goto 28 dX3_keepNoted_50 (by decide) ?_
  refine XW.iload_n 29 dX3_keepNoted_28 rfl rfl ?_
  refine XW.iconst 30 dX3_keepNoted_29 (v := 5) (by decide) rfl ?_
  refine XW.icmp_geN 53 33 5 5 dX3_keepNoted_30 (by decide) rfl rfl rfl (by omega) (by omega) (fun _ => ?_) (fun c => absurd c (by decide))
  refine XW.aload_n 54 dX3_keepNoted_53 rfl rfl ?_
  refine XW.getf 57 (v := .ref 7) f3_16 dX3_keepNoted_54 rfl rfl rfl ?_
  refine XW.iconst 58 dX3_keepNoted_57 (v := 5) (by decide) rfl ?_
  refine XW.aload_n 59 dX3_keepNoted_58 rfl rfl ?_
  obtain ⟨j0, hj0, ej0⟩ := s0
  obtain ⟨fs0, hfs0⟩ := HP_scene (sR Z 7 (va_up (va_up (va_up (va_up (va_up (Z.2.2.2.1 7) 0 (some k1)) 1 (some k2)) 2 (some k3)) 3 (some k4)) 4 (some k5))) ej0 hj0
  refine XW.aast 60 (h' := HP (sR Z 7 (va_up (va_up (va_up (va_up (va_up (va_up (Z.2.2.2.1 7) 0 (some k1)) 1 (some k2)) 2 (some k3)) 3 (some k4)) 4 (some k5)) 5 (some k0)))) 5 dX3_keepNoted_59 rfl hfs0 rfl (by omega) (by decide) rfl rfl ?_
  exact XW.vret dX3_keepNoted_60 trivial ⟨rfl, rfl⟩
