/-! The class: scenes, what is read-/
set_option maxHeartbeats 4000000 in
set_option maxRecDepth 100000 in
theorem c_lightAt {h : xH} {a n k : Nat} {f : Nat → Int32} {x : Int32} (ha : h[a]? = some (.inl (n, .inl f))) (hx : x = nI k) (hk : k + 2 < n) (hn : n < 1000) (hL : lightN (f k) (f (k + 1)) (f (k + 2))) : XC mX1_lightAt 0 0 0 [.ref a, .int x] (h) (fun r h' => r = some (.float (lightC f k)) ∧ h' = h) := by
  show XW mX1_lightAt 0 0 0 0 [some (.ref a), some (.int x)] [] (h) _
  obtain ⟨e1, e2, e3, e4, e5⟩ := hL
  refine XW.ldcf 2 k1_71 dX1_lightAt_0 rfl ?_
  refine XW.aload_n 3 dX1_lightAt_2 rfl rfl ?_
  refine XW.iload_n 4 dX1_lightAt_3 rfl rfl ?_
  refine XW.iald 5 k dX1_lightAt_4 ha hx (by omega) (by omega) rfl ?_
  refine XW.i2f 6 dX1_lightAt_5 rfl ?_
  refine XW.fmul 7 dX1_lightAt_6 (by assumption) rfl ?_
  refine XW.ldcf 9 k1_72 dX1_lightAt_7 rfl ?_
  refine XW.aload_n 10 dX1_lightAt_9 rfl rfl ?_
  refine XW.iload_n 11 dX1_lightAt_10 rfl rfl ?_
  refine XW.iconst 12 dX1_lightAt_11 (v := 1) (by decide) rfl ?_
  refine XW.iadd 13 dX1_lightAt_12 rfl ?_
  refine XW.iald 14 (k + 1) dX1_lightAt_13 ha (na hx rfl) (by omega) (by omega) rfl ?_
  refine XW.i2f 15 dX1_lightAt_14 rfl ?_
  refine XW.fmul 16 dX1_lightAt_15 (by assumption) rfl ?_
  refine XW.fadd 17 dX1_lightAt_16 (by assumption) rfl ?_
  refine XW.ldcf 19 k1_73 dX1_lightAt_17 rfl ?_
  refine XW.aload_n 20 dX1_lightAt_19 rfl rfl ?_
  refine XW.iload_n 21 dX1_lightAt_20 rfl rfl ?_
  refine XW.iconst 22 dX1_lightAt_21 (v := 2) (by decide) rfl ?_
  refine XW.iadd 23 dX1_lightAt_22 rfl ?_
  refine XW.iald 24 (k + 2) dX1_lightAt_23 ha (na hx rfl) (by omega) (by omega) rfl ?_
  refine XW.i2f 25 dX1_lightAt_24 rfl ?_
  refine XW.fmul 26 dX1_lightAt_25 (by assumption) rfl ?_
  refine XW.fadd 27 dX1_lightAt_26 e5 rfl ?_
  exact XW.fret dX1_lightAt_27 trivial (⟨rfl, rfl⟩)
set_option maxHeartbeats 4000000 in
set_option maxRecDepth 100000 in
theorem c_lightOf {Z : xZ} {x : Int32} {i : Nat} (hx : x = nI i) (hi : i < 20) (ok : okS (Z.2.1 2) (Z.2.1 3) (Z.2.1 4) (Z.2.1 5)) : XC mX1_lightOf 1 0 0 [.ref 1, .int x] (HP Z) (fun r h' => r = some (.float (lightC (Z.2.1 2) (3 * i))) ∧ h' = HP Z) := by
  show XW mX1_lightOf 1 0 0 0 [some (.ref 1), some (.int x)] [] (HP Z) _
  refine XW.aload_n 1 dX1_lightOf_0 rfl rfl ?_
  refine XW.getf 4 (v := .ref 2) f1_15 dX1_lightOf_1 rfl rfl rfl ?_
  refine XW.iconst 5 dX1_lightOf_4 (v := 3) (by decide) rfl ?_
  refine XW.iload_n 6 dX1_lightOf_5 rfl rfl ?_
  refine XW.imul 7 dX1_lightOf_6 rfl ?_
  refine XW.callS 10 (vs := [.ref 2, .int (3 * x)]) (rest := []) (mcr := 0) (msr := 0) c1_67 dX1_lightOf_7 rfl (by decide) (Nat.le_of_ble_eq_true rfl) rfl rfl (Nat.le_of_ble_eq_true rfl) rfl (c_lightAt (k := 3 * i) rfl (nm rfl hx) (by omega) (by omega) (ok_light ok (by omega)).1) (fun r h1 hq => ?_)
  obtain ⟨rfl, rfl⟩ := hq
  exact XW.fret dX1_lightOf_10 trivial (⟨rfl, rfl⟩)
theorem fitC_1 {rgb gr lm : Nat → Int32} {i : Nat} (h : lightC rgb (3 * i) < FP.i2f (lm 0)) : fitC rgb gr lm i = false := by unfold fitC fitF; simp [h]
theorem fitC_2 {rgb gr lm : Nat → Int32} {i : Nat} (h : FP.i2f (lm 1) < lightC rgb (3 * i)) : fitC rgb gr lm i = false := by unfold fitC fitF; simp [h]
theorem fitC_3 {rgb gr lm : Nat → Int32} {i : Nat} {s : UInt32} (h1 : ¬ lightC rgb (3 * i) < FP.i2f (lm 0)) (h2 : ¬ FP.i2f (lm 1) < lightC rgb (3 * i)) (hs : absF (FP.fsub (lightC rgb (3 * i)) (lightC gr 0)) = s) (h3 : Op.cmpValue (FP.fcmp s (FP.i2f (lm 2))) .l < 0) : fitC rgb gr lm i = false := by unfold fitC fitF gapN; subst hs; simp [h3]
theorem fitC_4 {rgb gr lm : Nat → Int32} {i : Nat} {s : UInt32} (h1 : ¬ lightC rgb (3 * i) < FP.i2f (lm 0)) (h2 : ¬ FP.i2f (lm 1) < lightC rgb (3 * i)) (hs : absF (FP.fsub (lightC rgb (3 * i)) (lightC gr 0)) = s) (h3 : ¬ Op.cmpValue (FP.fcmp s (FP.i2f (lm 2))) .l < 0) : fitC rgb gr lm i = true := by unfold fitC fitF gapN; subst hs; simp only [decide_eq_false h1, decide_eq_false h2, decide_eq_false h3]; rfl
theorem absF_t {s : UInt32} (h : 0 ≤ Op.cmpValue (FP.fcmp s FP.fconst0) .g) : absF s = s := if_pos h
theorem absF_f {s : UInt32} (h : ¬ 0 ≤ Op.cmpValue (FP.fcmp s FP.fconst0) .g) : absF s = FP.fneg s := if_neg h
set_option maxHeartbeats 4000000 in
set_option maxRecDepth 100000 in
theorem c_isFit {Z : xZ} {x : Int32} {i : Nat} (hx : x = nI i) (hi : i < 20) (ok : okS (Z.2.1 2) (Z.2.1 3) (Z.2.1 4) (Z.2.1 5)) : XC mX1_isFit 2 0 0 [.ref 1, .int x] (HP Z) (fun r h' => r = some (.int (b2i (fitC (Z.2.1 2) (Z.2.1 3) (Z.2.1 5) i))) ∧ h' = HP Z) := by
  show XW mX1_isFit 2 0 0 0 [some (.ref 1), some (.int x), none, none, none] [] (HP Z) _
  refine XW.aload_n 1 dX1_isFit_0 rfl rfl ?_
  refine XW.iload_n 2 dX1_isFit_1 rfl rfl ?_
  refine XW.callV 5 (vs := [.int x]) (rest := []) (mcr := 0) (msr := 0) c1_63 dX1_isFit_2 rfl rfl (by decide) (Nat.le_of_ble_eq_true rfl) rfl rfl (Nat.le_of_ble_eq_true rfl) rfl (c_lightOf (i := i) hx (by omega) ok) (fun r h1 hq => ?_)
  obtain ⟨rfl, rfl⟩ := hq
  refine XW.fstore_n 6 (L' := [some (.ref 1), some (.int x), some (.float (lightC (Z.2.1 2) (3 * i))), none, none]) dX1_isFit_5 (by decide) rfl rfl rfl ?_
  refine XW.fload_n 7 dX1_isFit_6 rfl rfl ?_
  refine XW.aload_n 8 dX1_isFit_7 rfl rfl ?_
  refine XW.getf 11 (v := .ref 5) f1_31 dX1_isFit_8 rfl rfl rfl ?_
  refine XW.iconst 12 dX1_isFit_11 (v := 0) (by decide) rfl ?_
  refine XW.iald 13 0 dX1_isFit_12 rfl rfl (by omega) (by decide) rfl ?_
  refine XW.i2f 14 dX1_isFit_13 rfl ?_
  refine XW.fcmpU 15 dX1_isFit_14 ((ok_light ok (by omega)).2) (ok_lim ok (by omega)) rfl ?_
  refine XW.if_ltU 30 18 dX1_isFit_15 (by decide) rfl (fun c_15 => ?_) (fun c_15 => ?_)
  · have e0 := fitC_1 (gr := Z.2.1 3) c_15
    refine XW.iconst 31 dX1_isFit_30 (v := 0) (by decide) rfl ?_
    exact XW.iret dX1_isFit_31 rfl (⟨pF e0, rfl⟩)
  · refine XW.fload_n 19 dX1_isFit_18 rfl rfl ?_
    refine XW.aload_n 20 dX1_isFit_19 rfl rfl ?_
    refine XW.getf 23 (v := .ref 5) f1_31 dX1_isFit_20 rfl rfl rfl ?_
    refine XW.iconst 24 dX1_isFit_23 (v := 1) (by decide) rfl ?_
    refine XW.iald 25 1 dX1_isFit_24 rfl rfl (by omega) (by decide) rfl ?_
    refine XW.i2f 26 dX1_isFit_25 rfl ?_
    refine XW.fcmpU 27 dX1_isFit_26 ((ok_light ok (by omega)).2) (ok_lim ok (by omega)) rfl ?_
    refine XW.if_leU 32 30 dX1_isFit_27 (by decide) rfl (fun c_27 => ?_) (fun c_27 => ?_)
    · refine XW.fload_n 33 dX1_isFit_32 rfl rfl ?_
      refine XW.aload_n 34 dX1_isFit_33 rfl rfl ?_
      refine XW.getf 37 (v := .ref 3) f1_19 dX1_isFit_34 rfl rfl rfl ?_
      refine XW.iconst 38 dX1_isFit_37 (v := 0) (by decide) rfl ?_
      refine XW.callS 41 (vs := [.ref 3, .int 0]) (rest := [.float (lightC (Z.2.1 2) (3 * i))]) (mcr := 0) (msr := 0) c1_67 dX1_isFit_38 rfl (by decide) (Nat.le_of_ble_eq_true rfl) rfl rfl (Nat.le_of_ble_eq_true rfl) rfl (c_lightAt (k := 0) rfl rfl (by omega) (by omega) (ok_ground ok).1) (fun r h1 hq => ?_)
      obtain ⟨rfl, rfl⟩ := hq
      refine XW.fsub 42 dX1_isFit_41 (ok_off ok (by omega)) rfl ?_
      refine XW.fstore_n 43 (L' := [some (.ref 1), some (.int x), some (.float (lightC (Z.2.1 2) (3 * i))), some (.float (FP.fsub (lightC (Z.2.1 2) (3 * i)) (lightC (Z.2.1 3) 0))), none]) dX1_isFit_42 (by decide) rfl rfl rfl ?_
      refine XW.fload_n 44 dX1_isFit_43 rfl rfl ?_
      refine XW.fconst0 45 dX1_isFit_44 rfl ?_
      refine XW.fcmp 46 dX1_isFit_45 rfl ?_
      refine XW.if_ge 54 49 dX1_isFit_46 (by decide) rfl (fun c_46 => ?_) (fun c_46 => ?_)
      · have e1 := absF_t c_46
        refine XW.fload_n 55 dX1_isFit_54 rfl rfl ?_
        refine XW.fstore 57 (L' := [some (.ref 1), some (.int x), some (.float (lightC (Z.2.1 2) (3 * i))), some (.float (FP.fsub (lightC (Z.2.1 2) (3 * i)) (lightC (Z.2.1 3) 0))), some (.float (FP.fsub (lightC (Z.2.1 2) (3 * i)) (lightC (Z.2.1 3) 0)))]) dX1_isFit_55 (by decide) rfl rfl rfl ?_
        refine XW.fload 59 dX1_isFit_57 rfl rfl ?_
        refine XW.aload_n 60 dX1_isFit_59 rfl rfl ?_
        refine XW.getf 63 (v := .ref 5) f1_31 dX1_isFit_60 rfl rfl rfl ?_
        refine XW.iconst 64 dX1_isFit_63 (v := 2) (by decide) rfl ?_
        refine XW.iald 65 2 dX1_isFit_64 rfl rfl (by omega) (by decide) rfl ?_
        refine XW.i2f 66 dX1_isFit_65 rfl ?_
        refine XW.fcmp 67 dX1_isFit_66 rfl ?_
        refine XW.if_lt 74 70 dX1_isFit_67 (by decide) rfl (fun c_67 => ?_) (fun c_67 => ?_)
        · refine XW.iconst 75 dX1_isFit_74 (v := 0) (by decide) rfl ?_
          exact XW.iret dX1_isFit_75 rfl (⟨pF (fitC_3 c_15 c_27 e1 c_67), rfl⟩)
        · refine XW.iconst 71 dX1_isFit_70 (v := 1) (by decide) rfl ?_
          refine XW.goto 75 dX1_isFit_71 (by decide) ?_
          exact XW.iret dX1_isFit_75 rfl (⟨pT (fitC_4 c_15 c_27 e1 c_67), rfl⟩)
      · have e1 := absF_f c_46
        refine XW.fload_n 50 dX1_isFit_49 rfl rfl ?_
        refine XW.fneg 51 dX1_isFit_50 rfl ?_
        refine XW.goto 55 dX1_isFit_51 (by decide) ?_
        refine XW.fstore 57 (L' := [some (.ref 1), some (.int x), some (.float (lightC (Z.2.1 2) (3 * i))), some (.float (FP.fsub (lightC (Z.2.1 2) (3 * i)) (lightC (Z.2.1 3) 0))), some (.float (FP.fneg (FP.fsub (lightC (Z.2.1 2) (3 * i)) (lightC (Z.2.1 3) 0))))]) dX1_isFit_55 (by decide) rfl rfl rfl ?_
        refine XW.fload 59 dX1_isFit_57 rfl rfl ?_
        refine XW.aload_n 60 dX1_isFit_59 rfl rfl ?_
        refine XW.getf 63 (v := .ref 5) f1_31 dX1_isFit_60 rfl rfl rfl ?_
        refine XW.iconst 64 dX1_isFit_63 (v := 2) (by decide) rfl ?_
        refine XW.iald 65 2 dX1_isFit_64 rfl rfl (by omega) (by decide) rfl ?_
        refine XW.i2f 66 dX1_isFit_65 rfl ?_
        refine XW.fcmp 67 dX1_isFit_66 rfl ?_
        refine XW.if_lt 74 70 dX1_isFit_67 (by decide) rfl (fun c_67 => ?_) (fun c_67 => ?_)
        · refine XW.iconst 75 dX1_isFit_74 (v := 0) (by decide) rfl ?_
          exact XW.iret dX1_isFit_75 rfl (⟨pF (fitC_3 c_15 c_27 e1 c_67), rfl⟩)
        · refine XW.iconst 71 dX1_isFit_70 (v := 1) (by decide) rfl ?_
          refine XW.goto 75 dX1_isFit_71 (by decide) ?_
          exact XW.iret dX1_isFit_75 rfl (⟨pT (fitC_4 c_15 c_27 e1 c_67), rfl⟩)
    · have e0 := fitC_2 (gr := Z.2.1 3) c_27
      refine XW.iconst 31 dX1_isFit_30 (v := 0) (by decide) rfl ?_
      exact XW.iret dX1_isFit_31 rfl (⟨pF e0, rfl⟩)
set_option maxHeartbeats 4000000 in
set_option maxRecDepth 100000 in
theorem c_seenBy {Z : xZ} {xe xi xk : Int32} {e i k : Nat} (he : xe = nI e) (hi : xi = nI i) (hk : xk = nI k) (e4 : e < 4) (i20 : i < 20) (k3 : k < 3) (ok : okS (Z.2.1 2) (Z.2.1 3) (Z.2.1 4) (Z.2.1 5)) : XC mX1_seenBy 0 0 0 [.ref 1, .int xe, .int xi, .int xk] (HP Z) (fun r h' => r = some (.float (sawF (Z.2.1 4) (Z.2.1 2) e i k)) ∧ h' = HP Z) := by
  show XW mX1_seenBy 0 0 0 0 [some (.ref 1), some (.int xe), some (.int xi), some (.int xk), none, none, none, none] [] (HP Z) _
  obtain ⟨q1, q2, q3, q4, q5, q6, q7, q8⟩ := ok_seen ok e4 i20 k3
  refine XW.bipush 2 dX1_seenBy_0 (v := 13) (by decide) rfl ?_
  refine XW.iload_n 3 dX1_seenBy_2 rfl rfl ?_
  refine XW.imul 4 dX1_seenBy_3 rfl ?_
  refine XW.iconst 5 dX1_seenBy_4 (v := 3) (by decide) rfl ?_
  refine XW.iload_n 6 dX1_seenBy_5 rfl rfl ?_
  refine XW.imul 7 dX1_seenBy_6 rfl ?_
  refine XW.iadd 8 dX1_seenBy_7 rfl ?_
  refine XW.istore 10 (L' := [some (.ref 1), some (.int xe), some (.int xi), some (.int xk), some (.int ((13 * xe) + (3 * xk))), none, none, none]) dX1_seenBy_8 (by decide) rfl rfl rfl ?_
  refine XW.aload_n 11 dX1_seenBy_10 rfl rfl ?_
  refine XW.getf 14 (v := .ref 4) f1_28 dX1_seenBy_11 rfl rfl rfl ?_
  refine XW.iload 16 dX1_seenBy_14 rfl rfl ?_
  refine XW.iald 17 ((13 * e) + (3 * k)) dX1_seenBy_16 rfl (na (nm rfl he) (nm rfl hk)) (by omega) (by decide) rfl ?_
  refine XW.i2f 18 dX1_seenBy_17 rfl ?_
  refine XW.ldcf 20 k1_74 dX1_seenBy_18 rfl ?_
  refine XW.fdiv 21 dX1_seenBy_20 (by assumption) rfl ?_
  refine XW.fstore 23 (L' := [some (.ref 1), some (.int xe), some (.int xi), some (.int xk), some (.int ((13 * xe) + (3 * xk))), some (.float (FP.fdiv (FP.i2f (Z.2.1 4 ((13 * e) + (3 * k)))) 1120403456)), none, none]) dX1_seenBy_21 (by decide) rfl rfl rfl ?_
  refine XW.aload_n 24 dX1_seenBy_23 rfl rfl ?_
  refine XW.getf 27 (v := .ref 4) f1_28 dX1_seenBy_24 rfl rfl rfl ?_
  refine XW.iload 29 dX1_seenBy_27 rfl rfl ?_
  refine XW.iconst 30 dX1_seenBy_29 (v := 1) (by decide) rfl ?_
  refine XW.iadd 31 dX1_seenBy_30 rfl ?_
  refine XW.iald 32 (((13 * e) + (3 * k)) + 1) dX1_seenBy_31 rfl (na (na (nm rfl he) (nm rfl hk)) rfl) (by omega) (by decide) rfl ?_
  refine XW.i2f 33 dX1_seenBy_32 rfl ?_
  refine XW.ldcf 35 k1_74 dX1_seenBy_33 rfl ?_
  refine XW.fdiv 36 dX1_seenBy_35 (by assumption) rfl ?_
  refine XW.fstore 38 (L' := [some (.ref 1), some (.int xe), some (.int xi), some (.int xk), some (.int ((13 * xe) + (3 * xk))), some (.float (FP.fdiv (FP.i2f (Z.2.1 4 ((13 * e) + (3 * k)))) 1120403456)), some (.float (FP.fdiv (FP.i2f (Z.2.1 4 (((13 * e) + (3 * k)) + 1))) 1120403456)), none]) dX1_seenBy_36 (by decide) rfl rfl rfl ?_
  refine XW.aload_n 39 dX1_seenBy_38 rfl rfl ?_
  refine XW.getf 42 (v := .ref 4) f1_28 dX1_seenBy_39 rfl rfl rfl ?_
  refine XW.iload 44 dX1_seenBy_42 rfl rfl ?_
  refine XW.iconst 45 dX1_seenBy_44 (v := 2) (by decide) rfl ?_
  refine XW.iadd 46 dX1_seenBy_45 rfl ?_
  refine XW.iald 47 (((13 * e) + (3 * k)) + 2) dX1_seenBy_46 rfl (na (na (nm rfl he) (nm rfl hk)) rfl) (by omega) (by decide) rfl ?_
  refine XW.i2f 48 dX1_seenBy_47 rfl ?_
  refine XW.ldcf 50 k1_74 dX1_seenBy_48 rfl ?_
  refine XW.fdiv 51 dX1_seenBy_50 (by assumption) rfl ?_
  refine XW.fstore 53 (L' := [some (.ref 1), some (.int xe), some (.int xi), some (.int xk), some (.int ((13 * xe) + (3 * xk))), some (.float (FP.fdiv (FP.i2f (Z.2.1 4 ((13 * e) + (3 * k)))) 1120403456)), some (.float (FP.fdiv (FP.i2f (Z.2.1 4 (((13 * e) + (3 * k)) + 1))) 1120403456)), some (.float (FP.fdiv (FP.i2f (Z.2.1 4 (((13 * e) + (3 * k)) + 2))) 1120403456))]) dX1_seenBy_51 (by decide) rfl rfl rfl ?_
  refine XW.fload 55 dX1_seenBy_53 rfl rfl ?_
  refine XW.aload_n 56 dX1_seenBy_55 rfl rfl ?_
  refine XW.getf 59 (v := .ref 2) f1_15 dX1_seenBy_56 rfl rfl rfl ?_
  refine XW.iconst 60 dX1_seenBy_59 (v := 3) (by decide) rfl ?_
  refine XW.iload_n 61 dX1_seenBy_60 rfl rfl ?_
  refine XW.imul 62 dX1_seenBy_61 rfl ?_
  refine XW.iald 63 (3 * i) dX1_seenBy_62 rfl (nm rfl hi) (by omega) (by decide) rfl ?_
  refine XW.i2f 64 dX1_seenBy_63 rfl ?_
  refine XW.fmul 65 dX1_seenBy_64 (by assumption) rfl ?_
  refine XW.fload 67 dX1_seenBy_65 rfl rfl ?_
  refine XW.aload_n 68 dX1_seenBy_67 rfl rfl ?_
  refine XW.getf 71 (v := .ref 2) f1_15 dX1_seenBy_68 rfl rfl rfl ?_
  refine XW.iconst 72 dX1_seenBy_71 (v := 3) (by decide) rfl ?_
  refine XW.iload_n 73 dX1_seenBy_72 rfl rfl ?_
  refine XW.imul 74 dX1_seenBy_73 rfl ?_
  refine XW.iconst 75 dX1_seenBy_74 (v := 1) (by decide) rfl ?_
  refine XW.iadd 76 dX1_seenBy_75 rfl ?_
  refine XW.iald 77 ((3 * i) + 1) dX1_seenBy_76 rfl (na (nm rfl hi) rfl) (by omega) (by decide) rfl ?_
  refine XW.i2f 78 dX1_seenBy_77 rfl ?_
  refine XW.fmul 79 dX1_seenBy_78 (by assumption) rfl ?_
  refine XW.fadd 80 dX1_seenBy_79 (by assumption) rfl ?_
  refine XW.fload 82 dX1_seenBy_80 rfl rfl ?_
  refine XW.aload_n 83 dX1_seenBy_82 rfl rfl ?_
  refine XW.getf 86 (v := .ref 2) f1_15 dX1_seenBy_83 rfl rfl rfl ?_
  refine XW.iconst 87 dX1_seenBy_86 (v := 3) (by decide) rfl ?_
  refine XW.iload_n 88 dX1_seenBy_87 rfl rfl ?_
  refine XW.imul 89 dX1_seenBy_88 rfl ?_
  refine XW.iconst 90 dX1_seenBy_89 (v := 2) (by decide) rfl ?_
  refine XW.iadd 91 dX1_seenBy_90 rfl ?_
  refine XW.iald 92 ((3 * i) + 2) dX1_seenBy_91 rfl (na (nm rfl hi) rfl) (by omega) (by decide) rfl ?_
  refine XW.i2f 93 dX1_seenBy_92 rfl ?_
  refine XW.fmul 94 dX1_seenBy_93 (by assumption) rfl ?_
  refine XW.fadd 95 dX1_seenBy_94 q8 rfl ?_
  exact XW.fret dX1_seenBy_95 trivial (⟨rfl, rfl⟩)
set_option maxHeartbeats 4000000 in
set_option maxRecDepth 100000 in
theorem c_distanceFor {Z : xZ} {xe xi xj : Int32} {e i j : Nat} (he : xe = nI e) (hi : xi = nI i) (hj : xj = nI j) (e4 : e < 4) (i20 : i < 20) (j20 : j < 20) (ok : okS (Z.2.1 2) (Z.2.1 3) (Z.2.1 4) (Z.2.1 5)) : XC mX1_distanceFor 1 0 0 [.ref 1, .int xe, .int xi, .int xj] (HP Z) (fun r h' => r = some (.float (distF (Z.2.1 4) (Z.2.1 2) e i j)) ∧ h' = HP Z) := by
  show XW mX1_distanceFor 1 0 0 0 [some (.ref 1), some (.int xe), some (.int xi), some (.int xj), none, none, none, none] [] (HP Z) _
  obtain ⟨⟨q1, q2, q3, q4, q5, q6, q7, q8, q9, q10, q11⟩, q12⟩ := ok_far ok e4 i20 j20
  refine XW.bipush 2 dX1_distanceFor_0 (v := 13) (by decide) rfl ?_
  refine XW.iload_n 3 dX1_distanceFor_2 rfl rfl ?_
  refine XW.imul 4 dX1_distanceFor_3 rfl ?_
  refine XW.bipush 6 dX1_distanceFor_4 (v := 9) (by decide) rfl ?_
  refine XW.iadd 7 dX1_distanceFor_6 rfl ?_
  refine XW.istore 9 (L' := [some (.ref 1), some (.int xe), some (.int xi), some (.int xj), some (.int ((13 * xe) + 9)), none, none, none]) dX1_distanceFor_7 (by decide) rfl rfl rfl ?_
  refine XW.aload_n 10 dX1_distanceFor_9 rfl rfl ?_
  refine XW.iload_n 11 dX1_distanceFor_10 rfl rfl ?_
  refine XW.iload_n 12 dX1_distanceFor_11 rfl rfl ?_
  refine XW.iconst 13 dX1_distanceFor_12 (v := 0) (by decide) rfl ?_
  refine XW.callV 16 (vs := [.int xe, .int xi, .int 0]) (rest := []) (mcr := 0) (msr := 0) c1_75 dX1_distanceFor_13 rfl rfl (by decide) (Nat.le_of_ble_eq_true rfl) rfl rfl (Nat.le_of_ble_eq_true rfl) rfl (c_seenBy (e := e) (i := i) (k := 0) he hi rfl (by omega) (by omega) (by omega) ok) (fun r h1 hq => ?_)
  obtain ⟨rfl, rfl⟩ := hq
  refine XW.aload_n 17 dX1_distanceFor_16 rfl rfl ?_
  refine XW.iload_n 18 dX1_distanceFor_17 rfl rfl ?_
  refine XW.iload_n 19 dX1_distanceFor_18 rfl rfl ?_
  refine XW.iconst 20 dX1_distanceFor_19 (v := 0) (by decide) rfl ?_
  refine XW.callV 23 (vs := [.int xe, .int xj, .int 0]) (rest := [.float (sawF (Z.2.1 4) (Z.2.1 2) e i 0)]) (mcr := 0) (msr := 0) c1_75 dX1_distanceFor_20 rfl rfl (by decide) (Nat.le_of_ble_eq_true rfl) rfl rfl (Nat.le_of_ble_eq_true rfl) rfl (c_seenBy (e := e) (i := j) (k := 0) he hj rfl (by omega) (by omega) (by omega) ok) (fun r h1 hq => ?_)
  obtain ⟨rfl, rfl⟩ := hq
  refine XW.fsub 24 dX1_distanceFor_23 (by assumption) rfl ?_
  refine XW.fstore 26 (L' := [some (.ref 1), some (.int xe), some (.int xi), some (.int xj), some (.int ((13 * xe) + 9)), some (.float (FP.fsub (sawF (Z.2.1 4) (Z.2.1 2) e i 0) (sawF (Z.2.1 4) (Z.2.1 2) e j 0))), none, none]) dX1_distanceFor_24 (by decide) rfl rfl rfl ?_
  refine XW.aload_n 27 dX1_distanceFor_26 rfl rfl ?_
  refine XW.iload_n 28 dX1_distanceFor_27 rfl rfl ?_
  refine XW.iload_n 29 dX1_distanceFor_28 rfl rfl ?_
  refine XW.iconst 30 dX1_distanceFor_29 (v := 1) (by decide) rfl ?_
  refine XW.callV 33 (vs := [.int xe, .int xi, .int 1]) (rest := []) (mcr := 0) (msr := 0) c1_75 dX1_distanceFor_30 rfl rfl (by decide) (Nat.le_of_ble_eq_true rfl) rfl rfl (Nat.le_of_ble_eq_true rfl) rfl (c_seenBy (e := e) (i := i) (k := 1) he hi rfl (by omega) (by omega) (by omega) ok) (fun r h1 hq => ?_)
  obtain ⟨rfl, rfl⟩ := hq
  refine XW.aload_n 34 dX1_distanceFor_33 rfl rfl ?_
  refine XW.iload_n 35 dX1_distanceFor_34 rfl rfl ?_
  refine XW.iload_n 36 dX1_distanceFor_35 rfl rfl ?_
  refine XW.iconst 37 dX1_distanceFor_36 (v := 1) (by decide) rfl ?_
  refine XW.callV 40 (vs := [.int xe, .int xj, .int 1]) (rest := [.float (sawF (Z.2.1 4) (Z.2.1 2) e i 1)]) (mcr := 0) (msr := 0) c1_75 dX1_distanceFor_37 rfl rfl (by decide) (Nat.le_of_ble_eq_true rfl) rfl rfl (Nat.le_of_ble_eq_true rfl) rfl (c_seenBy (e := e) (i := j) (k := 1) he hj rfl (by omega) (by omega) (by omega) ok) (fun r h1 hq => ?_)
  obtain ⟨rfl, rfl⟩ := hq
  refine XW.fsub 41 dX1_distanceFor_40 (by assumption) rfl ?_
  refine XW.fstore 43 (L' := [some (.ref 1), some (.int xe), some (.int xi), some (.int xj), some (.int ((13 * xe) + 9)), some (.float (FP.fsub (sawF (Z.2.1 4) (Z.2.1 2) e i 0) (sawF (Z.2.1 4) (Z.2.1 2) e j 0))), some (.float (FP.fsub (sawF (Z.2.1 4) (Z.2.1 2) e i 1) (sawF (Z.2.1 4) (Z.2.1 2) e j 1))), none]) dX1_distanceFor_41 (by decide) rfl rfl rfl ?_
  refine XW.aload_n 44 dX1_distanceFor_43 rfl rfl ?_
  refine XW.iload_n 45 dX1_distanceFor_44 rfl rfl ?_
  refine XW.iload_n 46 dX1_distanceFor_45 rfl rfl ?_
  refine XW.iconst 47 dX1_distanceFor_46 (v := 2) (by decide) rfl ?_
  refine XW.callV 50 (vs := [.int xe, .int xi, .int 2]) (rest := []) (mcr := 0) (msr := 0) c1_75 dX1_distanceFor_47 rfl rfl (by decide) (Nat.le_of_ble_eq_true rfl) rfl rfl (Nat.le_of_ble_eq_true rfl) rfl (c_seenBy (e := e) (i := i) (k := 2) he hi rfl (by omega) (by omega) (by omega) ok) (fun r h1 hq => ?_)
  obtain ⟨rfl, rfl⟩ := hq
  refine XW.aload_n 51 dX1_distanceFor_50 rfl rfl ?_
  refine XW.iload_n 52 dX1_distanceFor_51 rfl rfl ?_
  refine XW.iload_n 53 dX1_distanceFor_52 rfl rfl ?_
  refine XW.iconst 54 dX1_distanceFor_53 (v := 2) (by decide) rfl ?_
  refine XW.callV 57 (vs := [.int xe, .int xj, .int 2]) (rest := [.float (sawF (Z.2.1 4) (Z.2.1 2) e i 2)]) (mcr := 0) (msr := 0) c1_75 dX1_distanceFor_54 rfl rfl (by decide) (Nat.le_of_ble_eq_true rfl) rfl rfl (Nat.le_of_ble_eq_true rfl) rfl (c_seenBy (e := e) (i := j) (k := 2) he hj rfl (by omega) (by omega) (by omega) ok) (fun r h1 hq => ?_)
  obtain ⟨rfl, rfl⟩ := hq
  refine XW.fsub 58 dX1_distanceFor_57 (by assumption) rfl ?_
  refine XW.fstore 60 (L' := [some (.ref 1), some (.int xe), some (.int xi), some (.int xj), some (.int ((13 * xe) + 9)), some (.float (FP.fsub (sawF (Z.2.1 4) (Z.2.1 2) e i 0) (sawF (Z.2.1 4) (Z.2.1 2) e j 0))), some (.float (FP.fsub (sawF (Z.2.1 4) (Z.2.1 2) e i 1) (sawF (Z.2.1 4) (Z.2.1 2) e j 1))), some (.float (FP.fsub (sawF (Z.2.1 4) (Z.2.1 2) e i 2) (sawF (Z.2.1 4) (Z.2.1 2) e j 2)))]) dX1_distanceFor_58 (by decide) rfl rfl rfl ?_
  refine XW.aload_n 61 dX1_distanceFor_60 rfl rfl ?_
  refine XW.getf 64 (v := .ref 4) f1_28 dX1_distanceFor_61 rfl rfl rfl ?_
  refine XW.iload 66 dX1_distanceFor_64 rfl rfl ?_
  refine XW.iald 67 ((13 * e) + 9) dX1_distanceFor_66 rfl (na (nm rfl he) rfl) (by omega) (by decide) rfl ?_
  refine XW.i2f 68 dX1_distanceFor_67 rfl ?_
  refine XW.fload 70 dX1_distanceFor_68 rfl rfl ?_
  refine XW.fload 72 dX1_distanceFor_70 rfl rfl ?_
  refine XW.fmul 73 dX1_distanceFor_72 (by assumption) rfl ?_
  refine XW.fmul 74 dX1_distanceFor_73 (by assumption) rfl ?_
  refine XW.aload_n 75 dX1_distanceFor_74 rfl rfl ?_
  refine XW.getf 78 (v := .ref 4) f1_28 dX1_distanceFor_75 rfl rfl rfl ?_
  refine XW.iload 80 dX1_distanceFor_78 rfl rfl ?_
  refine XW.iconst 81 dX1_distanceFor_80 (v := 1) (by decide) rfl ?_
  refine XW.iadd 82 dX1_distanceFor_81 rfl ?_
  refine XW.iald 83 (((13 * e) + 9) + 1) dX1_distanceFor_82 rfl (na (na (nm rfl he) rfl) rfl) (by omega) (by decide) rfl ?_
  refine XW.i2f 84 dX1_distanceFor_83 rfl ?_
  refine XW.fload 86 dX1_distanceFor_84 rfl rfl ?_
  refine XW.fload 88 dX1_distanceFor_86 rfl rfl ?_
  refine XW.fmul 89 dX1_distanceFor_88 (by assumption) rfl ?_
  refine XW.fmul 90 dX1_distanceFor_89 (by assumption) rfl ?_
  refine XW.fadd 91 dX1_distanceFor_90 (by assumption) rfl ?_
  refine XW.aload_n 92 dX1_distanceFor_91 rfl rfl ?_
  refine XW.getf 95 (v := .ref 4) f1_28 dX1_distanceFor_92 rfl rfl rfl ?_
  refine XW.iload 97 dX1_distanceFor_95 rfl rfl ?_
  refine XW.iconst 98 dX1_distanceFor_97 (v := 2) (by decide) rfl ?_
  refine XW.iadd 99 dX1_distanceFor_98 rfl ?_
  refine XW.iald 100 (((13 * e) + 9) + 2) dX1_distanceFor_99 rfl (na (na (nm rfl he) rfl) rfl) (by omega) (by decide) rfl ?_
  refine XW.i2f 101 dX1_distanceFor_100 rfl ?_
  refine XW.fload 103 dX1_distanceFor_101 rfl rfl ?_
  refine XW.fload 105 dX1_distanceFor_103 rfl rfl ?_
  refine XW.fmul 106 dX1_distanceFor_105 (by assumption) rfl ?_
  refine XW.fmul 107 dX1_distanceFor_106 (by assumption) rfl ?_
  refine XW.fadd 108 dX1_distanceFor_107 q11 rfl ?_
  exact XW.fret dX1_distanceFor_108 trivial (⟨rfl, rfl⟩)
set_option maxHeartbeats 4000000 in
set_option maxRecDepth 100000 in
theorem c_isFixed {Z : xZ} (x : Int32) : XC mX1_isFixed 0 0 0 [.ref 1, .int x] (HP Z) (fun r h' => r = some (.int (b2i (bitB (Z.1 1 5) x))) ∧ h' = HP Z) := by
  show XW mX1_isFixed 0 0 0 0 [some (.ref 1), some (.int x)] [] (HP Z) _
  refine XW.aload_n 1 dX1_isFixed_0 rfl rfl ?_
  refine XW.getf 4 (v := .int (Z.1 1 5)) f1_34 dX1_isFixed_1 rfl rfl rfl ?_
  refine XW.iload_n 5 dX1_isFixed_4 rfl rfl ?_
  refine XW.ishr 6 dX1_isFixed_5 rfl ?_
  refine XW.iconst 7 dX1_isFixed_6 (v := 1) (by decide) rfl ?_
  refine XW.iand 8 dX1_isFixed_7 rfl ?_
  refine XW.iconst 9 dX1_isFixed_8 (v := 1) (by decide) rfl ?_
  refine XW.icmp_ne 16 12 dX1_isFixed_9 (by decide) rfl (fun c_9 => ?_) (fun c_9 => ?_)
  · refine XW.iconst 17 dX1_isFixed_16 (v := 0) (by decide) rfl ?_
    exact XW.iret dX1_isFixed_17 rfl (⟨pF (by simp [bitB, *]), rfl⟩)
  · refine XW.iconst 13 dX1_isFixed_12 (v := 1) (by decide) rfl ?_
    refine XW.goto 17 dX1_isFixed_13 (by decide) ?_
    exact XW.iret dX1_isFixed_17 rfl (⟨pT (by simp [bitB, *]), rfl⟩)
