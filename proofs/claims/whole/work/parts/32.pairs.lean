/-! The class: mistaken pairs; small ones -/
def pbI (df : Nat → Nat → UInt32) (v : UInt32) (i : Nat) (s : Int32) : Nat → Int32 := itF (fun t a => if df i (i + 1 + t) < v then a + 1 else a) s
def pbO (df : Nat → Nat → UInt32) (v : UInt32) (l : Nat) : Nat → Int32 := itF (fun i a => pbI df v i a (l - (i + 1))) 0
theorem pbI_t {df : Nat → Nat → UInt32} {v : UInt32} {i t : Nat} {s : Int32} (h : df i (i + 1 + t) < v) : pbI df v i s (t + 1) = pbI df v i s t + 1 := if_pos h
theorem pbI_f {df : Nat → Nat → UInt32} {v : UInt32} {i t : Nat} {s : Int32} (h : ¬ df i (i + 1 + t) < v) : pbI df v i s (t + 1) = pbI df v i s t := if_neg h
set_option maxHeartbeats 400000 in
set_option maxRecDepth 100000 in
theorem l_pairs_i {Z : xZ} {c l e : Nat} {xe v : Int32} (hxe : xe = nI e) (e4 : e < 4) (hv : inF v 0 9999 = true) (hl : Z.1 1 7 = nI l) (l8 : l ≤ 8) (c20 : c ≤ 20) (hf : rowOK (Z.2.1 6) l c) (ok : okS (Z.2.1 2) (Z.2.1 3) (Z.2.1 4) (Z.2.1 5)) {i : Nat} (il : i < l) (KK : XW mX1_pairsBelow 2 0 0 5 [some (.ref 1), some (.int xe), some (.int v), some (.int (pbO (fun a b => distF (Z.2.1 4) (Z.2.1 2) e (rv (Z.2.1 6) a) (rv (Z.2.1 6) b)) (FP.i2f v) l (i + 1))), some (.int (nI (i + 1))), none] [] (HP Z) (fun r h' => r = some (.int (pbO (fun a b => distF (Z.2.1 4) (Z.2.1 2) e (rv (Z.2.1 6) a) (rv (Z.2.1 6) b)) (FP.i2f v) l l)) ∧ h' = HP Z)) : ∀ (n : Nat) (t : Nat), i + 1 + t ≤ l → l < i + 1 + t + n → XW mX1_pairsBelow 2 0 0 20 [some (.ref 1), some (.int xe), some (.int v), some (.int (pbI (fun a b => distF (Z.2.1 4) (Z.2.1 2) e (rv (Z.2.1 6) a) (rv (Z.2.1 6) b)) (FP.i2f v) i (pbO (fun a b => distF (Z.2.1 4) (Z.2.1 2) e (rv (Z.2.1 6) a) (rv (Z.2.1 6) b)) (FP.i2f v) l i) t)), some (.int (nI i)), some (.int (nI (i + 1 + t)))] [] (HP Z) (fun r h' => r = some (.int (pbO (fun a b => distF (Z.2.1 4) (Z.2.1 2) e (rv (Z.2.1 6) a) (rv (Z.2.1 6) b)) (FP.i2f v) l l)) ∧ h' = HP Z) := by
  intro n
  induction n with
  | zero => intro t g0 g1; omega
  | succ n ih =>
    intro t g0 g1
    refine XW.iload 22 dX1_pairsBelow_20 rfl rfl ?_
    refine XW.aload_n 23 dX1_pairsBelow_22 rfl rfl ?_
    refine XW.getf 26 (v := .int (Z.1 1 7)) f1_40 dX1_pairsBelow_23 rfl rfl rfl ?_
    refine XW.icmp_geN 63 29 (i + 1 + t) l dX1_pairsBelow_26 (by decide) rfl rfl hl (by omega) (by omega) (fun c_26 => ?_) (fun c_26 => ?_)
    · refine XW.iinc 66 (y := nI (i + 1)) (L' := [some (.ref 1), some (.int xe), some (.int v), some (.int (pbI (fun a b => distF (Z.2.1 4) (Z.2.1 2) e (rv (Z.2.1 6) a) (rv (Z.2.1 6) b)) (FP.i2f v) i (pbO (fun a b => distF (Z.2.1 4) (Z.2.1 2) e (rv (Z.2.1 6) a) (rv (Z.2.1 6) b)) (FP.i2f v) l i) t)), some (.int (nI (i + 1))), some (.int (nI (i + 1 + t)))]) dX1_pairsBelow_63 rfl (na rfl rfl) (by decide) rfl rfl rfl ?_
      refine XW.goto 5 dX1_pairsBelow_66 (by decide) ?_
      refine XW.weak [true, true, true, true, true, false] (L' := [some (.ref 1), some (.int xe), some (.int v), some (.int (pbI (fun a b => distF (Z.2.1 4) (Z.2.1 2) e (rv (Z.2.1 6) a) (rv (Z.2.1 6) b)) (FP.i2f v) i (pbO (fun a b => distF (Z.2.1 4) (Z.2.1 2) e (rv (Z.2.1 6) a) (rv (Z.2.1 6) b)) (FP.i2f v) l i) t)), some (.int (nI (i + 1))), none]) rfl ?_
      refine XW.eqs (L' := [some (.ref 1), some (.int xe), some (.int v), some (.int (pbO (fun a b => distF (Z.2.1 4) (Z.2.1 2) e (rv (Z.2.1 6) a) (rv (Z.2.1 6) b)) (FP.i2f v) l (i + 1))), some (.int (nI (i + 1))), none]) (by rw [show pbO (fun a b => distF (Z.2.1 4) (Z.2.1 2) e (rv (Z.2.1 6) a) (rv (Z.2.1 6) b)) (FP.i2f v) l (i + 1) = pbI (fun a b => distF (Z.2.1 4) (Z.2.1 2) e (rv (Z.2.1 6) a) (rv (Z.2.1 6) b)) (FP.i2f v) i (pbO (fun a b => distF (Z.2.1 4) (Z.2.1 2) e (rv (Z.2.1 6) a) (rv (Z.2.1 6) b)) (FP.i2f v) l i) (l - (i + 1)) from rfl, show l - (i + 1) = t by omega]) rfl rfl ?_
      exact KK
    · have b1 := (hf i (by omega)).2
      have b2 := (hf (i + 1 + t) (by omega)).2
      refine XW.aload_n 30 dX1_pairsBelow_29 rfl rfl ?_
      refine XW.iload_n 31 dX1_pairsBelow_30 rfl rfl ?_
      refine XW.aload_n 32 dX1_pairsBelow_31 rfl rfl ?_
      refine XW.getf 35 (v := .ref 6) f1_37 dX1_pairsBelow_32 rfl rfl rfl ?_
      refine XW.iload 37 dX1_pairsBelow_35 rfl rfl ?_
      refine XW.iald 38 i dX1_pairsBelow_37 rfl rfl (by omega) (by decide) rfl ?_
      refine XW.aload_n 39 dX1_pairsBelow_38 rfl rfl ?_
      refine XW.getf 42 (v := .ref 6) f1_37 dX1_pairsBelow_39 rfl rfl rfl ?_
      refine XW.iload 44 dX1_pairsBelow_42 rfl rfl ?_
      refine XW.iald 45 (i + 1 + t) dX1_pairsBelow_44 rfl rfl (by omega) (by decide) rfl ?_
      refine XW.callV 48 (vs := [.int xe, .int (Z.2.1 6 i), .int (Z.2.1 6 (i + 1 + t))]) (rest := []) (mcr := 0) (msr := 0) c1_79 dX1_pairsBelow_45 rfl rfl (by decide) (Nat.le_of_ble_eq_true rfl) rfl rfl (Nat.le_of_ble_eq_true rfl) rfl (c_distanceFor (e := e) (i := rv (Z.2.1 6) i) (j := rv (Z.2.1 6) (i + 1 + t)) hxe (hf _ (by omega)).1 (hf _ (by omega)).1 (by omega) (by omega) (by omega) ok) (fun r h1 hq => ?_)
      obtain ⟨rfl, rfl⟩ := hq
      refine XW.iload_n 49 dX1_pairsBelow_48 rfl rfl ?_
      refine XW.i2f 50 dX1_pairsBelow_49 rfl ?_
      refine XW.fcmpU 51 dX1_pairsBelow_50 (ok_dist ok (by omega) (by omega) (by omega)) (fl_small hv) rfl ?_
      refine XW.if_geU 57 54 dX1_pairsBelow_51 (by decide) rfl (fun c_51 => ?_) (fun c_51 => ?_)
      · refine XW.iinc 60 (y := nI (i + 1 + t + 1)) (L' := [some (.ref 1), some (.int xe), some (.int v), some (.int (pbI (fun a b => distF (Z.2.1 4) (Z.2.1 2) e (rv (Z.2.1 6) a) (rv (Z.2.1 6) b)) (FP.i2f v) i (pbO (fun a b => distF (Z.2.1 4) (Z.2.1 2) e (rv (Z.2.1 6) a) (rv (Z.2.1 6) b)) (FP.i2f v) l i) t)), some (.int (nI i)), some (.int (nI (i + 1 + t + 1)))]) dX1_pairsBelow_57 rfl (na rfl rfl) (by decide) rfl rfl rfl ?_
        refine XW.goto 20 dX1_pairsBelow_60 (by decide) ?_
        refine XW.eqs (L' := [some (.ref 1), some (.int xe), some (.int v), some (.int (pbI (fun a b => distF (Z.2.1 4) (Z.2.1 2) e (rv (Z.2.1 6) a) (rv (Z.2.1 6) b)) (FP.i2f v) i (pbO (fun a b => distF (Z.2.1 4) (Z.2.1 2) e (rv (Z.2.1 6) a) (rv (Z.2.1 6) b)) (FP.i2f v) l i) (t + 1))), some (.int (nI i)), some (.int (nI (i + 1 + (t + 1))))]) (by rw [pbI_f (df := (fun a b => distF (Z.2.1 4) (Z.2.1 2) e (rv (Z.2.1 6) a) (rv (Z.2.1 6) b))) c_51]; rfl) rfl rfl ?_
        exact ih (t + 1) (by omega) (by omega)
      · refine XW.iinc 57 (y := pbI (fun a b => distF (Z.2.1 4) (Z.2.1 2) e (rv (Z.2.1 6) a) (rv (Z.2.1 6) b)) (FP.i2f v) i (pbO (fun a b => distF (Z.2.1 4) (Z.2.1 2) e (rv (Z.2.1 6) a) (rv (Z.2.1 6) b)) (FP.i2f v) l i) t + 1) (L' := [some (.ref 1), some (.int xe), some (.int v), some (.int (pbI (fun a b => distF (Z.2.1 4) (Z.2.1 2) e (rv (Z.2.1 6) a) (rv (Z.2.1 6) b)) (FP.i2f v) i (pbO (fun a b => distF (Z.2.1 4) (Z.2.1 2) e (rv (Z.2.1 6) a) (rv (Z.2.1 6) b)) (FP.i2f v) l i) t + 1)), some (.int (nI i)), some (.int (nI (i + 1 + t)))]) dX1_pairsBelow_54 rfl rfl (by decide) rfl rfl rfl ?_
        refine XW.iinc 60 (y := nI (i + 1 + t + 1)) (L' := [some (.ref 1), some (.int xe), some (.int v), some (.int (pbI (fun a b => distF (Z.2.1 4) (Z.2.1 2) e (rv (Z.2.1 6) a) (rv (Z.2.1 6) b)) (FP.i2f v) i (pbO (fun a b => distF (Z.2.1 4) (Z.2.1 2) e (rv (Z.2.1 6) a) (rv (Z.2.1 6) b)) (FP.i2f v) l i) t + 1)), some (.int (nI i)), some (.int (nI (i + 1 + t + 1)))]) dX1_pairsBelow_57 rfl (na rfl rfl) (by decide) rfl rfl rfl ?_
        refine XW.goto 20 dX1_pairsBelow_60 (by decide) ?_
        refine XW.eqs (L' := [some (.ref 1), some (.int xe), some (.int v), some (.int (pbI (fun a b => distF (Z.2.1 4) (Z.2.1 2) e (rv (Z.2.1 6) a) (rv (Z.2.1 6) b)) (FP.i2f v) i (pbO (fun a b => distF (Z.2.1 4) (Z.2.1 2) e (rv (Z.2.1 6) a) (rv (Z.2.1 6) b)) (FP.i2f v) l i) (t + 1))), some (.int (nI i)), some (.int (nI (i + 1 + (t + 1))))]) (by rw [pbI_t (df := (fun a b => distF (Z.2.1 4) (Z.2.1 2) e (rv (Z.2.1 6) a) (rv (Z.2.1 6) b))) c_51]; rfl) rfl rfl ?_
        exact ih (t + 1) (by omega) (by omega)
set_option maxHeartbeats 400000 in
set_option maxRecDepth 100000 in
theorem l_pairs_o {Z : xZ} {c l e : Nat} {xe v : Int32} (hxe : xe = nI e) (e4 : e < 4) (hv : inF v 0 9999 = true) (hl : Z.1 1 7 = nI l) (l8 : l ≤ 8) (c20 : c ≤ 20) (hf : rowOK (Z.2.1 6) l c) (ok : okS (Z.2.1 2) (Z.2.1 3) (Z.2.1 4) (Z.2.1 5)) : ∀ (n : Nat) (i : Nat), i ≤ l → l < i + n → XW mX1_pairsBelow 2 0 0 5 [some (.ref 1), some (.int xe), some (.int v), some (.int (pbO (fun a b => distF (Z.2.1 4) (Z.2.1 2) e (rv (Z.2.1 6) a) (rv (Z.2.1 6) b)) (FP.i2f v) l i)), some (.int (nI i)), none] [] (HP Z) (fun r h' => r = some (.int (pbO (fun a b => distF (Z.2.1 4) (Z.2.1 2) e (rv (Z.2.1 6) a) (rv (Z.2.1 6) b)) (FP.i2f v) l l)) ∧ h' = HP Z) := by
  intro n
  induction n with
  | zero => intro i g0 g1; omega
  | succ n ih =>
    intro i g0 g1
    refine XW.iload 7 dX1_pairsBelow_5 rfl rfl ?_
    refine XW.aload_n 8 dX1_pairsBelow_7 rfl rfl ?_
    refine XW.getf 11 (v := .int (Z.1 1 7)) f1_40 dX1_pairsBelow_8 rfl rfl rfl ?_
    refine XW.icmp_geN 69 14 i l dX1_pairsBelow_11 (by decide) rfl rfl hl (by omega) (by omega) (fun c_11 => ?_) (fun c_11 => ?_)
    · refine XW.iload_n 70 dX1_pairsBelow_69 rfl rfl ?_
      exact XW.iret dX1_pairsBelow_70 rfl (⟨by rw [show i = l by omega], rfl⟩)
    · refine XW.iload 16 dX1_pairsBelow_14 rfl rfl ?_
      refine XW.iconst 17 dX1_pairsBelow_16 (v := 1) (by decide) rfl ?_
      refine XW.iadd 18 dX1_pairsBelow_17 rfl ?_
      refine XW.istore 20 (L' := [some (.ref 1), some (.int xe), some (.int v), some (.int (pbO (fun a b => distF (Z.2.1 4) (Z.2.1 2) e (rv (Z.2.1 6) a) (rv (Z.2.1 6) b)) (FP.i2f v) l i)), some (.int (nI i)), some (.int ((nI i) + 1))]) dX1_pairsBelow_18 (by decide) rfl rfl rfl ?_
      refine XW.eqs (L' := [some (.ref 1), some (.int xe), some (.int v), some (.int (pbI (fun a b => distF (Z.2.1 4) (Z.2.1 2) e (rv (Z.2.1 6) a) (rv (Z.2.1 6) b)) (FP.i2f v) i (pbO (fun a b => distF (Z.2.1 4) (Z.2.1 2) e (rv (Z.2.1 6) a) (rv (Z.2.1 6) b)) (FP.i2f v) l i) 0)), some (.int (nI i)), some (.int (nI (i + 1 + 0)))]) (by rw [nI_1]; rfl) rfl rfl ?_
      exact l_pairs_i hxe e4 hv hl l8 c20 hf ok (by omega) (ih (i + 1) (by omega) (by omega)) (l + 1) 0 (by omega) (by omega)
set_option maxHeartbeats 400000 in
set_option maxRecDepth 100000 in
theorem c_pairs {Z : xZ} {c l e : Nat} {xe v : Int32} (hxe : xe = nI e) (e4 : e < 4) (hv : inF v 0 9999 = true) (hl : Z.1 1 7 = nI l) (l8 : l ≤ 8) (c20 : c ≤ 20) (hf : rowOK (Z.2.1 6) l c) (ok : okS (Z.2.1 2) (Z.2.1 3) (Z.2.1 4) (Z.2.1 5)) : XC mX1_pairsBelow 2 0 0 [.ref 1, .int xe, .int v] (HP Z) (fun r h' => r = some (.int (pbO (fun a b => distF (Z.2.1 4) (Z.2.1 2) e (rv (Z.2.1 6) a) (rv (Z.2.1 6) b)) (FP.i2f v) l l)) ∧ h' = HP Z) := by
  show XW mX1_pairsBelow 2 0 0 0 [some (.ref 1), some (.int xe), some (.int v), none, none, none] [] (HP Z) _
  refine XW.iconst 1 dX1_pairsBelow_0 (v := 0) (by decide) rfl ?_
  refine XW.istore_n 2 (L' := [some (.ref 1), some (.int xe), some (.int v), some (.int 0), none, none]) dX1_pairsBelow_1 (by decide) rfl rfl rfl ?_
  refine XW.iconst 3 dX1_pairsBelow_2 (v := 0) (by decide) rfl ?_
  refine XW.istore 5 (L' := [some (.ref 1), some (.int xe), some (.int v), some (.int 0), some (.int 0), none]) dX1_pairsBelow_3 (by decide) rfl rfl rfl ?_
  refine XW.eqs (L' := [some (.ref 1), some (.int xe), some (.int v), some (.int (pbO (fun a b => distF (Z.2.1 4) (Z.2.1 2) e (rv (Z.2.1 6) a) (rv (Z.2.1 6) b)) (FP.i2f v) l 0)), some (.int (nI 0)), none]) (by rfl) rfl rfl ?_
  exact l_pairs_o hxe e4 hv hl l8 c20 hf ok (l + 1) 0 (by omega) (by omega)
def figF (c : Int32) : Int32 := if inF c 48 57 = true then c - 48 else if inF c 97 102 = true then c - 97 + 10 else -1
set_option maxHeartbeats 400000 in
set_option maxRecDepth 100000 in
theorem c_isTen (x : Int32) (h : xH) : XC mX2_isTenFigure 0 0 0 [.int x] (h) (fun r h' => r = some (.int (b2i (inF x 48 57))) ∧ h' = h) := by
  show XW mX2_isTenFigure 0 0 0 0 [some (.int x)] [] (h) _
  refine XW.iload_n 1 dX2_isTenFigure_0 rfl rfl ?_
  refine XW.bipush 3 dX2_isTenFigure_1 (v := 48) (by decide) rfl ?_
  refine XW.icmp_lt 16 6 dX2_isTenFigure_3 (by decide) rfl (fun c_3 => ?_) (fun c_3 => ?_)
  · have e0 := inF_f1 (b := 57) c_3
    refine XW.iconst 17 dX2_isTenFigure_16 (v := 0) (by decide) rfl ?_
    exact XW.iret dX2_isTenFigure_17 rfl (⟨pF e0, rfl⟩)
  · refine XW.iload_n 7 dX2_isTenFigure_6 rfl rfl ?_
    refine XW.bipush 9 dX2_isTenFigure_7 (v := 57) (by decide) rfl ?_
    refine XW.icmp_gt 16 12 dX2_isTenFigure_9 (by decide) rfl (fun c_9 => ?_) (fun c_9 => ?_)
    · have e0 := inF_f2 (a := 48) c_9
      refine XW.iconst 17 dX2_isTenFigure_16 (v := 0) (by decide) rfl ?_
      exact XW.iret dX2_isTenFigure_17 rfl (⟨pF e0, rfl⟩)
    · refine XW.iconst 13 dX2_isTenFigure_12 (v := 1) (by decide) rfl ?_
      refine XW.goto 17 dX2_isTenFigure_13 (by decide) ?_
      exact XW.iret dX2_isTenFigure_17 rfl (⟨pT (inF_t c_3 c_9), rfl⟩)
set_option maxHeartbeats 400000 in
set_option maxRecDepth 100000 in
theorem c_figureOf (x : Int32) (h : xH) : XC mX2_figureOf 1 0 0 [.int x] (h) (fun r h' => r = some (.int (figF x)) ∧ h' = h) := by
  show XW mX2_figureOf 1 0 0 0 [some (.int x)] [] (h) _
  refine XW.iload_n 1 dX2_figureOf_0 rfl rfl ?_
  refine XW.callS 4 (vs := [.int x]) (rest := []) (mcr := 0) (msr := 0) c2_59 dX2_figureOf_1 rfl (by decide) (Nat.le_of_ble_eq_true rfl) rfl rfl (Nat.le_of_ble_eq_true rfl) rfl (c_isTen _ _) (fun r h1 hq => ?_)
  obtain ⟨rfl, rfl⟩ := hq
  refine XW.if_eqB 12 7 dX2_figureOf_4 (by decide) rfl (fun c_4 => ?_) (fun c_4 => ?_)
  · refine XW.iload_n 13 dX2_figureOf_12 rfl rfl ?_
    refine XW.bipush 15 dX2_figureOf_13 (v := 97) (by decide) rfl ?_
    refine XW.icmp_lt 34 18 dX2_figureOf_15 (by decide) rfl (fun c_15 => ?_) (fun c_15 => ?_)
    · have e0 := inF_f1 (b := 102) c_15
      refine XW.iconst 35 dX2_figureOf_34 (v := -1) (by decide) rfl ?_
      exact XW.iret dX2_figureOf_35 rfl (⟨by unfold figF; rw [if_neg (by rw [c_4]; decide), if_neg (by rw [e0]; decide)], rfl⟩)
    · refine XW.iload_n 19 dX2_figureOf_18 rfl rfl ?_
      refine XW.bipush 21 dX2_figureOf_19 (v := 102) (by decide) rfl ?_
      refine XW.icmp_gt 34 24 dX2_figureOf_21 (by decide) rfl (fun c_21 => ?_) (fun c_21 => ?_)
      · have e0 := inF_f2 (a := 97) c_21
        refine XW.iconst 35 dX2_figureOf_34 (v := -1) (by decide) rfl ?_
        exact XW.iret dX2_figureOf_35 rfl (⟨by unfold figF; rw [if_neg (by rw [c_4]; decide), if_neg (by rw [e0]; decide)], rfl⟩)
      · refine XW.iload_n 25 dX2_figureOf_24 rfl rfl ?_
        refine XW.bipush 27 dX2_figureOf_25 (v := 97) (by decide) rfl ?_
        refine XW.isub 28 dX2_figureOf_27 rfl ?_
        refine XW.bipush 30 dX2_figureOf_28 (v := 10) (by decide) rfl ?_
        refine XW.iadd 31 dX2_figureOf_30 rfl ?_
        refine XW.goto 35 dX2_figureOf_31 (by decide) ?_
        exact XW.iret dX2_figureOf_35 rfl (⟨by unfold figF; rw [if_neg (by rw [c_4]; decide), if_pos (inF_t c_15 c_21)], rfl⟩)
  · refine XW.iload_n 8 dX2_figureOf_7 rfl rfl ?_
    refine XW.bipush 10 dX2_figureOf_8 (v := 48) (by decide) rfl ?_
    refine XW.isub 11 dX2_figureOf_10 rfl ?_
    exact XW.iret dX2_figureOf_11 rfl (⟨by unfold figF; rw [if_pos c_4], rfl⟩)
