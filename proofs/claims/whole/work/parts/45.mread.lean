/-! The reference: what it reads -/
def mR (N : Nat → Int32) : Nat → Int32 := fun k => N (1 + k)
def mE (N : Nat → Int32) : Nat → Int32 := fun k => N (62 + k)
def mL (N : Nat → Int32) : Nat → Int32 := fun k => N (114 + k)
def mG (N : Nat → Int32) : Nat → Int32 := fun k => N (117 + k)
def mP (N : Nat → Int32) : Nat → Int32 := fun k => N (121 + k)
/-- the reference's row of numbers is as told -/
def MI (N : Nat → Int32) (c l : Nat) : Prop := N 0 = nI c ∧ c ≤ 20 ∧ N 120 = nI l ∧ l ≤ 8 ∧ okS (mR N) (mG N) (mE N) (mL N) ∧ rowOK (mP N) l c ∧ rowDI (mP N) l ∧ ∀ j, j < 32 → bt (N 61) j = true → j < c
/-- the same for its colours alone: what floats need -/
def rmZ (Z : xZ) (w : Nat) : xZ := sA Z 57 (upd (Z.2.1 57) w (Z.2.1 57 w + 1))
theorem isC_in {x : Int32} {c : Nat} (h : c ≤ 20) : inF x 0 (nI c - 1) = isC x (nI c) := by
  have h1 : ∀ c, c ≤ 20 → (nI c - 1).toInt = (c : Int) - 1 ∧ (nI c).toInt = (c : Int) := by decide +kernel
  obtain ⟨h1, h2⟩ := h1 c h
  unfold inF isC
  have e1 : decide ((0 : Int32) ≤ x) = !decide (x < 0) := by
    by_cases q : x < 0
    · rw [decide_eq_true q, decide_eq_false (Int32.not_le.mpr q)]; rfl
    · rw [decide_eq_false q, decide_eq_true (Int32.not_lt.mp q)]; rfl
  have e2 : decide (x ≤ nI c - 1) = !decide (nI c ≤ x) := by
    by_cases q : nI c ≤ x
    · rw [decide_eq_true q, decide_eq_false]; rfl
      intro r
      rw [Int32.le_iff_toInt_le] at q r
      omega
    · rw [decide_eq_false q, decide_eq_true]; rfl
      rw [Int32.le_iff_toInt_le] at q ⊢
      omega
  rw [e1, e2]
set_option maxHeartbeats 400000 in
set_option maxRecDepth 100000 in
theorem k_bad {Z : xZ} : XC mX4_bad 0 0 0 [.ref 53] (HP Z) (fun r h' => r = some (.int (-2)) ∧ h' = HP (rmZ Z 0)) := by
  show XW mX4_bad 0 0 0 0 [some (.ref 53)] [] (HP Z) _
  refine XW.aload_n 1 dX4_bad_0 rfl rfl ?_
  refine XW.getf 4 (v := .ref 57) f4_19 dX4_bad_1 rfl rfl rfl ?_
  refine XW.iconst 5 dX4_bad_4 (v := 0) (by decide) rfl ?_
  refine XW.dup2 6 dX4_bad_5 rfl rfl rfl ?_
  refine XW.iald 7 0 dX4_bad_6 rfl rfl (by omega) (by decide) rfl ?_
  refine XW.iconst 8 dX4_bad_7 (v := 1) (by decide) rfl ?_
  refine XW.iadd 9 dX4_bad_8 rfl ?_
  refine XW.iast 10 (h' := HP (sA Z 57 (upd (Z.2.1 57) 0 ((Z.2.1 57 0) + 1)))) 0 dX4_bad_9 rfl rfl (by omega) (by decide) rfl rfl ?_
  refine XW.bipush 12 dX4_bad_10 (v := -2) (by decide) rfl ?_
  exact XW.iret dX4_bad_12 rfl (⟨rfl, rfl⟩)
set_option maxHeartbeats 400000 in
set_option maxRecDepth 100000 in
theorem k_no {Z : xZ} : XC mX4_no 0 0 0 [.ref 53] (HP Z) (fun r h' => r = some (.int (-3)) ∧ h' = HP (rmZ Z 1)) := by
  show XW mX4_no 0 0 0 0 [some (.ref 53)] [] (HP Z) _
  refine XW.aload_n 1 dX4_no_0 rfl rfl ?_
  refine XW.getf 4 (v := .ref 57) f4_19 dX4_no_1 rfl rfl rfl ?_
  refine XW.iconst 5 dX4_no_4 (v := 1) (by decide) rfl ?_
  refine XW.dup2 6 dX4_no_5 rfl rfl rfl ?_
  refine XW.iald 7 1 dX4_no_6 rfl rfl (by omega) (by decide) rfl ?_
  refine XW.iconst 8 dX4_no_7 (v := 1) (by decide) rfl ?_
  refine XW.iadd 9 dX4_no_8 rfl ?_
  refine XW.iast 10 (h' := HP (sA Z 57 (upd (Z.2.1 57) 1 ((Z.2.1 57 1) + 1)))) 1 dX4_no_9 rfl rfl (by omega) (by decide) rfl rfl ?_
  refine XW.bipush 12 dX4_no_10 (v := -3) (by decide) rfl ?_
  exact XW.iret dX4_no_12 rfl (⟨rfl, rfl⟩)
set_option maxHeartbeats 400000 in
set_option maxRecDepth 100000 in
theorem k_full {Z : xZ} : XC mX4_full 0 0 0 [.ref 53] (HP Z) (fun r h' => r = some (.int (-4)) ∧ h' = HP (rmZ Z 2)) := by
  show XW mX4_full 0 0 0 0 [some (.ref 53)] [] (HP Z) _
  refine XW.aload_n 1 dX4_full_0 rfl rfl ?_
  refine XW.getf 4 (v := .ref 57) f4_19 dX4_full_1 rfl rfl rfl ?_
  refine XW.iconst 5 dX4_full_4 (v := 2) (by decide) rfl ?_
  refine XW.dup2 6 dX4_full_5 rfl rfl rfl ?_
  refine XW.iald 7 2 dX4_full_6 rfl rfl (by omega) (by decide) rfl ?_
  refine XW.iconst 8 dX4_full_7 (v := 1) (by decide) rfl ?_
  refine XW.iadd 9 dX4_full_8 rfl ?_
  refine XW.iast 10 (h' := HP (sA Z 57 (upd (Z.2.1 57) 2 ((Z.2.1 57 2) + 1)))) 2 dX4_full_9 rfl rfl (by omega) (by decide) rfl rfl ?_
  refine XW.bipush 12 dX4_full_10 (v := -4) (by decide) rfl ?_
  exact XW.iret dX4_full_12 rfl (⟨rfl, rfl⟩)
set_option maxHeartbeats 400000 in
set_option maxRecDepth 100000 in
theorem k_isColour {Z : xZ} {c l : Nat} (mi : MI (Z.2.1 54) c l) (x : Int32) : XC mX4_isColour 1 0 0 [.ref 53, .int x] (HP Z) (fun r h' => r = some (.int (b2i (isC x (Z.2.1 54 0)))) ∧ h' = HP Z) := by
  show XW mX4_isColour 1 0 0 0 [some (.ref 53), some (.int x)] [] (HP Z) _
  obtain ⟨hc, c20, hl, l8, ok, hf, hdi, hfb⟩ := id mi
  refine XW.iload_n 1 dX4_isColour_0 rfl rfl ?_
  refine XW.iconst 2 dX4_isColour_1 (v := 0) (by decide) rfl ?_
  refine XW.aload_n 3 dX4_isColour_2 rfl rfl ?_
  refine XW.getf 6 (v := .ref 54) f4_7 dX4_isColour_3 rfl rfl rfl ?_
  refine XW.iconst 7 dX4_isColour_6 (v := 0) (by decide) rfl ?_
  refine XW.iald 8 0 dX4_isColour_7 rfl rfl (by omega) (by decide) rfl ?_
  refine XW.iconst 9 dX4_isColour_8 (v := 1) (by decide) rfl ?_
  refine XW.isub 10 dX4_isColour_9 rfl ?_
  refine XW.callS 13 (vs := [.int x, .int 0, .int ((Z.2.1 54 0) - 1)]) (rest := []) (mcr := 0) (msr := 0) c4_49 dX4_isColour_10 rfl (by decide) (Nat.le_of_ble_eq_true rfl) rfl rfl (Nat.le_of_ble_eq_true rfl) rfl (c_in_ _ _ _ _) (fun r h1 hq => ?_)
  obtain ⟨rfl, rfl⟩ := hq
  exact XW.iret dX4_isColour_13 (xnar_b _) (⟨by rw [hc, isC_in c20], rfl⟩)
set_option maxHeartbeats 400000 in
set_option maxRecDepth 100000 in
theorem k_colourAt {h : xH} (x : Int32) : XC mX4_colourAt 0 0 0 [.ref 53, .int x] (h) (fun r h' => r = some (.int (1 + 3 * x)) ∧ h' = h) := by
  show XW mX4_colourAt 0 0 0 0 [some (.ref 53), some (.int x)] [] (h) _
  refine XW.iconst 1 dX4_colourAt_0 (v := 1) (by decide) rfl ?_
  refine XW.iconst 2 dX4_colourAt_1 (v := 3) (by decide) rfl ?_
  refine XW.iload_n 3 dX4_colourAt_2 rfl rfl ?_
  refine XW.imul 4 dX4_colourAt_3 rfl ?_
  refine XW.iadd 5 dX4_colourAt_4 rfl ?_
  exact XW.iret dX4_colourAt_5 rfl (⟨rfl, rfl⟩)
set_option maxHeartbeats 400000 in
set_option maxRecDepth 100000 in
theorem k_shineAt {Z : xZ} {x : Int32} {k : Nat} (hx : x = nI k) (hk : k + 2 < 129) (hL : lightN (Z.2.1 54 k) (Z.2.1 54 (k + 1)) (Z.2.1 54 (k + 2))) : XC mX4_shineAt 0 0 0 [.ref 53, .int x] (HP Z) (fun r h' => r = some (.float (lightC (Z.2.1 54) k)) ∧ h' = HP Z) := by
  show XW mX4_shineAt 0 0 0 0 [some (.ref 53), some (.int x)] [] (HP Z) _
  obtain ⟨e1, e2, e3, e4, e5⟩ := hL
  refine XW.ldcf 2 k4_101 dX4_shineAt_0 rfl ?_
  refine XW.aload_n 3 dX4_shineAt_2 rfl rfl ?_
  refine XW.getf 6 (v := .ref 54) f4_7 dX4_shineAt_3 rfl rfl rfl ?_
  refine XW.iload_n 7 dX4_shineAt_6 rfl rfl ?_
  refine XW.iald 8 k dX4_shineAt_7 rfl hx (by omega) (by decide) rfl ?_
  refine XW.i2f 9 dX4_shineAt_8 rfl ?_
  refine XW.fmul 10 dX4_shineAt_9 (by assumption) rfl ?_
  refine XW.ldcf 12 k4_102 dX4_shineAt_10 rfl ?_
  refine XW.aload_n 13 dX4_shineAt_12 rfl rfl ?_
  refine XW.getf 16 (v := .ref 54) f4_7 dX4_shineAt_13 rfl rfl rfl ?_
  refine XW.iload_n 17 dX4_shineAt_16 rfl rfl ?_
  refine XW.iconst 18 dX4_shineAt_17 (v := 1) (by decide) rfl ?_
  refine XW.iadd 19 dX4_shineAt_18 rfl ?_
  refine XW.iald 20 (k + 1) dX4_shineAt_19 rfl (na hx rfl) (by omega) (by decide) rfl ?_
  refine XW.i2f 21 dX4_shineAt_20 rfl ?_
  refine XW.fmul 22 dX4_shineAt_21 (by assumption) rfl ?_
  refine XW.fadd 23 dX4_shineAt_22 (by assumption) rfl ?_
  refine XW.ldcf 25 k4_103 dX4_shineAt_23 rfl ?_
  refine XW.aload_n 26 dX4_shineAt_25 rfl rfl ?_
  refine XW.getf 29 (v := .ref 54) f4_7 dX4_shineAt_26 rfl rfl rfl ?_
  refine XW.iload_n 30 dX4_shineAt_29 rfl rfl ?_
  refine XW.iconst 31 dX4_shineAt_30 (v := 2) (by decide) rfl ?_
  refine XW.iadd 32 dX4_shineAt_31 rfl ?_
  refine XW.iald 33 (k + 2) dX4_shineAt_32 rfl (na hx rfl) (by omega) (by decide) rfl ?_
  refine XW.i2f 34 dX4_shineAt_33 rfl ?_
  refine XW.fmul 35 dX4_shineAt_34 (by assumption) rfl ?_
  refine XW.fadd 36 dX4_shineAt_35 e5 rfl ?_
  exact XW.fret dX4_shineAt_36 trivial (⟨rfl, rfl⟩)
set_option maxHeartbeats 400000 in
set_option maxRecDepth 100000 in
theorem k_isFitting {Z : xZ} {c l : Nat} (mi : MI (Z.2.1 54) c l) {x : Int32} {i : Nat} (hx : x = nI i) (hi : i < 20) : XC mX4_isFitting 1 0 0 [.ref 53, .int x] (HP Z) (fun r h' => r = some (.int (b2i (fitC (mR (Z.2.1 54)) (mG (Z.2.1 54)) (mL (Z.2.1 54)) i))) ∧ h' = HP Z) := by
  show XW mX4_isFitting 1 0 0 0 [some (.ref 53), some (.int x), none, none] [] (HP Z) _
  obtain ⟨hc, c20, hl, l8, ok, hf, hdi, hfb⟩ := id mi
  refine XW.aload_n 1 dX4_isFitting_0 rfl rfl ?_
  refine XW.aload_n 2 dX4_isFitting_1 rfl rfl ?_
  refine XW.iload_n 3 dX4_isFitting_2 rfl rfl ?_
  refine XW.callV 6 (vs := [.int x]) (rest := [.ref 53]) (mcr := 0) (msr := 0) c4_57 dX4_isFitting_3 rfl rfl (by decide) (Nat.le_of_ble_eq_true rfl) rfl rfl (Nat.le_of_ble_eq_true rfl) rfl (k_colourAt _) (fun r h1 hq => ?_)
  obtain ⟨rfl, rfl⟩ := hq
  refine XW.callV 9 (vs := [.int (1 + 3 * x)]) (rest := []) (mcr := 0) (msr := 0) c4_104 dX4_isFitting_6 rfl rfl (by decide) (Nat.le_of_ble_eq_true rfl) rfl rfl (Nat.le_of_ble_eq_true rfl) rfl (k_shineAt (k := 1 + 3 * i) (na (m := 1) rfl (nm (m := 3) rfl hx)) (by omega) (ok_light ok (by omega)).1) (fun r h1 hq => ?_)
  obtain ⟨rfl, rfl⟩ := hq
  refine XW.eqs (st' := [.float (lightC (mR (Z.2.1 54)) (3 * i))]) rfl rfl rfl ?_
  refine XW.fstore_n 10 (L' := [some (.ref 53), some (.int x), some (.float (lightC (mR (Z.2.1 54)) (3 * i))), none]) dX4_isFitting_9 (by decide) rfl rfl rfl ?_
  refine XW.fload_n 11 dX4_isFitting_10 rfl rfl ?_
  refine XW.aload_n 12 dX4_isFitting_11 rfl rfl ?_
  refine XW.bipush 14 dX4_isFitting_12 (v := 117) (by decide) rfl ?_
  refine XW.callV 17 (vs := [.int 117]) (rest := [.float (lightC (mR (Z.2.1 54)) (3 * i))]) (mcr := 0) (msr := 0) c4_104 dX4_isFitting_14 rfl rfl (by decide) (Nat.le_of_ble_eq_true rfl) rfl rfl (Nat.le_of_ble_eq_true rfl) rfl (k_shineAt (k := 117) rfl (by omega) (ok_ground ok).1) (fun r h1 hq => ?_)
  obtain ⟨rfl, rfl⟩ := hq
  refine XW.eqs (st' := [.float (lightC (mG (Z.2.1 54)) 0), .float (lightC (mR (Z.2.1 54)) (3 * i))]) rfl rfl rfl ?_
  refine XW.fsub 18 dX4_isFitting_17 (ok_off ok (by omega)) rfl ?_
  refine XW.fstore_n 19 (L' := [some (.ref 53), some (.int x), some (.float (lightC (mR (Z.2.1 54)) (3 * i))), some (.float (FP.fsub (lightC (mR (Z.2.1 54)) (3 * i)) (lightC (mG (Z.2.1 54)) 0)))]) dX4_isFitting_18 (by decide) rfl rfl rfl ?_
  refine XW.fload_n 20 dX4_isFitting_19 rfl rfl ?_
  refine XW.fconst0 21 dX4_isFitting_20 rfl ?_
  refine XW.fcmp 22 dX4_isFitting_21 rfl ?_
  refine XW.if_ge 30 25 dX4_isFitting_22 (by decide) rfl (fun c_22 => ?_) (fun c_22 => ?_)
  · have e1 := absF_t c_22
    refine XW.fload_n 31 dX4_isFitting_30 rfl rfl ?_
    refine XW.fstore_n 32 (L' := [some (.ref 53), some (.int x), some (.float (lightC (mR (Z.2.1 54)) (3 * i))), some (.float (FP.fsub (lightC (mR (Z.2.1 54)) (3 * i)) (lightC (mG (Z.2.1 54)) 0)))]) dX4_isFitting_31 (by decide) rfl rfl rfl ?_
    refine XW.fload_n 33 dX4_isFitting_32 rfl rfl ?_
    refine XW.aload_n 34 dX4_isFitting_33 rfl rfl ?_
    refine XW.getf 37 (v := .ref 54) f4_7 dX4_isFitting_34 rfl rfl rfl ?_
    refine XW.bipush 39 dX4_isFitting_37 (v := 114) (by decide) rfl ?_
    refine XW.iald 40 114 dX4_isFitting_39 rfl rfl (by omega) (by decide) rfl ?_
    refine XW.i2f 41 dX4_isFitting_40 rfl ?_
    refine XW.fcmpU 42 dX4_isFitting_41 ((ok_light ok (by omega)).2) (ok_lim ok (k := 0) (by omega)) rfl ?_
    refine XW.if_ltU 75 45 dX4_isFitting_42 (by decide) rfl (fun c_42 => ?_) (fun c_42 => ?_)
    · have e0 := fitC_1 (gr := (mG (Z.2.1 54))) (lm := (mL (Z.2.1 54))) c_42
      refine XW.iconst 76 dX4_isFitting_75 (v := 0) (by decide) rfl ?_
      exact XW.iret dX4_isFitting_76 rfl (⟨pF e0, rfl⟩)
    · refine XW.fload_n 46 dX4_isFitting_45 rfl rfl ?_
      refine XW.aload_n 47 dX4_isFitting_46 rfl rfl ?_
      refine XW.getf 50 (v := .ref 54) f4_7 dX4_isFitting_47 rfl rfl rfl ?_
      refine XW.bipush 52 dX4_isFitting_50 (v := 115) (by decide) rfl ?_
      refine XW.iald 53 115 dX4_isFitting_52 rfl rfl (by omega) (by decide) rfl ?_
      refine XW.i2f 54 dX4_isFitting_53 rfl ?_
      refine XW.fcmpU 55 dX4_isFitting_54 ((ok_light ok (by omega)).2) (ok_lim ok (k := 1) (by omega)) rfl ?_
      refine XW.if_gtU 75 58 dX4_isFitting_55 (by decide) rfl (fun c_55 => ?_) (fun c_55 => ?_)
      · have e0 := fitC_2 (gr := (mG (Z.2.1 54))) (lm := (mL (Z.2.1 54))) c_55
        refine XW.iconst 76 dX4_isFitting_75 (v := 0) (by decide) rfl ?_
        exact XW.iret dX4_isFitting_76 rfl (⟨pF e0, rfl⟩)
      · refine XW.fload_n 59 dX4_isFitting_58 rfl rfl ?_
        refine XW.aload_n 60 dX4_isFitting_59 rfl rfl ?_
        refine XW.getf 63 (v := .ref 54) f4_7 dX4_isFitting_60 rfl rfl rfl ?_
        refine XW.bipush 65 dX4_isFitting_63 (v := 116) (by decide) rfl ?_
        refine XW.iald 66 116 dX4_isFitting_65 rfl rfl (by omega) (by decide) rfl ?_
        refine XW.i2f 67 dX4_isFitting_66 rfl ?_
        refine XW.fcmp 68 dX4_isFitting_67 rfl ?_
        refine XW.if_lt 75 71 dX4_isFitting_68 (by decide) rfl (fun c_68 => ?_) (fun c_68 => ?_)
        · have e0 := fitC_3 (lm := (mL (Z.2.1 54))) c_42 c_55 e1 c_68
          refine XW.iconst 76 dX4_isFitting_75 (v := 0) (by decide) rfl ?_
          exact XW.iret dX4_isFitting_76 rfl (⟨pF e0, rfl⟩)
        · refine XW.iconst 72 dX4_isFitting_71 (v := 1) (by decide) rfl ?_
          refine XW.goto 76 dX4_isFitting_72 (by decide) ?_
          exact XW.iret dX4_isFitting_76 rfl (⟨pT (fitC_4 (lm := (mL (Z.2.1 54))) c_42 c_55 e1 c_68), rfl⟩)
  · have e1 := absF_f c_22
    refine XW.fload_n 26 dX4_isFitting_25 rfl rfl ?_
    refine XW.fneg 27 dX4_isFitting_26 rfl ?_
    refine XW.goto 31 dX4_isFitting_27 (by decide) ?_
    refine XW.fstore_n 32 (L' := [some (.ref 53), some (.int x), some (.float (lightC (mR (Z.2.1 54)) (3 * i))), some (.float (FP.fneg (FP.fsub (lightC (mR (Z.2.1 54)) (3 * i)) (lightC (mG (Z.2.1 54)) 0))))]) dX4_isFitting_31 (by decide) rfl rfl rfl ?_
    refine XW.fload_n 33 dX4_isFitting_32 rfl rfl ?_
    refine XW.aload_n 34 dX4_isFitting_33 rfl rfl ?_
    refine XW.getf 37 (v := .ref 54) f4_7 dX4_isFitting_34 rfl rfl rfl ?_
    refine XW.bipush 39 dX4_isFitting_37 (v := 114) (by decide) rfl ?_
    refine XW.iald 40 114 dX4_isFitting_39 rfl rfl (by omega) (by decide) rfl ?_
    refine XW.i2f 41 dX4_isFitting_40 rfl ?_
    refine XW.fcmpU 42 dX4_isFitting_41 ((ok_light ok (by omega)).2) (ok_lim ok (k := 0) (by omega)) rfl ?_
    refine XW.if_ltU 75 45 dX4_isFitting_42 (by decide) rfl (fun c_42 => ?_) (fun c_42 => ?_)
    · have e0 := fitC_1 (gr := (mG (Z.2.1 54))) (lm := (mL (Z.2.1 54))) c_42
      refine XW.iconst 76 dX4_isFitting_75 (v := 0) (by decide) rfl ?_
      exact XW.iret dX4_isFitting_76 rfl (⟨pF e0, rfl⟩)
    · refine XW.fload_n 46 dX4_isFitting_45 rfl rfl ?_
      refine XW.aload_n 47 dX4_isFitting_46 rfl rfl ?_
      refine XW.getf 50 (v := .ref 54) f4_7 dX4_isFitting_47 rfl rfl rfl ?_
      refine XW.bipush 52 dX4_isFitting_50 (v := 115) (by decide) rfl ?_
      refine XW.iald 53 115 dX4_isFitting_52 rfl rfl (by omega) (by decide) rfl ?_
      refine XW.i2f 54 dX4_isFitting_53 rfl ?_
      refine XW.fcmpU 55 dX4_isFitting_54 ((ok_light ok (by omega)).2) (ok_lim ok (k := 1) (by omega)) rfl ?_
      refine XW.if_gtU 75 58 dX4_isFitting_55 (by decide) rfl (fun c_55 => ?_) (fun c_55 => ?_)
      · have e0 := fitC_2 (gr := (mG (Z.2.1 54))) (lm := (mL (Z.2.1 54))) c_55
        refine XW.iconst 76 dX4_isFitting_75 (v := 0) (by decide) rfl ?_
        exact XW.iret dX4_isFitting_76 rfl (⟨pF e0, rfl⟩)
      · refine XW.fload_n 59 dX4_isFitting_58 rfl rfl ?_
        refine XW.aload_n 60 dX4_isFitting_59 rfl rfl ?_
        refine XW.getf 63 (v := .ref 54) f4_7 dX4_isFitting_60 rfl rfl rfl ?_
        refine XW.bipush 65 dX4_isFitting_63 (v := 116) (by decide) rfl ?_
        refine XW.iald 66 116 dX4_isFitting_65 rfl rfl (by omega) (by decide) rfl ?_
        refine XW.i2f 67 dX4_isFitting_66 rfl ?_
        refine XW.fcmp 68 dX4_isFitting_67 rfl ?_
        refine XW.if_lt 75 71 dX4_isFitting_68 (by decide) rfl (fun c_68 => ?_) (fun c_68 => ?_)
        · have e0 := fitC_3 (lm := (mL (Z.2.1 54))) c_42 c_55 e1 c_68
          refine XW.iconst 76 dX4_isFitting_75 (v := 0) (by decide) rfl ?_
          exact XW.iret dX4_isFitting_76 rfl (⟨pF e0, rfl⟩)
        · refine XW.iconst 72 dX4_isFitting_71 (v := 1) (by decide) rfl ?_
          refine XW.goto 76 dX4_isFitting_72 (by decide) ?_
          exact XW.iret dX4_isFitting_76 rfl (⟨pT (fitC_4 (lm := (mL (Z.2.1 54))) c_42 c_55 e1 c_68), rfl⟩)
/-- the last place of x among the first k -/
def plL (row : Nat → Int32) (x : Int32) : Nat → Int32 := itF (fun p a => if row p = x then nI p else a) (-1)
theorem plL_t {row : Nat → Int32} {x : Int32} {k : Nat} (h : row k = x) : plL row x (k + 1) = nI k := if_pos h
theorem plL_f {row : Nat → Int32} {x : Int32} {k : Nat} (h : ¬ row k = x) : plL row x (k + 1) = plL row x k := if_neg h
theorem plL_n {row : Nat → Int32} {x : Int32} : ∀ k, (∀ p, p < k → ¬ row p = x) → plL row x k = -1
  | 0, _ => rfl
  | k + 1, h => by rw [plL_f (h k (by omega)), plL_n k (fun p hp => h p (by omega))]
theorem plL_at {row : Nat → Int32} {x : Int32} {p : Nat} (hp : row p = x) : ∀ k, p < k → (∀ q, q < k → row q = x → q = p) → plL row x k = nI p
  | 0, h, _ => absurd h (by omega)
  | k + 1, h, hu => by
    by_cases e : row k = x
    · rw [plL_t e, hu k (by omega) e]
    · rw [plL_f e, plL_at hp k (by have : k ≠ p := fun q => e (q ▸ hp); omega) (fun q hq => hu q (by omega))]
theorem plF_n {row : Nat → Int32} {x : Int32} : ∀ m k, (∀ p, k ≤ p → p < k + m → ¬ row p = x) → plF row x m k = -1
  | 0, _, _ => rfl
  | m + 1, k, h => by
    show (if _ then _ else _) = _
    rw [if_neg (h k (by omega) (by omega)), plF_n m (k + 1) (fun p h1 h2 => h p (by omega) (by omega))]
theorem plF_at {row : Nat → Int32} {x : Int32} {p : Nat} (hp : row p = x) : ∀ m k, k ≤ p → p < k + m → (∀ q, k ≤ q → q < k + m → row q = x → q = p) → plF row x m k = nI p
  | 0, k, h, h2, _ => absurd h2 (by omega)
  | m + 1, k, h, h2, hu => by
    show (if _ then _ else _) = _
    by_cases e : row k = x
    · rw [if_pos e, hu k (by omega) (by omega) e]
    · rw [if_neg e, plF_at hp m (k + 1) (by have : k ≠ p := fun q => e (q ▸ hp); omega) (by omega) (fun q h3 h4 => hu q (by omega) (by omega))]
theorem pl_eq {row : Nat → Int32} {x : Int32} {l c : Nat} (hf : rowOK row l c) (hd : rowDI row l) : plL row x l = plF row x l 0 := by
  by_cases h : ∃ p, p < l ∧ row p = x
  · obtain ⟨p, hp, e⟩ := h
    have hu : ∀ q, q < l → row q = x → q = p := fun q hq e2 => by
      have e3 : rv row q = rv row p := by unfold rv; rw [e, e2]
      rcases Nat.lt_trichotomy q p with g | g | g
      · exact absurd e3 (hd q p g hp)
      · exact g
      · exact absurd e3.symm (hd p q g hq)
    rw [plL_at e l hp hu, plF_at e l 0 (by omega) (by omega) (fun q _ h2 => hu q (by omega))]
  · rw [plL_n l (fun p hp e => h ⟨p, hp, e⟩), plF_n l 0 (fun p _ hp e => h ⟨p, by omega, e⟩)]
set_option maxHeartbeats 400000 in
set_option maxRecDepth 100000 in
theorem l_kplaceOf {Z : xZ} {c l : Nat} (mi : MI (Z.2.1 54) c l) {x : Int32} : ∀ (n : Nat) (k : Nat), k ≤ l → l < k + n → XW mX4_placeOf 0 0 0 4 [some (.ref 53), some (.int x), some (.int (plL (mP (Z.2.1 54)) x k)), some (.int (nI k))] [] (HP Z) (fun r h' => r = some (.int (plF (mP (Z.2.1 54)) x l 0)) ∧ h' = HP Z) := by
  intro n
  induction n with
  | zero => intro k g0 g1; omega
  | succ n ih =>
    intro k g0 g1
    obtain ⟨hc, c20, hl, l8, ok, hf, hdi, hfb⟩ := id mi
    refine XW.iload_n 5 dX4_placeOf_4 rfl rfl ?_
    refine XW.aload_n 6 dX4_placeOf_5 rfl rfl ?_
    refine XW.getf 9 (v := .ref 54) f4_7 dX4_placeOf_6 rfl rfl rfl ?_
    refine XW.bipush 11 dX4_placeOf_9 (v := 120) (by decide) rfl ?_
    refine XW.iald 12 120 dX4_placeOf_11 rfl rfl (by omega) (by decide) rfl ?_
    refine XW.icmp_geN 40 15 k l dX4_placeOf_12 (by decide) rfl rfl hl (by omega) (by omega) (fun c_12 => ?_) (fun c_12 => ?_)
    · refine XW.iload_n 41 dX4_placeOf_40 rfl rfl ?_
      exact XW.iret dX4_placeOf_41 rfl (⟨by rw [show k = l by omega, pl_eq hf hdi], rfl⟩)
    · refine XW.aload_n 16 dX4_placeOf_15 rfl rfl ?_
      refine XW.getf 19 (v := .ref 54) f4_7 dX4_placeOf_16 rfl rfl rfl ?_
      refine XW.bipush 21 dX4_placeOf_19 (v := 121) (by decide) rfl ?_
      refine XW.iload_n 22 dX4_placeOf_21 rfl rfl ?_
      refine XW.iadd 23 dX4_placeOf_22 rfl ?_
      refine XW.iald 24 (121 + k) dX4_placeOf_23 rfl (na rfl rfl) (by omega) (by decide) rfl ?_
      refine XW.iload_n 25 dX4_placeOf_24 rfl rfl ?_
      refine XW.icmp_ne 32 28 dX4_placeOf_25 (by decide) rfl (fun c_25 => ?_) (fun c_25 => ?_)
      · have e0 := plL_f (row := (mP (Z.2.1 54))) c_25
        refine XW.iload_n 33 dX4_placeOf_32 rfl rfl ?_
        refine XW.istore_n 34 (L' := [some (.ref 53), some (.int x), some (.int (plL (mP (Z.2.1 54)) x k)), some (.int (nI k))]) dX4_placeOf_33 (by decide) rfl rfl rfl ?_
        refine XW.iinc 37 (y := nI (k + 1)) (L' := [some (.ref 53), some (.int x), some (.int (plL (mP (Z.2.1 54)) x k)), some (.int (nI (k + 1)))]) dX4_placeOf_34 rfl (na rfl rfl) (by decide) rfl rfl rfl ?_
        refine XW.goto 4 dX4_placeOf_37 (by decide) ?_
        refine XW.eqs (L' := [some (.ref 53), some (.int x), some (.int (plL (mP (Z.2.1 54)) x (k + 1))), some (.int (nI (k + 1)))]) (by rw [e0]) rfl rfl ?_
        exact ih (k + 1) (by omega) (by omega)
      · have e0 := plL_t (row := (mP (Z.2.1 54))) c_25
        refine XW.iload_n 29 dX4_placeOf_28 rfl rfl ?_
        refine XW.goto 33 dX4_placeOf_29 (by decide) ?_
        refine XW.istore_n 34 (L' := [some (.ref 53), some (.int x), some (.int (nI k)), some (.int (nI k))]) dX4_placeOf_33 (by decide) rfl rfl rfl ?_
        refine XW.iinc 37 (y := nI (k + 1)) (L' := [some (.ref 53), some (.int x), some (.int (nI k)), some (.int (nI (k + 1)))]) dX4_placeOf_34 rfl (na rfl rfl) (by decide) rfl rfl rfl ?_
        refine XW.goto 4 dX4_placeOf_37 (by decide) ?_
        refine XW.eqs (L' := [some (.ref 53), some (.int x), some (.int (plL (mP (Z.2.1 54)) x (k + 1))), some (.int (nI (k + 1)))]) (by rw [e0]) rfl rfl ?_
        exact ih (k + 1) (by omega) (by omega)
set_option maxHeartbeats 400000 in
set_option maxRecDepth 100000 in
theorem k_placeOf {Z : xZ} {c l : Nat} (mi : MI (Z.2.1 54) c l) (x : Int32) : XC mX4_placeOf 0 0 0 [.ref 53, .int x] (HP Z) (fun r h' => r = some (.int (plF (mP (Z.2.1 54)) x l 0)) ∧ h' = HP Z) := by
  show XW mX4_placeOf 0 0 0 0 [some (.ref 53), some (.int x), none, none] [] (HP Z) _
  obtain ⟨hc, c20, hl, l8, ok, hf, hdi, hfb⟩ := id mi
  refine XW.iconst 1 dX4_placeOf_0 (v := -1) (by decide) rfl ?_
  refine XW.istore_n 2 (L' := [some (.ref 53), some (.int x), some (.int (-1)), none]) dX4_placeOf_1 (by decide) rfl rfl rfl ?_
  refine XW.iconst 3 dX4_placeOf_2 (v := 0) (by decide) rfl ?_
  refine XW.istore_n 4 (L' := [some (.ref 53), some (.int x), some (.int (-1)), some (.int 0)]) dX4_placeOf_3 (by decide) rfl rfl rfl ?_
  exact l_kplaceOf mi (l + 1) 0 (by omega) (by omega)
set_option maxHeartbeats 400000 in
set_option maxRecDepth 100000 in
theorem k_sight {Z : xZ} {c l : Nat} (mi : MI (Z.2.1 54) c l) {xe xi xk : Int32} {e i k : Nat} (he : xe = nI e) (hi : xi = nI i) (hk : xk = nI k) (e4 : e < 4) (i20 : i < 20) (k3 : k < 3) : XC mX4_sight 1 0 0 [.ref 53, .int xe, .int xi, .int xk] (HP Z) (fun r h' => r = some (.float (sawF (mE (Z.2.1 54)) (mR (Z.2.1 54)) e i k)) ∧ h' = HP Z) := by
  show XW mX4_sight 1 0 0 0 [some (.ref 53), some (.int xe), some (.int xi), some (.int xk), none, none, none, none, none] [] (HP Z) _
  obtain ⟨hc, c20, hl, l8, ok, hf, hdi, hfb⟩ := id mi
  obtain ⟨q1, q2, q3, q4, q5, q6, q7, q8⟩ := ok_seen ok e4 i20 k3
  refine XW.bipush 2 dX4_sight_0 (v := 62) (by decide) rfl ?_
  refine XW.bipush 4 dX4_sight_2 (v := 13) (by decide) rfl ?_
  refine XW.iload_n 5 dX4_sight_4 rfl rfl ?_
  refine XW.imul 6 dX4_sight_5 rfl ?_
  refine XW.iadd 7 dX4_sight_6 rfl ?_
  refine XW.iconst 8 dX4_sight_7 (v := 3) (by decide) rfl ?_
  refine XW.iload_n 9 dX4_sight_8 rfl rfl ?_
  refine XW.imul 10 dX4_sight_9 rfl ?_
  refine XW.iadd 11 dX4_sight_10 rfl ?_
  refine XW.istore 13 (L' := [some (.ref 53), some (.int xe), some (.int xi), some (.int xk), some (.int ((62 + (13 * xe)) + (3 * xk))), none, none, none, none]) dX4_sight_11 (by decide) rfl rfl rfl ?_
  refine XW.aload_n 14 dX4_sight_13 rfl rfl ?_
  refine XW.iload_n 15 dX4_sight_14 rfl rfl ?_
  refine XW.callV 18 (vs := [.int xi]) (rest := []) (mcr := 0) (msr := 0) c4_57 dX4_sight_15 rfl rfl (by decide) (Nat.le_of_ble_eq_true rfl) rfl rfl (Nat.le_of_ble_eq_true rfl) rfl (k_colourAt _) (fun r h1 hq => ?_)
  obtain ⟨rfl, rfl⟩ := hq
  refine XW.istore 20 (L' := [some (.ref 53), some (.int xe), some (.int xi), some (.int xk), some (.int ((62 + (13 * xe)) + (3 * xk))), some (.int (1 + 3 * xi)), none, none, none]) dX4_sight_18 (by decide) rfl rfl rfl ?_
  refine XW.aload_n 21 dX4_sight_20 rfl rfl ?_
  refine XW.getf 24 (v := .ref 54) f4_7 dX4_sight_21 rfl rfl rfl ?_
  refine XW.iload 26 dX4_sight_24 rfl rfl ?_
  refine XW.iald 27 (62 + (13 * e + 3 * k)) dX4_sight_26 rfl (nj (m := (62 + (13 * e)) + (3 * k)) (na (na rfl (nm rfl he)) (nm rfl hk)) (by omega)) (by omega) (by decide) rfl ?_
  refine XW.i2f 28 dX4_sight_27 rfl ?_
  refine XW.ldcf 30 k4_121 dX4_sight_28 rfl ?_
  refine XW.fdiv 31 dX4_sight_30 q1 rfl ?_
  refine XW.fstore 33 (L' := [some (.ref 53), some (.int xe), some (.int xi), some (.int xk), some (.int ((62 + (13 * xe)) + (3 * xk))), some (.int (1 + 3 * xi)), some (.float (FP.fdiv (FP.i2f (Z.2.1 54 (62 + (13 * e + 3 * k)))) 1120403456)), none, none]) dX4_sight_31 (by decide) rfl rfl rfl ?_
  refine XW.aload_n 34 dX4_sight_33 rfl rfl ?_
  refine XW.getf 37 (v := .ref 54) f4_7 dX4_sight_34 rfl rfl rfl ?_
  refine XW.iload 39 dX4_sight_37 rfl rfl ?_
  refine XW.iconst 40 dX4_sight_39 (v := 1) (by decide) rfl ?_
  refine XW.iadd 41 dX4_sight_40 rfl ?_
  refine XW.iald 42 (62 + (13 * e + 3 * k + 1)) dX4_sight_41 rfl (nj (m := ((62 + (13 * e)) + (3 * k)) + 1) (na (na (na rfl (nm rfl he)) (nm rfl hk)) rfl) (by omega)) (by omega) (by decide) rfl ?_
  refine XW.i2f 43 dX4_sight_42 rfl ?_
  refine XW.ldcf 45 k4_121 dX4_sight_43 rfl ?_
  refine XW.fdiv 46 dX4_sight_45 q2 rfl ?_
  refine XW.fstore 48 (L' := [some (.ref 53), some (.int xe), some (.int xi), some (.int xk), some (.int ((62 + (13 * xe)) + (3 * xk))), some (.int (1 + 3 * xi)), some (.float (FP.fdiv (FP.i2f (Z.2.1 54 (62 + (13 * e + 3 * k)))) 1120403456)), some (.float (FP.fdiv (FP.i2f (Z.2.1 54 (62 + (13 * e + 3 * k + 1)))) 1120403456)), none]) dX4_sight_46 (by decide) rfl rfl rfl ?_
  refine XW.aload_n 49 dX4_sight_48 rfl rfl ?_
  refine XW.getf 52 (v := .ref 54) f4_7 dX4_sight_49 rfl rfl rfl ?_
  refine XW.iload 54 dX4_sight_52 rfl rfl ?_
  refine XW.iconst 55 dX4_sight_54 (v := 2) (by decide) rfl ?_
  refine XW.iadd 56 dX4_sight_55 rfl ?_
  refine XW.iald 57 (62 + (13 * e + 3 * k + 2)) dX4_sight_56 rfl (nj (m := ((62 + (13 * e)) + (3 * k)) + 2) (na (na (na rfl (nm rfl he)) (nm rfl hk)) rfl) (by omega)) (by omega) (by decide) rfl ?_
  refine XW.i2f 58 dX4_sight_57 rfl ?_
  refine XW.ldcf 60 k4_121 dX4_sight_58 rfl ?_
  refine XW.fdiv 61 dX4_sight_60 q3 rfl ?_
  refine XW.fstore 63 (L' := [some (.ref 53), some (.int xe), some (.int xi), some (.int xk), some (.int ((62 + (13 * xe)) + (3 * xk))), some (.int (1 + 3 * xi)), some (.float (FP.fdiv (FP.i2f (Z.2.1 54 (62 + (13 * e + 3 * k)))) 1120403456)), some (.float (FP.fdiv (FP.i2f (Z.2.1 54 (62 + (13 * e + 3 * k + 1)))) 1120403456)), some (.float (FP.fdiv (FP.i2f (Z.2.1 54 (62 + (13 * e + 3 * k + 2)))) 1120403456))]) dX4_sight_61 (by decide) rfl rfl rfl ?_
  refine XW.fload 65 dX4_sight_63 rfl rfl ?_
  refine XW.aload_n 66 dX4_sight_65 rfl rfl ?_
  refine XW.getf 69 (v := .ref 54) f4_7 dX4_sight_66 rfl rfl rfl ?_
  refine XW.iload 71 dX4_sight_69 rfl rfl ?_
  refine XW.iald 72 (1 + 3 * i) dX4_sight_71 rfl (na (m := 1) rfl (nm (m := 3) rfl hi)) (by omega) (by decide) rfl ?_
  refine XW.i2f 73 dX4_sight_72 rfl ?_
  refine XW.fmul 74 dX4_sight_73 q4 rfl ?_
  refine XW.fload 76 dX4_sight_74 rfl rfl ?_
  refine XW.aload_n 77 dX4_sight_76 rfl rfl ?_
  refine XW.getf 80 (v := .ref 54) f4_7 dX4_sight_77 rfl rfl rfl ?_
  refine XW.iload 82 dX4_sight_80 rfl rfl ?_
  refine XW.iconst 83 dX4_sight_82 (v := 1) (by decide) rfl ?_
  refine XW.iadd 84 dX4_sight_83 rfl ?_
  refine XW.iald 85 ((1 + 3 * i) + 1) dX4_sight_84 rfl (na (na (m := 1) rfl (nm (m := 3) rfl hi)) rfl) (by omega) (by decide) rfl ?_
  refine XW.i2f 86 dX4_sight_85 rfl ?_
  refine XW.fmul 87 dX4_sight_86 q5 rfl ?_
  refine XW.fadd 88 dX4_sight_87 q6 rfl ?_
  refine XW.fload 90 dX4_sight_88 rfl rfl ?_
  refine XW.aload_n 91 dX4_sight_90 rfl rfl ?_
  refine XW.getf 94 (v := .ref 54) f4_7 dX4_sight_91 rfl rfl rfl ?_
  refine XW.iload 96 dX4_sight_94 rfl rfl ?_
  refine XW.iconst 97 dX4_sight_96 (v := 2) (by decide) rfl ?_
  refine XW.iadd 98 dX4_sight_97 rfl ?_
  refine XW.iald 99 ((1 + 3 * i) + 2) dX4_sight_98 rfl (na (na (m := 1) rfl (nm (m := 3) rfl hi)) rfl) (by omega) (by decide) rfl ?_
  refine XW.i2f 100 dX4_sight_99 rfl ?_
  refine XW.fmul 101 dX4_sight_100 q7 rfl ?_
  refine XW.fadd 102 dX4_sight_101 q8 rfl ?_
  exact XW.fret dX4_sight_102 trivial (⟨rfl, rfl⟩)
set_option maxHeartbeats 400000 in
set_option maxRecDepth 100000 in
theorem k_farFor {Z : xZ} {c l : Nat} (mi : MI (Z.2.1 54) c l) {xe xi xj : Int32} {e i j : Nat} (he : xe = nI e) (hi : xi = nI i) (hj : xj = nI j) (e4 : e < 4) (i20 : i < 20) (j20 : j < 20) : XC mX4_farFor 2 0 0 [.ref 53, .int xe, .int xi, .int xj] (HP Z) (fun r h' => r = some (.float (distF (mE (Z.2.1 54)) (mR (Z.2.1 54)) e i j)) ∧ h' = HP Z) := by
  show XW mX4_farFor 2 0 0 0 [some (.ref 53), some (.int xe), some (.int xi), some (.int xj), none, none, none, none] [] (HP Z) _
  obtain ⟨hc, c20, hl, l8, ok, hf, hdi, hfb⟩ := id mi
  obtain ⟨⟨q1, q2, q3, q4, q5, q6, q7, q8, q9, q10, q11⟩, q12⟩ := ok_far ok e4 i20 j20
  refine XW.bipush 2 dX4_farFor_0 (v := 62) (by decide) rfl ?_
  refine XW.bipush 4 dX4_farFor_2 (v := 13) (by decide) rfl ?_
  refine XW.iload_n 5 dX4_farFor_4 rfl rfl ?_
  refine XW.imul 6 dX4_farFor_5 rfl ?_
  refine XW.iadd 7 dX4_farFor_6 rfl ?_
  refine XW.bipush 9 dX4_farFor_7 (v := 9) (by decide) rfl ?_
  refine XW.iadd 10 dX4_farFor_9 rfl ?_
  refine XW.istore 12 (L' := [some (.ref 53), some (.int xe), some (.int xi), some (.int xj), some (.int ((62 + (13 * xe)) + 9)), none, none, none]) dX4_farFor_10 (by decide) rfl rfl rfl ?_
  refine XW.aload_n 13 dX4_farFor_12 rfl rfl ?_
  refine XW.iload_n 14 dX4_farFor_13 rfl rfl ?_
  refine XW.iload_n 15 dX4_farFor_14 rfl rfl ?_
  refine XW.iconst 16 dX4_farFor_15 (v := 0) (by decide) rfl ?_
  refine XW.callV 19 (vs := [.int xe, .int xi, .int 0]) (rest := []) (mcr := 0) (msr := 0) c4_122 dX4_farFor_16 rfl rfl (by decide) (Nat.le_of_ble_eq_true rfl) rfl rfl (Nat.le_of_ble_eq_true rfl) rfl (k_sight mi (e := e) (i := i) (k := 0) he hi rfl (by omega) (by omega) (by omega)) (fun r h1 hq => ?_)
  obtain ⟨rfl, rfl⟩ := hq
  refine XW.aload_n 20 dX4_farFor_19 rfl rfl ?_
  refine XW.iload_n 21 dX4_farFor_20 rfl rfl ?_
  refine XW.iload_n 22 dX4_farFor_21 rfl rfl ?_
  refine XW.iconst 23 dX4_farFor_22 (v := 0) (by decide) rfl ?_
  refine XW.callV 26 (vs := [.int xe, .int xj, .int 0]) (rest := [.float (sawF (mE (Z.2.1 54)) (mR (Z.2.1 54)) e i 0)]) (mcr := 0) (msr := 0) c4_122 dX4_farFor_23 rfl rfl (by decide) (Nat.le_of_ble_eq_true rfl) rfl rfl (Nat.le_of_ble_eq_true rfl) rfl (k_sight mi (e := e) (i := j) (k := 0) he hj rfl (by omega) (by omega) (by omega)) (fun r h1 hq => ?_)
  obtain ⟨rfl, rfl⟩ := hq
  refine XW.fsub 27 dX4_farFor_26 q1 rfl ?_
  refine XW.fstore 29 (L' := [some (.ref 53), some (.int xe), some (.int xi), some (.int xj), some (.int ((62 + (13 * xe)) + 9)), some (.float (FP.fsub (sawF (mE (Z.2.1 54)) (mR (Z.2.1 54)) e i 0) (sawF (mE (Z.2.1 54)) (mR (Z.2.1 54)) e j 0))), none, none]) dX4_farFor_27 (by decide) rfl rfl rfl ?_
  refine XW.aload_n 30 dX4_farFor_29 rfl rfl ?_
  refine XW.iload_n 31 dX4_farFor_30 rfl rfl ?_
  refine XW.iload_n 32 dX4_farFor_31 rfl rfl ?_
  refine XW.iconst 33 dX4_farFor_32 (v := 1) (by decide) rfl ?_
  refine XW.callV 36 (vs := [.int xe, .int xi, .int 1]) (rest := []) (mcr := 0) (msr := 0) c4_122 dX4_farFor_33 rfl rfl (by decide) (Nat.le_of_ble_eq_true rfl) rfl rfl (Nat.le_of_ble_eq_true rfl) rfl (k_sight mi (e := e) (i := i) (k := 1) he hi rfl (by omega) (by omega) (by omega)) (fun r h1 hq => ?_)
  obtain ⟨rfl, rfl⟩ := hq
  refine XW.aload_n 37 dX4_farFor_36 rfl rfl ?_
  refine XW.iload_n 38 dX4_farFor_37 rfl rfl ?_
  refine XW.iload_n 39 dX4_farFor_38 rfl rfl ?_
  refine XW.iconst 40 dX4_farFor_39 (v := 1) (by decide) rfl ?_
  refine XW.callV 43 (vs := [.int xe, .int xj, .int 1]) (rest := [.float (sawF (mE (Z.2.1 54)) (mR (Z.2.1 54)) e i 1)]) (mcr := 0) (msr := 0) c4_122 dX4_farFor_40 rfl rfl (by decide) (Nat.le_of_ble_eq_true rfl) rfl rfl (Nat.le_of_ble_eq_true rfl) rfl (k_sight mi (e := e) (i := j) (k := 1) he hj rfl (by omega) (by omega) (by omega)) (fun r h1 hq => ?_)
  obtain ⟨rfl, rfl⟩ := hq
  refine XW.fsub 44 dX4_farFor_43 q2 rfl ?_
  refine XW.fstore 46 (L' := [some (.ref 53), some (.int xe), some (.int xi), some (.int xj), some (.int ((62 + (13 * xe)) + 9)), some (.float (FP.fsub (sawF (mE (Z.2.1 54)) (mR (Z.2.1 54)) e i 0) (sawF (mE (Z.2.1 54)) (mR (Z.2.1 54)) e j 0))), some (.float (FP.fsub (sawF (mE (Z.2.1 54)) (mR (Z.2.1 54)) e i 1) (sawF (mE (Z.2.1 54)) (mR (Z.2.1 54)) e j 1))), none]) dX4_farFor_44 (by decide) rfl rfl rfl ?_
  refine XW.aload_n 47 dX4_farFor_46 rfl rfl ?_
  refine XW.iload_n 48 dX4_farFor_47 rfl rfl ?_
  refine XW.iload_n 49 dX4_farFor_48 rfl rfl ?_
  refine XW.iconst 50 dX4_farFor_49 (v := 2) (by decide) rfl ?_
  refine XW.callV 53 (vs := [.int xe, .int xi, .int 2]) (rest := []) (mcr := 0) (msr := 0) c4_122 dX4_farFor_50 rfl rfl (by decide) (Nat.le_of_ble_eq_true rfl) rfl rfl (Nat.le_of_ble_eq_true rfl) rfl (k_sight mi (e := e) (i := i) (k := 2) he hi rfl (by omega) (by omega) (by omega)) (fun r h1 hq => ?_)
  obtain ⟨rfl, rfl⟩ := hq
  refine XW.aload_n 54 dX4_farFor_53 rfl rfl ?_
  refine XW.iload_n 55 dX4_farFor_54 rfl rfl ?_
  refine XW.iload_n 56 dX4_farFor_55 rfl rfl ?_
  refine XW.iconst 57 dX4_farFor_56 (v := 2) (by decide) rfl ?_
  refine XW.callV 60 (vs := [.int xe, .int xj, .int 2]) (rest := [.float (sawF (mE (Z.2.1 54)) (mR (Z.2.1 54)) e i 2)]) (mcr := 0) (msr := 0) c4_122 dX4_farFor_57 rfl rfl (by decide) (Nat.le_of_ble_eq_true rfl) rfl rfl (Nat.le_of_ble_eq_true rfl) rfl (k_sight mi (e := e) (i := j) (k := 2) he hj rfl (by omega) (by omega) (by omega)) (fun r h1 hq => ?_)
  obtain ⟨rfl, rfl⟩ := hq
  refine XW.fsub 61 dX4_farFor_60 q3 rfl ?_
  refine XW.fstore 63 (L' := [some (.ref 53), some (.int xe), some (.int xi), some (.int xj), some (.int ((62 + (13 * xe)) + 9)), some (.float (FP.fsub (sawF (mE (Z.2.1 54)) (mR (Z.2.1 54)) e i 0) (sawF (mE (Z.2.1 54)) (mR (Z.2.1 54)) e j 0))), some (.float (FP.fsub (sawF (mE (Z.2.1 54)) (mR (Z.2.1 54)) e i 1) (sawF (mE (Z.2.1 54)) (mR (Z.2.1 54)) e j 1))), some (.float (FP.fsub (sawF (mE (Z.2.1 54)) (mR (Z.2.1 54)) e i 2) (sawF (mE (Z.2.1 54)) (mR (Z.2.1 54)) e j 2)))]) dX4_farFor_61 (by decide) rfl rfl rfl ?_
  refine XW.aload_n 64 dX4_farFor_63 rfl rfl ?_
  refine XW.getf 67 (v := .ref 54) f4_7 dX4_farFor_64 rfl rfl rfl ?_
  refine XW.iload 69 dX4_farFor_67 rfl rfl ?_
  refine XW.iald 70 (62 + (13 * e + 9)) dX4_farFor_69 rfl (nj (m := (62 + (13 * e)) + 9) (na (na rfl (nm rfl he)) rfl) (by omega)) (by omega) (by decide) rfl ?_
  refine XW.i2f 71 dX4_farFor_70 rfl ?_
  refine XW.fload 73 dX4_farFor_71 rfl rfl ?_
  refine XW.fload 75 dX4_farFor_73 rfl rfl ?_
  refine XW.fmul 76 dX4_farFor_75 q4 rfl ?_
  refine XW.fmul 77 dX4_farFor_76 q7 rfl ?_
  refine XW.aload_n 78 dX4_farFor_77 rfl rfl ?_
  refine XW.getf 81 (v := .ref 54) f4_7 dX4_farFor_78 rfl rfl rfl ?_
  refine XW.iload 83 dX4_farFor_81 rfl rfl ?_
  refine XW.iconst 84 dX4_farFor_83 (v := 1) (by decide) rfl ?_
  refine XW.iadd 85 dX4_farFor_84 rfl ?_
  refine XW.iald 86 (62 + (13 * e + 9 + 1)) dX4_farFor_85 rfl (nj (m := ((62 + (13 * e)) + 9) + 1) (na (na (na rfl (nm rfl he)) rfl) rfl) (by omega)) (by omega) (by decide) rfl ?_
  refine XW.i2f 87 dX4_farFor_86 rfl ?_
  refine XW.fload 89 dX4_farFor_87 rfl rfl ?_
  refine XW.fload 91 dX4_farFor_89 rfl rfl ?_
  refine XW.fmul 92 dX4_farFor_91 q5 rfl ?_
  refine XW.fmul 93 dX4_farFor_92 q8 rfl ?_
  refine XW.fadd 94 dX4_farFor_93 q9 rfl ?_
  refine XW.aload_n 95 dX4_farFor_94 rfl rfl ?_
  refine XW.getf 98 (v := .ref 54) f4_7 dX4_farFor_95 rfl rfl rfl ?_
  refine XW.iload 100 dX4_farFor_98 rfl rfl ?_
  refine XW.iconst 101 dX4_farFor_100 (v := 2) (by decide) rfl ?_
  refine XW.iadd 102 dX4_farFor_101 rfl ?_
  refine XW.iald 103 (62 + (13 * e + 9 + 2)) dX4_farFor_102 rfl (nj (m := ((62 + (13 * e)) + 9) + 2) (na (na (na rfl (nm rfl he)) rfl) rfl) (by omega)) (by omega) (by decide) rfl ?_
  refine XW.i2f 104 dX4_farFor_103 rfl ?_
  refine XW.fload 106 dX4_farFor_104 rfl rfl ?_
  refine XW.fload 108 dX4_farFor_106 rfl rfl ?_
  refine XW.fmul 109 dX4_farFor_108 q6 rfl ?_
  refine XW.fmul 110 dX4_farFor_109 q10 rfl ?_
  refine XW.fadd 111 dX4_farFor_110 q11 rfl ?_
  exact XW.fret dX4_farFor_111 trivial (⟨rfl, rfl⟩)
set_option maxHeartbeats 400000 in
set_option maxRecDepth 100000 in
theorem l_kapartOf {Z : xZ} {c l : Nat} (mi : MI (Z.2.1 54) c l) {xi xj : Int32} {i j : Nat} (hi : xi = nI i) (hj : xj = nI j) (i20 : i < 20) (j20 : j < 20) : ∀ (n : Nat) (e : Nat), e ≤ 4 → 4 < e + n → XW mX4_apartOf 3 0 0 8 [some (.ref 53), some (.int xi), some (.int xj), some (.float ((apS (mE (Z.2.1 54)) (mR (Z.2.1 54)) i j e).1)), some (.int (b2i ((apS (mE (Z.2.1 54)) (mR (Z.2.1 54)) i j e).2))), some (.int (nI e)), none] [] (HP Z) (fun r h' => r = some (.float (apartF (mE (Z.2.1 54)) (mR (Z.2.1 54)) i j)) ∧ h' = HP Z) := by
  intro n
  induction n with
  | zero => intro e g0 g1; omega
  | succ n ih =>
    intro e g0 g1
    obtain ⟨hc, c20, hl, l8, ok, hf, hdi, hfb⟩ := id mi
    refine XW.iload 10 dX4_apartOf_8 rfl rfl ?_
    refine XW.iconst 11 dX4_apartOf_10 (v := 4) (by decide) rfl ?_
    refine XW.icmp_geN 72 14 e 4 dX4_apartOf_11 (by decide) rfl rfl rfl (by omega) (by omega) (fun c_11 => ?_) (fun c_11 => ?_)
    · refine XW.fload_n 73 dX4_apartOf_72 rfl rfl ?_
      exact XW.fret dX4_apartOf_73 trivial (⟨by rw [show e = 4 by omega]; rfl, rfl⟩)
    · refine XW.aload_n 15 dX4_apartOf_14 rfl rfl ?_
      refine XW.getf 18 (v := .ref 54) f4_7 dX4_apartOf_15 rfl rfl rfl ?_
      refine XW.bipush 20 dX4_apartOf_18 (v := 62) (by decide) rfl ?_
      refine XW.bipush 22 dX4_apartOf_20 (v := 13) (by decide) rfl ?_
      refine XW.iload 24 dX4_apartOf_22 rfl rfl ?_
      refine XW.imul 25 dX4_apartOf_24 rfl ?_
      refine XW.iadd 26 dX4_apartOf_25 rfl ?_
      refine XW.bipush 28 dX4_apartOf_26 (v := 12) (by decide) rfl ?_
      refine XW.iadd 29 dX4_apartOf_28 rfl ?_
      refine XW.iald 30 (62 + (13 * e + 12)) dX4_apartOf_29 rfl (nj (m := (62 + (13 * e)) + 12) (na (na rfl (nm rfl rfl)) rfl) (by omega)) (by omega) (by decide) rfl ?_
      refine XW.iconst 31 dX4_apartOf_30 (v := 1) (by decide) rfl ?_
      refine XW.icmp_ne 66 34 dX4_apartOf_31 (by decide) rfl (fun c_31 => ?_) (fun c_31 => ?_)
      · refine XW.iinc 69 (y := nI (e + 1)) (L' := [some (.ref 53), some (.int xi), some (.int xj), some (.float ((apS (mE (Z.2.1 54)) (mR (Z.2.1 54)) i j e).1)), some (.int (b2i ((apS (mE (Z.2.1 54)) (mR (Z.2.1 54)) i j e).2))), some (.int (nI (e + 1))), none]) dX4_apartOf_66 rfl (na rfl rfl) (by decide) rfl rfl rfl ?_
        refine XW.goto 8 dX4_apartOf_69 (by decide) ?_
        refine XW.eqs (L' := [some (.ref 53), some (.int xi), some (.int xj), some (.float ((apS (mE (Z.2.1 54)) (mR (Z.2.1 54)) i j (e + 1)).1)), some (.int (b2i ((apS (mE (Z.2.1 54)) (mR (Z.2.1 54)) i j (e + 1)).2))), some (.int (nI (e + 1))), none]) (by rw [apS_n (ey := (mE (Z.2.1 54))) c_31]) rfl rfl ?_
        exact ih (e + 1) (by omega) (by omega)
      · refine XW.aload_n 35 dX4_apartOf_34 rfl rfl ?_
        refine XW.iload 37 dX4_apartOf_35 rfl rfl ?_
        refine XW.iload_n 38 dX4_apartOf_37 rfl rfl ?_
        refine XW.iload_n 39 dX4_apartOf_38 rfl rfl ?_
        refine XW.callV 42 (vs := [.int (nI e), .int xi, .int xj]) (rest := []) (mcr := 0) (msr := 0) c4_126 dX4_apartOf_39 rfl rfl (by decide) (Nat.le_of_ble_eq_true rfl) rfl rfl (Nat.le_of_ble_eq_true rfl) rfl (k_farFor mi (e := e) (i := i) (j := j) rfl hi hj (by omega) (by omega) (by omega)) (fun r h1 hq => ?_)
        obtain ⟨rfl, rfl⟩ := hq
        refine XW.fstore 44 (L' := [some (.ref 53), some (.int xi), some (.int xj), some (.float ((apS (mE (Z.2.1 54)) (mR (Z.2.1 54)) i j e).1)), some (.int (b2i ((apS (mE (Z.2.1 54)) (mR (Z.2.1 54)) i j e).2))), some (.int (nI e)), some (.float (distF (mE (Z.2.1 54)) (mR (Z.2.1 54)) e i j))]) dX4_apartOf_42 (by decide) rfl rfl rfl ?_
        refine XW.iload 46 dX4_apartOf_44 rfl rfl ?_
        refine XW.if_eqB 56 49 dX4_apartOf_46 (by decide) rfl (fun c_46 => ?_) (fun c_46 => ?_)
        · refine XW.fload 58 dX4_apartOf_56 rfl rfl ?_
          refine XW.goto 62 dX4_apartOf_58 (by decide) ?_
          refine XW.fstore_n 63 (L' := [some (.ref 53), some (.int xi), some (.int xj), some (.float (distF (mE (Z.2.1 54)) (mR (Z.2.1 54)) e i j)), some (.int (b2i ((apS (mE (Z.2.1 54)) (mR (Z.2.1 54)) i j e).2))), some (.int (nI e)), some (.float (distF (mE (Z.2.1 54)) (mR (Z.2.1 54)) e i j))]) dX4_apartOf_62 (by decide) rfl rfl rfl ?_
          refine XW.iconst 64 dX4_apartOf_63 (v := 1) (by decide) rfl ?_
          refine XW.istore 66 (L' := [some (.ref 53), some (.int xi), some (.int xj), some (.float (distF (mE (Z.2.1 54)) (mR (Z.2.1 54)) e i j)), some (.int 1), some (.int (nI e)), some (.float (distF (mE (Z.2.1 54)) (mR (Z.2.1 54)) e i j))]) dX4_apartOf_64 (by decide) rfl rfl rfl ?_
          refine XW.iinc 69 (y := nI (e + 1)) (L' := [some (.ref 53), some (.int xi), some (.int xj), some (.float (distF (mE (Z.2.1 54)) (mR (Z.2.1 54)) e i j)), some (.int 1), some (.int (nI (e + 1))), some (.float (distF (mE (Z.2.1 54)) (mR (Z.2.1 54)) e i j))]) dX4_apartOf_66 rfl (na rfl rfl) (by decide) rfl rfl rfl ?_
          refine XW.goto 8 dX4_apartOf_69 (by decide) ?_
          refine XW.weak [true, true, true, true, true, true, false] (L' := [some (.ref 53), some (.int xi), some (.int xj), some (.float (distF (mE (Z.2.1 54)) (mR (Z.2.1 54)) e i j)), some (.int 1), some (.int (nI (e + 1))), none]) rfl ?_
          refine XW.eqs (L' := [some (.ref 53), some (.int xi), some (.int xj), some (.float ((apS (mE (Z.2.1 54)) (mR (Z.2.1 54)) i j (e + 1)).1)), some (.int (b2i ((apS (mE (Z.2.1 54)) (mR (Z.2.1 54)) i j (e + 1)).2))), some (.int (nI (e + 1))), none]) (by rw [apS_d (ey := (mE (Z.2.1 54))) c_31 (by first | exact Or.inl c_46 | exact Or.inr c_53)]; rfl) rfl rfl ?_
          exact ih (e + 1) (by omega) (by omega)
        · refine XW.fload 51 dX4_apartOf_49 rfl rfl ?_
          refine XW.fload_n 52 dX4_apartOf_51 rfl rfl ?_
          refine XW.fcmpU 53 dX4_apartOf_52 (ok_dist ok (by omega) i20 j20) (apS_NF ok i20 j20 e (by omega)) rfl ?_
          refine XW.if_geU 61 56 dX4_apartOf_53 (by decide) rfl (fun c_53 => ?_) (fun c_53 => ?_)
          · refine XW.fload_n 62 dX4_apartOf_61 rfl rfl ?_
            refine XW.fstore_n 63 (L' := [some (.ref 53), some (.int xi), some (.int xj), some (.float ((apS (mE (Z.2.1 54)) (mR (Z.2.1 54)) i j e).1)), some (.int (b2i ((apS (mE (Z.2.1 54)) (mR (Z.2.1 54)) i j e).2))), some (.int (nI e)), some (.float (distF (mE (Z.2.1 54)) (mR (Z.2.1 54)) e i j))]) dX4_apartOf_62 (by decide) rfl rfl rfl ?_
            refine XW.iconst 64 dX4_apartOf_63 (v := 1) (by decide) rfl ?_
            refine XW.istore 66 (L' := [some (.ref 53), some (.int xi), some (.int xj), some (.float ((apS (mE (Z.2.1 54)) (mR (Z.2.1 54)) i j e).1)), some (.int 1), some (.int (nI e)), some (.float (distF (mE (Z.2.1 54)) (mR (Z.2.1 54)) e i j))]) dX4_apartOf_64 (by decide) rfl rfl rfl ?_
            refine XW.iinc 69 (y := nI (e + 1)) (L' := [some (.ref 53), some (.int xi), some (.int xj), some (.float ((apS (mE (Z.2.1 54)) (mR (Z.2.1 54)) i j e).1)), some (.int 1), some (.int (nI (e + 1))), some (.float (distF (mE (Z.2.1 54)) (mR (Z.2.1 54)) e i j))]) dX4_apartOf_66 rfl (na rfl rfl) (by decide) rfl rfl rfl ?_
            refine XW.goto 8 dX4_apartOf_69 (by decide) ?_
            refine XW.weak [true, true, true, true, true, true, false] (L' := [some (.ref 53), some (.int xi), some (.int xj), some (.float ((apS (mE (Z.2.1 54)) (mR (Z.2.1 54)) i j e).1)), some (.int 1), some (.int (nI (e + 1))), none]) rfl ?_
            refine XW.eqs (L' := [some (.ref 53), some (.int xi), some (.int xj), some (.float ((apS (mE (Z.2.1 54)) (mR (Z.2.1 54)) i j (e + 1)).1)), some (.int (b2i ((apS (mE (Z.2.1 54)) (mR (Z.2.1 54)) i j (e + 1)).2))), some (.int (nI (e + 1))), none]) (by rw [apS_k (ey := (mE (Z.2.1 54))) c_31 c_46 c_53]; rfl) rfl rfl ?_
            exact ih (e + 1) (by omega) (by omega)
          · refine XW.fload 58 dX4_apartOf_56 rfl rfl ?_
            refine XW.goto 62 dX4_apartOf_58 (by decide) ?_
            refine XW.fstore_n 63 (L' := [some (.ref 53), some (.int xi), some (.int xj), some (.float (distF (mE (Z.2.1 54)) (mR (Z.2.1 54)) e i j)), some (.int (b2i ((apS (mE (Z.2.1 54)) (mR (Z.2.1 54)) i j e).2))), some (.int (nI e)), some (.float (distF (mE (Z.2.1 54)) (mR (Z.2.1 54)) e i j))]) dX4_apartOf_62 (by decide) rfl rfl rfl ?_
            refine XW.iconst 64 dX4_apartOf_63 (v := 1) (by decide) rfl ?_
            refine XW.istore 66 (L' := [some (.ref 53), some (.int xi), some (.int xj), some (.float (distF (mE (Z.2.1 54)) (mR (Z.2.1 54)) e i j)), some (.int 1), some (.int (nI e)), some (.float (distF (mE (Z.2.1 54)) (mR (Z.2.1 54)) e i j))]) dX4_apartOf_64 (by decide) rfl rfl rfl ?_
            refine XW.iinc 69 (y := nI (e + 1)) (L' := [some (.ref 53), some (.int xi), some (.int xj), some (.float (distF (mE (Z.2.1 54)) (mR (Z.2.1 54)) e i j)), some (.int 1), some (.int (nI (e + 1))), some (.float (distF (mE (Z.2.1 54)) (mR (Z.2.1 54)) e i j))]) dX4_apartOf_66 rfl (na rfl rfl) (by decide) rfl rfl rfl ?_
            refine XW.goto 8 dX4_apartOf_69 (by decide) ?_
            refine XW.weak [true, true, true, true, true, true, false] (L' := [some (.ref 53), some (.int xi), some (.int xj), some (.float (distF (mE (Z.2.1 54)) (mR (Z.2.1 54)) e i j)), some (.int 1), some (.int (nI (e + 1))), none]) rfl ?_
            refine XW.eqs (L' := [some (.ref 53), some (.int xi), some (.int xj), some (.float ((apS (mE (Z.2.1 54)) (mR (Z.2.1 54)) i j (e + 1)).1)), some (.int (b2i ((apS (mE (Z.2.1 54)) (mR (Z.2.1 54)) i j (e + 1)).2))), some (.int (nI (e + 1))), none]) (by rw [apS_d (ey := (mE (Z.2.1 54))) c_31 (by first | exact Or.inl c_46 | exact Or.inr c_53)]; rfl) rfl rfl ?_
            exact ih (e + 1) (by omega) (by omega)
set_option maxHeartbeats 400000 in
set_option maxRecDepth 100000 in
theorem k_apartOf {Z : xZ} {c l : Nat} (mi : MI (Z.2.1 54) c l) {xi xj : Int32} {i j : Nat} (hi : xi = nI i) (hj : xj = nI j) (i20 : i < 20) (j20 : j < 20) : XC mX4_apartOf 3 0 0 [.ref 53, .int xi, .int xj] (HP Z) (fun r h' => r = some (.float (apartF (mE (Z.2.1 54)) (mR (Z.2.1 54)) i j)) ∧ h' = HP Z) := by
  show XW mX4_apartOf 3 0 0 0 [some (.ref 53), some (.int xi), some (.int xj), none, none, none, none] [] (HP Z) _
  obtain ⟨hc, c20, hl, l8, ok, hf, hdi, hfb⟩ := id mi
  refine XW.fconst0 1 dX4_apartOf_0 rfl ?_
  refine XW.fstore_n 2 (L' := [some (.ref 53), some (.int xi), some (.int xj), some (.float FP.fconst0), none, none, none]) dX4_apartOf_1 (by decide) rfl rfl rfl ?_
  refine XW.iconst 3 dX4_apartOf_2 (v := 0) (by decide) rfl ?_
  refine XW.istore 5 (L' := [some (.ref 53), some (.int xi), some (.int xj), some (.float FP.fconst0), some (.int 0), none, none]) dX4_apartOf_3 (by decide) rfl rfl rfl ?_
  refine XW.iconst 6 dX4_apartOf_5 (v := 0) (by decide) rfl ?_
  refine XW.istore 8 (L' := [some (.ref 53), some (.int xi), some (.int xj), some (.float FP.fconst0), some (.int 0), some (.int 0), none]) dX4_apartOf_6 (by decide) rfl rfl rfl ?_
  refine XW.eqs (L' := [some (.ref 53), some (.int xi), some (.int xj), some (.float ((apS (mE (Z.2.1 54)) (mR (Z.2.1 54)) i j 0).1)), some (.int (b2i ((apS (mE (Z.2.1 54)) (mR (Z.2.1 54)) i j 0).2))), some (.int (nI 0)), none]) (by rfl) rfl rfl ?_
  exact l_kapartOf mi hi hj i20 j20 5 0 (by omega) (by omega)
set_option maxHeartbeats 400000 in
set_option maxRecDepth 100000 in
theorem l_kcounts {Z : xZ} {c l : Nat} (mi : MI (Z.2.1 54) c l)  : ∀ (n : Nat) (k : Nat), k ≤ 4 → 4 < k + n → XW mX4_countsSet 0 0 0 4 [some (.ref 53), some (.int (cbF (mE (Z.2.1 54)) k)), some (.int (nI k))] [] (HP Z) (fun r h' => r = some (.int (cbF (mE (Z.2.1 54)) 4)) ∧ h' = HP Z) := by
  intro n
  induction n with
  | zero => intro k g0 g1; omega
  | succ n ih =>
    intro k g0 g1
    obtain ⟨hc, c20, hl, l8, ok, hf, hdi, hfb⟩ := id mi
    refine XW.iload_n 5 dX4_countsSet_4 rfl rfl ?_
    refine XW.iconst 6 dX4_countsSet_5 (v := 4) (by decide) rfl ?_
    refine XW.icmp_geN 35 9 k 4 dX4_countsSet_6 (by decide) rfl rfl rfl (by omega) (by omega) (fun c_6 => ?_) (fun c_6 => ?_)
    · refine XW.iload_n 36 dX4_countsSet_35 rfl rfl ?_
      exact XW.iret dX4_countsSet_36 rfl (⟨by rw [show k = 4 by omega], rfl⟩)
    · refine XW.iload_n 10 dX4_countsSet_9 rfl rfl ?_
      refine XW.aload_n 11 dX4_countsSet_10 rfl rfl ?_
      refine XW.getf 14 (v := .ref 54) f4_7 dX4_countsSet_11 rfl rfl rfl ?_
      refine XW.bipush 16 dX4_countsSet_14 (v := 62) (by decide) rfl ?_
      refine XW.bipush 18 dX4_countsSet_16 (v := 13) (by decide) rfl ?_
      refine XW.iload_n 19 dX4_countsSet_18 rfl rfl ?_
      refine XW.imul 20 dX4_countsSet_19 rfl ?_
      refine XW.iadd 21 dX4_countsSet_20 rfl ?_
      refine XW.bipush 23 dX4_countsSet_21 (v := 12) (by decide) rfl ?_
      refine XW.iadd 24 dX4_countsSet_23 rfl ?_
      refine XW.iald 25 (62 + (13 * k + 12)) dX4_countsSet_24 rfl (nj (m := (62 + (13 * k)) + 12) (na (na rfl (nm rfl rfl)) rfl) (by omega)) (by omega) (by decide) rfl ?_
      refine XW.iload_n 26 dX4_countsSet_25 rfl rfl ?_
      refine XW.ishl 27 dX4_countsSet_26 rfl ?_
      refine XW.ior 28 dX4_countsSet_27 rfl ?_
      refine XW.istore_n 29 (L' := [some (.ref 53), some (.int ((cbF (mE (Z.2.1 54)) k) ||| ((Z.2.1 54 (62 + (13 * k + 12))) <<< ((nI k) &&& 31)))), some (.int (nI k))]) dX4_countsSet_28 (by decide) rfl rfl rfl ?_
      refine XW.iinc 32 (y := nI (k + 1)) (L' := [some (.ref 53), some (.int ((cbF (mE (Z.2.1 54)) k) ||| ((Z.2.1 54 (62 + (13 * k + 12))) <<< ((nI k) &&& 31)))), some (.int (nI (k + 1)))]) dX4_countsSet_29 rfl (na rfl rfl) (by decide) rfl rfl rfl ?_
      refine XW.goto 4 dX4_countsSet_32 (by decide) ?_
      refine XW.eqs (L' := [some (.ref 53), some (.int (cbF (mE (Z.2.1 54)) (k + 1))), some (.int (nI (k + 1)))]) (by rfl) rfl rfl ?_
      exact ih (k + 1) (by omega) (by omega)
set_option maxHeartbeats 400000 in
set_option maxRecDepth 100000 in
theorem k_countsSet {Z : xZ} {c l : Nat} (mi : MI (Z.2.1 54) c l)  : XC mX4_countsSet 0 0 0 [.ref 53] (HP Z) (fun r h' => r = some (.int (cbF (mE (Z.2.1 54)) 4)) ∧ h' = HP Z) := by
  show XW mX4_countsSet 0 0 0 0 [some (.ref 53), none, none] [] (HP Z) _
  obtain ⟨hc, c20, hl, l8, ok, hf, hdi, hfb⟩ := id mi
  refine XW.iconst 1 dX4_countsSet_0 (v := 0) (by decide) rfl ?_
  refine XW.istore_n 2 (L' := [some (.ref 53), some (.int 0), none]) dX4_countsSet_1 (by decide) rfl rfl rfl ?_
  refine XW.iconst 3 dX4_countsSet_2 (v := 0) (by decide) rfl ?_
  refine XW.istore_n 4 (L' := [some (.ref 53), some (.int 0), some (.int 0)]) dX4_countsSet_3 (by decide) rfl rfl rfl ?_
  exact l_kcounts mi 5 0 (by omega) (by omega)
def ftM (rgb gr lm : Nat → Int32) : Nat → Int32 := itF (fun i a => a + b2i (fitC rgb gr lm i)) 0
def biF (x : Int32) : Nat → Int32 := itF (fun k a => a + (x >>> (nI k &&& 31) &&& 1)) 0
set_option maxHeartbeats 400000 in
set_option maxRecDepth 100000 in
theorem l_kfitting {Z : xZ} {c l : Nat} (mi : MI (Z.2.1 54) c l)  : ∀ (n : Nat) (k : Nat), k ≤ c → c < k + n → XW mX4_fittingMany 2 0 0 4 [some (.ref 53), some (.int (ftM (mR (Z.2.1 54)) (mG (Z.2.1 54)) (mL (Z.2.1 54)) k)), some (.int (nI k))] [] (HP Z) (fun r h' => r = some (.int (ftM (mR (Z.2.1 54)) (mG (Z.2.1 54)) (mL (Z.2.1 54)) c)) ∧ h' = HP Z) := by
  intro n
  induction n with
  | zero => intro k g0 g1; omega
  | succ n ih =>
    intro k g0 g1
    obtain ⟨hc, c20, hl, l8, ok, hf, hdi, hfb⟩ := id mi
    refine XW.iload_n 5 dX4_fittingMany_4 rfl rfl ?_
    refine XW.aload_n 6 dX4_fittingMany_5 rfl rfl ?_
    refine XW.getf 9 (v := .ref 54) f4_7 dX4_fittingMany_6 rfl rfl rfl ?_
    refine XW.iconst 10 dX4_fittingMany_9 (v := 0) (by decide) rfl ?_
    refine XW.iald 11 0 dX4_fittingMany_10 rfl rfl (by omega) (by decide) rfl ?_
    refine XW.icmp_geN 36 14 k c dX4_fittingMany_11 (by decide) rfl rfl hc (by omega) (by omega) (fun c_11 => ?_) (fun c_11 => ?_)
    · refine XW.iload_n 37 dX4_fittingMany_36 rfl rfl ?_
      exact XW.iret dX4_fittingMany_37 rfl (⟨by rw [show k = c by omega], rfl⟩)
    · refine XW.iload_n 15 dX4_fittingMany_14 rfl rfl ?_
      refine XW.aload_n 16 dX4_fittingMany_15 rfl rfl ?_
      refine XW.iload_n 17 dX4_fittingMany_16 rfl rfl ?_
      refine XW.callV 20 (vs := [.int (nI k)]) (rest := [.int (ftM (mR (Z.2.1 54)) (mG (Z.2.1 54)) (mL (Z.2.1 54)) k)]) (mcr := 0) (msr := 0) c4_108 dX4_fittingMany_17 rfl rfl (by decide) (Nat.le_of_ble_eq_true rfl) rfl rfl (Nat.le_of_ble_eq_true rfl) rfl (k_isFitting mi (i := k) rfl (by omega)) (fun r h1 hq => ?_)
      obtain ⟨rfl, rfl⟩ := hq
      refine XW.if_eqB 27 23 dX4_fittingMany_20 (by decide) rfl (fun c_20 => ?_) (fun c_20 => ?_)
      · refine XW.iconst 28 dX4_fittingMany_27 (v := 0) (by decide) rfl ?_
        refine XW.iadd 29 dX4_fittingMany_28 rfl ?_
        refine XW.istore_n 30 (L' := [some (.ref 53), some (.int ((ftM (mR (Z.2.1 54)) (mG (Z.2.1 54)) (mL (Z.2.1 54)) k) + 0)), some (.int (nI k))]) dX4_fittingMany_29 (by decide) rfl rfl rfl ?_
        refine XW.iinc 33 (y := nI (k + 1)) (L' := [some (.ref 53), some (.int ((ftM (mR (Z.2.1 54)) (mG (Z.2.1 54)) (mL (Z.2.1 54)) k) + 0)), some (.int (nI (k + 1)))]) dX4_fittingMany_30 rfl (na rfl rfl) (by decide) rfl rfl rfl ?_
        refine XW.goto 4 dX4_fittingMany_33 (by decide) ?_
        refine XW.eqs (L' := [some (.ref 53), some (.int (ftM (mR (Z.2.1 54)) (mG (Z.2.1 54)) (mL (Z.2.1 54)) (k + 1))), some (.int (nI (k + 1)))]) (by rw [show ftM (mR (Z.2.1 54)) (mG (Z.2.1 54)) (mL (Z.2.1 54)) (k + 1) = ftM (mR (Z.2.1 54)) (mG (Z.2.1 54)) (mL (Z.2.1 54)) k + b2i (fitC (mR (Z.2.1 54)) (mG (Z.2.1 54)) (mL (Z.2.1 54)) k) from rfl, c_20]; rfl) rfl rfl ?_
        exact ih (k + 1) (by omega) (by omega)
      · refine XW.iconst 24 dX4_fittingMany_23 (v := 1) (by decide) rfl ?_
        refine XW.goto 28 dX4_fittingMany_24 (by decide) ?_
        refine XW.iadd 29 dX4_fittingMany_28 rfl ?_
        refine XW.istore_n 30 (L' := [some (.ref 53), some (.int ((ftM (mR (Z.2.1 54)) (mG (Z.2.1 54)) (mL (Z.2.1 54)) k) + 1)), some (.int (nI k))]) dX4_fittingMany_29 (by decide) rfl rfl rfl ?_
        refine XW.iinc 33 (y := nI (k + 1)) (L' := [some (.ref 53), some (.int ((ftM (mR (Z.2.1 54)) (mG (Z.2.1 54)) (mL (Z.2.1 54)) k) + 1)), some (.int (nI (k + 1)))]) dX4_fittingMany_30 rfl (na rfl rfl) (by decide) rfl rfl rfl ?_
        refine XW.goto 4 dX4_fittingMany_33 (by decide) ?_
        refine XW.eqs (L' := [some (.ref 53), some (.int (ftM (mR (Z.2.1 54)) (mG (Z.2.1 54)) (mL (Z.2.1 54)) (k + 1))), some (.int (nI (k + 1)))]) (by rw [show ftM (mR (Z.2.1 54)) (mG (Z.2.1 54)) (mL (Z.2.1 54)) (k + 1) = ftM (mR (Z.2.1 54)) (mG (Z.2.1 54)) (mL (Z.2.1 54)) k + b2i (fitC (mR (Z.2.1 54)) (mG (Z.2.1 54)) (mL (Z.2.1 54)) k) from rfl, c_20]; rfl) rfl rfl ?_
        exact ih (k + 1) (by omega) (by omega)
set_option maxHeartbeats 400000 in
set_option maxRecDepth 100000 in
theorem k_fittingMany {Z : xZ} {c l : Nat} (mi : MI (Z.2.1 54) c l)  : XC mX4_fittingMany 2 0 0 [.ref 53] (HP Z) (fun r h' => r = some (.int (ftM (mR (Z.2.1 54)) (mG (Z.2.1 54)) (mL (Z.2.1 54)) c)) ∧ h' = HP Z) := by
  show XW mX4_fittingMany 2 0 0 0 [some (.ref 53), none, none] [] (HP Z) _
  obtain ⟨hc, c20, hl, l8, ok, hf, hdi, hfb⟩ := id mi
  refine XW.iconst 1 dX4_fittingMany_0 (v := 0) (by decide) rfl ?_
  refine XW.istore_n 2 (L' := [some (.ref 53), some (.int 0), none]) dX4_fittingMany_1 (by decide) rfl rfl rfl ?_
  refine XW.iconst 3 dX4_fittingMany_2 (v := 0) (by decide) rfl ?_
  refine XW.istore_n 4 (L' := [some (.ref 53), some (.int 0), some (.int 0)]) dX4_fittingMany_3 (by decide) rfl rfl rfl ?_
  exact l_kfitting mi (c + 1) 0 (by omega) (by omega)
set_option maxHeartbeats 400000 in
set_option maxRecDepth 100000 in
theorem l_kbitsIn {x : Int32} {h : xH} : ∀ (n : Nat) (k : Nat), k ≤ 20 → 20 < k + n → XW mX4_bitsIn 0 0 0 4 [some (.int x), some (.int (biF x k)), some (.int (nI k))] [] (h) (fun r h' => r = some (.int (biF x 20)) ∧ h' = h) := by
  intro n
  induction n with
  | zero => intro k g0 g1; omega
  | succ n ih =>
    intro k g0 g1
    refine XW.iload_n 5 dX4_bitsIn_4 rfl rfl ?_
    refine XW.bipush 7 dX4_bitsIn_5 (v := 20) (by decide) rfl ?_
    refine XW.icmp_geN 24 10 k 20 dX4_bitsIn_7 (by decide) rfl rfl rfl (by omega) (by omega) (fun c_7 => ?_) (fun c_7 => ?_)
    · refine XW.iload_n 25 dX4_bitsIn_24 rfl rfl ?_
      exact XW.iret dX4_bitsIn_25 rfl (⟨by rw [show k = 20 by omega], rfl⟩)
    · refine XW.iload_n 11 dX4_bitsIn_10 rfl rfl ?_
      refine XW.iload_n 12 dX4_bitsIn_11 rfl rfl ?_
      refine XW.iload_n 13 dX4_bitsIn_12 rfl rfl ?_
      refine XW.ishr 14 dX4_bitsIn_13 rfl ?_
      refine XW.iconst 15 dX4_bitsIn_14 (v := 1) (by decide) rfl ?_
      refine XW.iand 16 dX4_bitsIn_15 rfl ?_
      refine XW.iadd 17 dX4_bitsIn_16 rfl ?_
      refine XW.istore_n 18 (L' := [some (.int x), some (.int ((biF x k) + ((x >>> ((nI k) &&& 31)) &&& 1))), some (.int (nI k))]) dX4_bitsIn_17 (by decide) rfl rfl rfl ?_
      refine XW.iinc 21 (y := nI (k + 1)) (L' := [some (.int x), some (.int ((biF x k) + ((x >>> ((nI k) &&& 31)) &&& 1))), some (.int (nI (k + 1)))]) dX4_bitsIn_18 rfl (na rfl rfl) (by decide) rfl rfl rfl ?_
      refine XW.goto 4 dX4_bitsIn_21 (by decide) ?_
      refine XW.eqs (L' := [some (.int x), some (.int (biF x (k + 1))), some (.int (nI (k + 1)))]) (by rfl) rfl rfl ?_
      exact ih (k + 1) (by omega) (by omega)
set_option maxHeartbeats 400000 in
set_option maxRecDepth 100000 in
theorem k_bitsIn (x : Int32) (h : xH) : XC mX4_bitsIn 0 0 0 [.int x] (h) (fun r h' => r = some (.int (biF x 20)) ∧ h' = h) := by
  show XW mX4_bitsIn 0 0 0 0 [some (.int x), none, none] [] (h) _
  refine XW.iconst 1 dX4_bitsIn_0 (v := 0) (by decide) rfl ?_
  refine XW.istore_n 2 (L' := [some (.int x), some (.int 0), none]) dX4_bitsIn_1 (by decide) rfl rfl rfl ?_
  refine XW.iconst 3 dX4_bitsIn_2 (v := 0) (by decide) rfl ?_
  refine XW.istore_n 4 (L' := [some (.int x), some (.int 0), some (.int 0)]) dX4_bitsIn_3 (by decide) rfl rfl rfl ?_
  exact l_kbitsIn 21 0 (by omega) (by omega)
