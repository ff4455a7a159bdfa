/-! Leaves: static methods-/
def inF (v a b : Int32) : Bool := decide (a ≤ v) && decide (v ≤ b)
theorem inF_t {v a b : Int32} (h1 : ¬ v < a) (h2 : ¬ b < v) : inF v a b = true := by
  unfold inF; simp only [Bool.and_eq_true, decide_eq_true_eq]; exact ⟨Int32.not_lt.mp h1, Int32.not_lt.mp h2⟩
theorem inF_f1 {v a b : Int32} (h1 : v < a) : inF v a b = false := by
  unfold inF; rw [Bool.and_eq_false_iff]; exact Or.inl (decide_eq_false (Int32.not_le.mpr h1))
theorem inF_f2 {v a b : Int32} (h1 : b < v) : inF v a b = false := by
  unfold inF; rw [Bool.and_eq_false_iff]; exact Or.inr (decide_eq_false (Int32.not_le.mpr h1))
theorem inF_iff {v a b : Int32} : inF v a b = true ↔ a ≤ v ∧ v ≤ b := by
  unfold inF; simp only [Bool.and_eq_true, decide_eq_true_eq]
theorem pT {X : Bool} (e : X = true) : some (Value.int 1) = some (.int (b2i X)) := by rw [e]; rfl
theorem pF {X : Bool} (e : X = false) : some (Value.int 0) = some (.int (b2i X)) := by rw [e]; rfl
theorem pE {a b : Int32} (e : a = b) : some (Value.int a) = some (.int b) := by rw [e]
theorem pG {a b : UInt32} (e : a = b) : some (Value.float a) = some (.float b) := by rw [e]
set_option maxHeartbeats 400000 in
set_option maxRecDepth 100000 in
theorem c_isWithin (x y z : Int32) (h : xH) : XC mX3_isWithin 0 0 0 [.int x, .int y, .int z] (h) (fun r h' => r = some (.int (b2i (inF x y z))) ∧ h' = h) := by
  show XW mX3_isWithin 0 0 0 0 [some (.int x), some (.int y), some (.int z)] [] (h) _
  refine XW.iload_n 1 dX3_isWithin_0 rfl rfl ?_
  refine XW.iload_n 2 dX3_isWithin_1 rfl rfl ?_
  refine XW.icmp_lt 14 5 dX3_isWithin_2 (by decide) rfl (fun c_2 => ?_) (fun c_2 => ?_)
  · have e0 := inF_f1 (b := z) c_2
    refine XW.iconst 15 dX3_isWithin_14 (v := 0) (by decide) rfl ?_
    exact XW.iret dX3_isWithin_15 rfl (⟨pF e0, rfl⟩)
  · refine XW.iload_n 6 dX3_isWithin_5 rfl rfl ?_
    refine XW.iload_n 7 dX3_isWithin_6 rfl rfl ?_
    refine XW.icmp_gt 14 10 dX3_isWithin_7 (by decide) rfl (fun c_7 => ?_) (fun c_7 => ?_)
    · have e0 := inF_f2 (a := y) c_7
      refine XW.iconst 15 dX3_isWithin_14 (v := 0) (by decide) rfl ?_
      exact XW.iret dX3_isWithin_15 rfl (⟨pF e0, rfl⟩)
    · refine XW.iconst 11 dX3_isWithin_10 (v := 1) (by decide) rfl ?_
      refine XW.goto 15 dX3_isWithin_11 (by decide) ?_
      exact XW.iret dX3_isWithin_15 rfl (⟨pT (inF_t c_2 c_7), rfl⟩)
set_option maxHeartbeats 400000 in
set_option maxRecDepth 100000 in
theorem c_in_ (x y z : Int32) (h : xH) : XC mX4_in 0 0 0 [.int x, .int y, .int z] (h) (fun r h' => r = some (.int (b2i (inF x y z))) ∧ h' = h) := by
  show XW mX4_in 0 0 0 0 [some (.int x), some (.int y), some (.int z)] [] (h) _
  refine XW.iload_n 1 dX4_in_0 rfl rfl ?_
  refine XW.iload_n 2 dX4_in_1 rfl rfl ?_
  refine XW.icmp_lt 14 5 dX4_in_2 (by decide) rfl (fun c_2 => ?_) (fun c_2 => ?_)
  · have e0 := inF_f1 (b := z) c_2
    refine XW.iconst 15 dX4_in_14 (v := 0) (by decide) rfl ?_
    exact XW.iret dX4_in_15 rfl (⟨pF e0, rfl⟩)
  · refine XW.iload_n 6 dX4_in_5 rfl rfl ?_
    refine XW.iload_n 7 dX4_in_6 rfl rfl ?_
    refine XW.icmp_gt 14 10 dX4_in_7 (by decide) rfl (fun c_7 => ?_) (fun c_7 => ?_)
    · have e0 := inF_f2 (a := y) c_7
      refine XW.iconst 15 dX4_in_14 (v := 0) (by decide) rfl ?_
      exact XW.iret dX4_in_15 rfl (⟨pF e0, rfl⟩)
    · refine XW.iconst 11 dX4_in_10 (v := 1) (by decide) rfl ?_
      refine XW.goto 15 dX4_in_11 (by decide) ?_
      exact XW.iret dX4_in_15 rfl (⟨pT (inF_t c_2 c_7), rfl⟩)
def c299 : UInt32 := 1050220167
def c587 : UInt32 := 1058424226
def c114 : UInt32 := 1038710997
def c100 : UInt32 := 1120403456
/-- LIGHT of three numbers -/
def lightF (r g b : Int32) : UInt32 := FP.fadd (FP.fadd (FP.fmul 1050220167 (FP.i2f r)) (FP.fmul 1058424226 (FP.i2f g))) (FP.fmul 1038710997 (FP.i2f b))
def lightN (r g b : Int32) : Prop := vf_n32 (FP.fmul 1050220167 (FP.i2f r)) ∧ vf_n32 (FP.fmul 1058424226 (FP.i2f g)) ∧ vf_n32 (FP.fadd (FP.fmul 1050220167 (FP.i2f r)) (FP.fmul 1058424226 (FP.i2f g))) ∧ vf_n32 (FP.fmul 1038710997 (FP.i2f b)) ∧ vf_n32 (lightF r g b)
theorem nj {x : Int32} {m n : Nat} (h : x = nI m) (e : m = n) : x = nI n := by rw [h, e]
def eyeNumF (k v : Int32) : Bool := inF k 0 12 && (if k = 12 then inF v 0 1 else if 9 ≤ k then inF v 0 9 else inF v (-300) 300)
def rgbF (r g b : Int32) : Bool := inF r 0 255 && inF g 0 255 && inF b 0 255
set_option maxHeartbeats 400000 in
set_option maxRecDepth 100000 in
theorem c_isEye (x : Int32) (h : xH) : XC mX3_isEye 1 0 0 [.int x] (h) (fun r h' => r = some (.int (b2i (inF x 0 3))) ∧ h' = h) := by
  show XW mX3_isEye 1 0 0 0 [some (.int x)] [] (h) _
  refine XW.iload_n 1 dX3_isEye_0 rfl rfl ?_
  refine XW.iconst 2 dX3_isEye_1 (v := 0) (by decide) rfl ?_
  refine XW.iconst 3 dX3_isEye_2 (v := 3) (by decide) rfl ?_
  refine XW.callS 6 (vs := [.int x, .int 0, .int 3]) (rest := []) (mcr := 0) (msr := 0) c3_97 dX3_isEye_3 rfl (by decide) (Nat.le_of_ble_eq_true rfl) rfl rfl (Nat.le_of_ble_eq_true rfl) rfl (c_isWithin _ _ _ _) (fun r h1 hq => ?_)
  obtain ⟨rfl, rfl⟩ := hq
  exact XW.iret dX3_isEye_6 (xnar_b _) (⟨rfl, rfl⟩)
set_option maxHeartbeats 400000 in
set_option maxRecDepth 100000 in
theorem k_isEye (x : Int32) (h : xH) : XC mX4_isEye 1 0 0 [.int x] (h) (fun r h' => r = some (.int (b2i (inF x 0 3))) ∧ h' = h) := by
  show XW mX4_isEye 1 0 0 0 [some (.int x)] [] (h) _
  refine XW.iload_n 1 dX4_isEye_0 rfl rfl ?_
  refine XW.iconst 2 dX4_isEye_1 (v := 0) (by decide) rfl ?_
  refine XW.iconst 3 dX4_isEye_2 (v := 3) (by decide) rfl ?_
  refine XW.callS 6 (vs := [.int x, .int 0, .int 3]) (rest := []) (mcr := 0) (msr := 0) c4_49 dX4_isEye_3 rfl (by decide) (Nat.le_of_ble_eq_true rfl) rfl rfl (Nat.le_of_ble_eq_true rfl) rfl (c_in_ _ _ _ _) (fun r h1 hq => ?_)
  obtain ⟨rfl, rfl⟩ := hq
  exact XW.iret dX4_isEye_6 (xnar_b _) (⟨rfl, rfl⟩)
set_option maxHeartbeats 400000 in
set_option maxRecDepth 100000 in
theorem k_isPart (x : Int32) (h : xH) : XC mX4_isPart 1 0 0 [.int x] (h) (fun r h' => r = some (.int (b2i (inF x 0 255))) ∧ h' = h) := by
  show XW mX4_isPart 1 0 0 0 [some (.int x)] [] (h) _
  refine XW.iload_n 1 dX4_isPart_0 rfl rfl ?_
  refine XW.iconst 2 dX4_isPart_1 (v := 0) (by decide) rfl ?_
  refine XW.sipush 5 dX4_isPart_2 (v := 255) (by decide) rfl ?_
  refine XW.callS 8 (vs := [.int x, .int 0, .int 255]) (rest := []) (mcr := 0) (msr := 0) c4_49 dX4_isPart_5 rfl (by decide) (Nat.le_of_ble_eq_true rfl) rfl rfl (Nat.le_of_ble_eq_true rfl) rfl (c_in_ _ _ _ _) (fun r h1 hq => ?_)
  obtain ⟨rfl, rfl⟩ := hq
  exact XW.iret dX4_isPart_8 (xnar_b _) (⟨rfl, rfl⟩)
set_option maxHeartbeats 400000 in
set_option maxRecDepth 100000 in
theorem c_isRgb (x y z : Int32) (h : xH) : XC mX3_isRgb 1 0 0 [.int x, .int y, .int z] (h) (fun r h' => r = some (.int (b2i (rgbF x y z))) ∧ h' = h) := by
  show XW mX3_isRgb 1 0 0 0 [some (.int x), some (.int y), some (.int z)] [] (h) _
  refine XW.iload_n 1 dX3_isRgb_0 rfl rfl ?_
  refine XW.iconst 2 dX3_isRgb_1 (v := 0) (by decide) rfl ?_
  refine XW.sipush 5 dX3_isRgb_2 (v := 255) (by decide) rfl ?_
  refine XW.callS 8 (vs := [.int x, .int 0, .int 255]) (rest := []) (mcr := 0) (msr := 0) c3_97 dX3_isRgb_5 rfl (by decide) (Nat.le_of_ble_eq_true rfl) rfl rfl (Nat.le_of_ble_eq_true rfl) rfl (c_isWithin _ _ _ _) (fun r h1 hq => ?_)
  obtain ⟨rfl, rfl⟩ := hq
  refine XW.if_eqB 37 11 dX3_isRgb_8 (by decide) rfl (fun c_8 => ?_) (fun c_8 => ?_)
  · refine XW.iconst 38 dX3_isRgb_37 (v := 0) (by decide) rfl ?_
    exact XW.iret dX3_isRgb_38 rfl (⟨pF (by simp [rgbF, *]), rfl⟩)
  · refine XW.iload_n 12 dX3_isRgb_11 rfl rfl ?_
    refine XW.iconst 13 dX3_isRgb_12 (v := 0) (by decide) rfl ?_
    refine XW.sipush 16 dX3_isRgb_13 (v := 255) (by decide) rfl ?_
    refine XW.callS 19 (vs := [.int y, .int 0, .int 255]) (rest := []) (mcr := 0) (msr := 0) c3_97 dX3_isRgb_16 rfl (by decide) (Nat.le_of_ble_eq_true rfl) rfl rfl (Nat.le_of_ble_eq_true rfl) rfl (c_isWithin _ _ _ _) (fun r h1 hq => ?_)
    obtain ⟨rfl, rfl⟩ := hq
    refine XW.if_eqB 37 22 dX3_isRgb_19 (by decide) rfl (fun c_19 => ?_) (fun c_19 => ?_)
    · refine XW.iconst 38 dX3_isRgb_37 (v := 0) (by decide) rfl ?_
      exact XW.iret dX3_isRgb_38 rfl (⟨pF (by simp [rgbF, *]), rfl⟩)
    · refine XW.iload_n 23 dX3_isRgb_22 rfl rfl ?_
      refine XW.iconst 24 dX3_isRgb_23 (v := 0) (by decide) rfl ?_
      refine XW.sipush 27 dX3_isRgb_24 (v := 255) (by decide) rfl ?_
      refine XW.callS 30 (vs := [.int z, .int 0, .int 255]) (rest := []) (mcr := 0) (msr := 0) c3_97 dX3_isRgb_27 rfl (by decide) (Nat.le_of_ble_eq_true rfl) rfl rfl (Nat.le_of_ble_eq_true rfl) rfl (c_isWithin _ _ _ _) (fun r h1 hq => ?_)
      obtain ⟨rfl, rfl⟩ := hq
      refine XW.if_eqB 37 33 dX3_isRgb_30 (by decide) rfl (fun c_30 => ?_) (fun c_30 => ?_)
      · refine XW.iconst 38 dX3_isRgb_37 (v := 0) (by decide) rfl ?_
        exact XW.iret dX3_isRgb_38 rfl (⟨pF (by simp [rgbF, *]), rfl⟩)
      · refine XW.iconst 34 dX3_isRgb_33 (v := 1) (by decide) rfl ?_
        refine XW.goto 38 dX3_isRgb_34 (by decide) ?_
        exact XW.iret dX3_isRgb_38 rfl (⟨pT (by simp [rgbF, *]), rfl⟩)
set_option maxHeartbeats 400000 in
set_option maxRecDepth 100000 in
theorem k_areParts (x y z : Int32) (h : xH) : XC mX4_areParts 2 0 0 [.int x, .int y, .int z] (h) (fun r h' => r = some (.int (b2i (rgbF x y z))) ∧ h' = h) := by
  show XW mX4_areParts 2 0 0 0 [some (.int x), some (.int y), some (.int z)] [] (h) _
  refine XW.iload_n 1 dX4_areParts_0 rfl rfl ?_
  refine XW.callS 4 (vs := [.int x]) (rest := []) (mcr := 0) (msr := 0) c4_53 dX4_areParts_1 rfl (by decide) (Nat.le_of_ble_eq_true rfl) rfl rfl (Nat.le_of_ble_eq_true rfl) rfl (k_isPart _ _) (fun r h1 hq => ?_)
  obtain ⟨rfl, rfl⟩ := hq
  refine XW.if_eqB 25 7 dX4_areParts_4 (by decide) rfl (fun c_4 => ?_) (fun c_4 => ?_)
  · refine XW.iconst 26 dX4_areParts_25 (v := 0) (by decide) rfl ?_
    exact XW.iret dX4_areParts_26 rfl (⟨pF (by simp [rgbF, *]), rfl⟩)
  · refine XW.iload_n 8 dX4_areParts_7 rfl rfl ?_
    refine XW.callS 11 (vs := [.int y]) (rest := []) (mcr := 0) (msr := 0) c4_53 dX4_areParts_8 rfl (by decide) (Nat.le_of_ble_eq_true rfl) rfl rfl (Nat.le_of_ble_eq_true rfl) rfl (k_isPart _ _) (fun r h1 hq => ?_)
    obtain ⟨rfl, rfl⟩ := hq
    refine XW.if_eqB 25 14 dX4_areParts_11 (by decide) rfl (fun c_11 => ?_) (fun c_11 => ?_)
    · refine XW.iconst 26 dX4_areParts_25 (v := 0) (by decide) rfl ?_
      exact XW.iret dX4_areParts_26 rfl (⟨pF (by simp [rgbF, *]), rfl⟩)
    · refine XW.iload_n 15 dX4_areParts_14 rfl rfl ?_
      refine XW.callS 18 (vs := [.int z]) (rest := []) (mcr := 0) (msr := 0) c4_53 dX4_areParts_15 rfl (by decide) (Nat.le_of_ble_eq_true rfl) rfl rfl (Nat.le_of_ble_eq_true rfl) rfl (k_isPart _ _) (fun r h1 hq => ?_)
      obtain ⟨rfl, rfl⟩ := hq
      refine XW.if_eqB 25 21 dX4_areParts_18 (by decide) rfl (fun c_18 => ?_) (fun c_18 => ?_)
      · refine XW.iconst 26 dX4_areParts_25 (v := 0) (by decide) rfl ?_
        exact XW.iret dX4_areParts_26 rfl (⟨pF (by simp [rgbF, *]), rfl⟩)
      · refine XW.iconst 22 dX4_areParts_21 (v := 1) (by decide) rfl ?_
        refine XW.goto 26 dX4_areParts_22 (by decide) ?_
        exact XW.iret dX4_areParts_26 rfl (⟨pT (by simp [rgbF, *]), rfl⟩)
theorem eyeNumF_t {k v : Int32} (h : inF k 0 12 = true) : eyeNumF k v = (if k = 12 then inF v 0 1 else if 9 ≤ k then inF v 0 9 else inF v (-300) 300) := by unfold eyeNumF; rw [h]; rfl
def ofEyeF (k v : Int32) : Bool := if 9 ≤ k then (if 12 ≤ k then inF v 0 1 else inF v 0 9) else inF v (-300) 300
theorem ofEyeF_eq {k v : Int32} (h : inF k 0 12 = true) : eyeNumF k v = ofEyeF k v := by
  rw [eyeNumF_t h]
  have h2 := (inF_iff.mp h).2
  unfold ofEyeF
  by_cases e : k = 12
  · subst e; simp
  · have : ¬ 12 ≤ k := fun q => e (Int32.le_antisymm h2 q)
    simp [e, this]
set_option maxHeartbeats 400000 in
set_option maxRecDepth 100000 in
theorem c_isEyeNumber (k v : Int32) (h : xH) : XC mX3_isEyeNumber 1 0 0 [.int k, .int v] (h) (fun r h' => r = some (.int (b2i (eyeNumF k v))) ∧ h' = h) := by
  show XW mX3_isEyeNumber 1 0 0 0 [some (.int k), some (.int v)] [] (h) _
  refine XW.iload_n 1 dX3_isEyeNumber_0 rfl rfl ?_
  refine XW.iconst 2 dX3_isEyeNumber_1 (v := 0) (by decide) rfl ?_
  refine XW.bipush 4 dX3_isEyeNumber_2 (v := 12) (by decide) rfl ?_
  refine XW.callS 7 (vs := [.int k, .int 0, .int 12]) (rest := []) (mcr := 0) (msr := 0) c3_97 dX3_isEyeNumber_4 rfl (by decide) (Nat.le_of_ble_eq_true rfl) rfl rfl (Nat.le_of_ble_eq_true rfl) rfl (c_isWithin _ _ _ _) (fun r h1 hq => ?_)
  obtain ⟨rfl, rfl⟩ := hq
  refine XW.if_neB 12 10 dX3_isEyeNumber_7 (by decide) rfl (fun c_7 => ?_) (fun c_7 => ?_)
  · refine XW.iload_n 13 dX3_isEyeNumber_12 rfl rfl ?_
    refine XW.bipush 15 dX3_isEyeNumber_13 (v := 12) (by decide) rfl ?_
    refine XW.icmp_ne 25 18 dX3_isEyeNumber_15 (by decide) rfl (fun c_15 => ?_) (fun c_15 => ?_)
    · refine XW.iload_n 26 dX3_isEyeNumber_25 rfl rfl ?_
      refine XW.bipush 28 dX3_isEyeNumber_26 (v := 9) (by decide) rfl ?_
      refine XW.icmp_lt 41 31 dX3_isEyeNumber_28 (by decide) rfl (fun c_28 => ?_) (fun c_28 => ?_)
      · refine XW.iload_n 42 dX3_isEyeNumber_41 rfl rfl ?_
        refine XW.sipush 45 dX3_isEyeNumber_42 (v := -300) (by decide) rfl ?_
        refine XW.sipush 48 dX3_isEyeNumber_45 (v := 300) (by decide) rfl ?_
        refine XW.callS 51 (vs := [.int v, .int (-300), .int 300]) (rest := []) (mcr := 0) (msr := 0) c3_97 dX3_isEyeNumber_48 rfl (by decide) (Nat.le_of_ble_eq_true rfl) rfl rfl (Nat.le_of_ble_eq_true rfl) rfl (c_isWithin _ _ _ _) (fun r h1 hq => ?_)
        obtain ⟨rfl, rfl⟩ := hq
        exact XW.iret dX3_isEyeNumber_51 (xnar_b _) (⟨by rw [eyeNumF_t c_7, if_neg c_15, if_neg (Int32.not_le.mpr c_28)], rfl⟩)
      · refine XW.iload_n 32 dX3_isEyeNumber_31 rfl rfl ?_
        refine XW.iconst 33 dX3_isEyeNumber_32 (v := 0) (by decide) rfl ?_
        refine XW.bipush 35 dX3_isEyeNumber_33 (v := 9) (by decide) rfl ?_
        refine XW.callS 38 (vs := [.int v, .int 0, .int 9]) (rest := []) (mcr := 0) (msr := 0) c3_97 dX3_isEyeNumber_35 rfl (by decide) (Nat.le_of_ble_eq_true rfl) rfl rfl (Nat.le_of_ble_eq_true rfl) rfl (c_isWithin _ _ _ _) (fun r h1 hq => ?_)
        obtain ⟨rfl, rfl⟩ := hq
        refine XW.goto 51 dX3_isEyeNumber_38 (by decide) ?_
        exact XW.iret dX3_isEyeNumber_51 (xnar_b _) (⟨by rw [eyeNumF_t c_7, if_neg c_15, if_pos (Int32.not_lt.mp c_28)], rfl⟩)
    · refine XW.iload_n 19 dX3_isEyeNumber_18 rfl rfl ?_
      refine XW.iconst 20 dX3_isEyeNumber_19 (v := 0) (by decide) rfl ?_
      refine XW.iconst 21 dX3_isEyeNumber_20 (v := 1) (by decide) rfl ?_
      refine XW.callS 24 (vs := [.int v, .int 0, .int 1]) (rest := []) (mcr := 0) (msr := 0) c3_97 dX3_isEyeNumber_21 rfl (by decide) (Nat.le_of_ble_eq_true rfl) rfl rfl (Nat.le_of_ble_eq_true rfl) rfl (c_isWithin _ _ _ _) (fun r h1 hq => ?_)
      obtain ⟨rfl, rfl⟩ := hq
      exact XW.iret dX3_isEyeNumber_24 (xnar_b _) (⟨by rw [eyeNumF_t c_7, if_pos c_15], rfl⟩)
  · refine XW.iconst 11 dX3_isEyeNumber_10 (v := 0) (by decide) rfl ?_
    exact XW.iret dX3_isEyeNumber_11 rfl (⟨pF (by simp [eyeNumF, *]), rfl⟩)
set_option maxHeartbeats 400000 in
set_option maxRecDepth 100000 in
theorem k_isOfEye (k v : Int32) (h : xH) : XC mX4_isOfEye 1 0 0 [.int k, .int v] (h) (fun r h' => r = some (.int (b2i (ofEyeF k v))) ∧ h' = h) := by
  show XW mX4_isOfEye 1 0 0 0 [some (.int k), some (.int v)] [] (h) _
  refine XW.iload_n 1 dX4_isOfEye_0 rfl rfl ?_
  refine XW.bipush 3 dX4_isOfEye_1 (v := 9) (by decide) rfl ?_
  refine XW.icmp_ge 19 6 dX4_isOfEye_3 (by decide) rfl (fun c_3 => ?_) (fun c_3 => ?_)
  · refine XW.iload_n 20 dX4_isOfEye_19 rfl rfl ?_
    refine XW.bipush 22 dX4_isOfEye_20 (v := 12) (by decide) rfl ?_
    refine XW.icmp_ge 35 25 dX4_isOfEye_22 (by decide) rfl (fun c_22 => ?_) (fun c_22 => ?_)
    · refine XW.iload_n 36 dX4_isOfEye_35 rfl rfl ?_
      refine XW.iconst 37 dX4_isOfEye_36 (v := 0) (by decide) rfl ?_
      refine XW.iconst 38 dX4_isOfEye_37 (v := 1) (by decide) rfl ?_
      refine XW.callS 41 (vs := [.int v, .int 0, .int 1]) (rest := []) (mcr := 0) (msr := 0) c4_49 dX4_isOfEye_38 rfl (by decide) (Nat.le_of_ble_eq_true rfl) rfl rfl (Nat.le_of_ble_eq_true rfl) rfl (c_in_ _ _ _ _) (fun r h1 hq => ?_)
      obtain ⟨rfl, rfl⟩ := hq
      exact XW.iret dX4_isOfEye_41 (xnar_b _) (⟨by unfold ofEyeF; rw [if_pos c_3, if_pos c_22], rfl⟩)
    · refine XW.iload_n 26 dX4_isOfEye_25 rfl rfl ?_
      refine XW.iconst 27 dX4_isOfEye_26 (v := 0) (by decide) rfl ?_
      refine XW.bipush 29 dX4_isOfEye_27 (v := 9) (by decide) rfl ?_
      refine XW.callS 32 (vs := [.int v, .int 0, .int 9]) (rest := []) (mcr := 0) (msr := 0) c4_49 dX4_isOfEye_29 rfl (by decide) (Nat.le_of_ble_eq_true rfl) rfl rfl (Nat.le_of_ble_eq_true rfl) rfl (c_in_ _ _ _ _) (fun r h1 hq => ?_)
      obtain ⟨rfl, rfl⟩ := hq
      refine XW.goto 41 dX4_isOfEye_32 (by decide) ?_
      exact XW.iret dX4_isOfEye_41 (xnar_b _) (⟨by unfold ofEyeF; rw [if_pos c_3, if_neg c_22], rfl⟩)
  · refine XW.iload_n 7 dX4_isOfEye_6 rfl rfl ?_
    refine XW.sipush 10 dX4_isOfEye_7 (v := -300) (by decide) rfl ?_
    refine XW.sipush 13 dX4_isOfEye_10 (v := 300) (by decide) rfl ?_
    refine XW.callS 16 (vs := [.int v, .int (-300), .int 300]) (rest := []) (mcr := 0) (msr := 0) c4_49 dX4_isOfEye_13 rfl (by decide) (Nat.le_of_ble_eq_true rfl) rfl rfl (Nat.le_of_ble_eq_true rfl) rfl (c_in_ _ _ _ _) (fun r h1 hq => ?_)
    obtain ⟨rfl, rfl⟩ := hq
    refine XW.goto 41 dX4_isOfEye_16 (by decide) ?_
    exact XW.iret dX4_isOfEye_41 (xnar_b _) (⟨by unfold ofEyeF; rw [if_neg c_3], rfl⟩)
set_option maxHeartbeats 400000 in
set_option maxRecDepth 100000 in
theorem c_redOf (x : Int32) (h : xH) : XC mX3_redOf 0 0 0 [.int x] (h) (fun r h' => r = some (.int ((x >>> ((16 : Int32) &&& 31)) &&& 255)) ∧ h' = h) := by
  show XW mX3_redOf 0 0 0 0 [some (.int x)] [] (h) _
  refine XW.iload_n 1 dX3_redOf_0 rfl rfl ?_
  refine XW.bipush 3 dX3_redOf_1 (v := 16) (by decide) rfl ?_
  refine XW.ishr 4 dX3_redOf_3 rfl ?_
  refine XW.sipush 7 dX3_redOf_4 (v := 255) (by decide) rfl ?_
  refine XW.iand 8 dX3_redOf_7 rfl ?_
  exact XW.iret dX3_redOf_8 rfl (⟨rfl, rfl⟩)
set_option maxHeartbeats 400000 in
set_option maxRecDepth 100000 in
theorem c_greenOf (x : Int32) (h : xH) : XC mX3_greenOf 0 0 0 [.int x] (h) (fun r h' => r = some (.int ((x >>> ((8 : Int32) &&& 31)) &&& 255)) ∧ h' = h) := by
  show XW mX3_greenOf 0 0 0 0 [some (.int x)] [] (h) _
  refine XW.iload_n 1 dX3_greenOf_0 rfl rfl ?_
  refine XW.bipush 3 dX3_greenOf_1 (v := 8) (by decide) rfl ?_
  refine XW.ishr 4 dX3_greenOf_3 rfl ?_
  refine XW.sipush 7 dX3_greenOf_4 (v := 255) (by decide) rfl ?_
  refine XW.iand 8 dX3_greenOf_7 rfl ?_
  exact XW.iret dX3_greenOf_8 rfl (⟨rfl, rfl⟩)
set_option maxHeartbeats 400000 in
set_option maxRecDepth 100000 in
theorem c_blueOf (x : Int32) (h : xH) : XC mX3_blueOf 0 0 0 [.int x] (h) (fun r h' => r = some (.int (x &&& 255)) ∧ h' = h) := by
  show XW mX3_blueOf 0 0 0 0 [some (.int x)] [] (h) _
  refine XW.iload_n 1 dX3_blueOf_0 rfl rfl ?_
  refine XW.sipush 4 dX3_blueOf_1 (v := 255) (by decide) rfl ?_
  refine XW.iand 5 dX3_blueOf_4 rfl ?_
  exact XW.iret dX3_blueOf_5 rfl (⟨rfl, rfl⟩)
def bitB (x k : Int32) : Bool := decide (x >>> (k &&& 31) &&& 1 = 1)
set_option maxHeartbeats 400000 in
set_option maxRecDepth 100000 in
theorem k_has (x k : Int32) (h : xH) : XC mX4_has 0 0 0 [.int x, .int k] (h) (fun r h' => r = some (.int (b2i (bitB x k))) ∧ h' = h) := by
  show XW mX4_has 0 0 0 0 [some (.int x), some (.int k)] [] (h) _
  refine XW.iload_n 1 dX4_has_0 rfl rfl ?_
  refine XW.iload_n 2 dX4_has_1 rfl rfl ?_
  refine XW.ishr 3 dX4_has_2 rfl ?_
  refine XW.iconst 4 dX4_has_3 (v := 1) (by decide) rfl ?_
  refine XW.iand 5 dX4_has_4 rfl ?_
  refine XW.iconst 6 dX4_has_5 (v := 1) (by decide) rfl ?_
  refine XW.icmp_ne 13 9 dX4_has_6 (by decide) rfl (fun c_6 => ?_) (fun c_6 => ?_)
  · refine XW.iconst 14 dX4_has_13 (v := 0) (by decide) rfl ?_
    exact XW.iret dX4_has_14 rfl (⟨pF (by simp [bitB, *]), rfl⟩)
  · refine XW.iconst 10 dX4_has_9 (v := 1) (by decide) rfl ?_
    refine XW.goto 14 dX4_has_10 (by decide) ?_
    exact XW.iret dX4_has_14 rfl (⟨pT (by simp [bitB, *]), rfl⟩)
