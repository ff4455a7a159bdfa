/-! The reference: its calls that read -/
theorem okB_saw2 {rgb gr ey lm : Nat → Int32} (ok : okS rgb gr ey lm) {e i k : Nat} (he : e < 4) (hi : i < 20) (hk : k < 3) : okB (sawF ey rgb e i k) ∨ sawF ey rgb e i k = 2147483648 := by
  have h := okB_saw ok he hi hk
  cases hm : mzF (ey (13 * e + 3 * k)) (ey (13 * e + 3 * k + 1)) (ey (13 * e + 3 * k + 2)) (rgb (3 * i)) (rgb (3 * i + 1)) (rgb (3 * i + 2)) with
  | false => exact Or.inl (h.1 hm)
  | true => exact Or.inr (h.2 hm)
theorem sh1_b {x k : Int32} : some (Value.int (x >>> (k &&& 31) &&& 1)) = some (.int (b2i (bitB x k))) := by
  unfold bitB b2i
  have h : x >>> (k &&& 31) &&& 1 = 0 ∨ x >>> (k &&& 31) &&& 1 = 1 := by
    generalize x >>> (k &&& 31) = y
    have : (y &&& 1).toBitVec = 0 ∨ (y &&& 1).toBitVec = 1 := by
      rw [Int32.toBitVec_and]
      have hb : ∀ b : Bool, (BitVec.ofBool b).setWidth 32 = (0 : BitVec 32) ∨ (BitVec.ofBool b).setWidth 32 = (1 : BitVec 32) := by decide
      have e : y.toBitVec &&& (1 : Int32).toBitVec = (BitVec.ofBool (y.toBitVec.getLsbD 0)).setWidth 32 := by
        apply BitVec.eq_of_getLsbD_eq
        intro i hi
        rw [BitVec.getLsbD_and, BitVec.getLsbD_setWidth, BitVec.getLsbD_ofBool]
        have := bt_1 i hi
        unfold bt at this
        rw [this]
        by_cases q : i = 0
        · subst q; simp
        · simp [q]
      rw [e]; exact hb _
    rcases this with h | h
    · exact Or.inl (Int32.toBitVec_inj.mp h)
    · exact Or.inr (Int32.toBitVec_inj.mp h)
  rcases h with h | h <;> rw [h] <;> rfl
set_option maxHeartbeats 400000 in
set_option maxRecDepth 100000 in
theorem k_ofColour_0 {Z : xZ} {c l : Nat} (mi : MI (Z.2.1 54) c l) (x : Int32) {i : Nat} (hx : x = nI i) (ic : i < c) : XC mX4_ofColour 3 0 0 [.ref 53, .int x, .int 0] (HP Z) (fun r h' => r = some (.int ((mR (Z.2.1 54)) (3 * i))) ∧ h' = HP Z) := by
  show XW mX4_ofColour 3 0 0 0 [some (.ref 53), some (.int x), some (.int 0)] [] (HP Z) _
  obtain ⟨hc, c20, hl, l8, ok, hf, hdi, hfb⟩ := id mi
  refine XW.iload_n 1 dX4_ofColour_0 rfl rfl ?_
  refine XW.tableOut 60 dX4_ofColour_1 (by decide) (by decide) ?_
  refine XW.aload_n 61 dX4_ofColour_60 rfl rfl ?_
  refine XW.getf 64 (v := .ref 54) f4_7 dX4_ofColour_61 rfl rfl rfl ?_
  refine XW.aload_n 65 dX4_ofColour_64 rfl rfl ?_
  refine XW.iload_n 66 dX4_ofColour_65 rfl rfl ?_
  refine XW.callV 69 (vs := [.int x]) (rest := [.ref 54]) (mcr := 0) (msr := 0) c4_57 dX4_ofColour_66 rfl rfl (by decide) (Nat.le_of_ble_eq_true rfl) rfl rfl (Nat.le_of_ble_eq_true rfl) rfl (k_colourAt _) (fun r h1 hq => ?_)
  obtain ⟨rfl, rfl⟩ := hq
  refine XW.iload_n 70 dX4_ofColour_69 rfl rfl ?_
  refine XW.iadd 71 dX4_ofColour_70 rfl ?_
  refine XW.iald 72 (1 + 3 * i) dX4_ofColour_71 rfl (nj (m := (1 + 3 * i) + 0) (na (na (m := 1) rfl (nm (m := 3) rfl hx)) rfl) (by omega)) (by omega) (by decide) rfl ?_
  exact XW.iret dX4_ofColour_72 rfl (⟨rfl, rfl⟩)
set_option maxHeartbeats 400000 in
set_option maxRecDepth 100000 in
theorem k_ofColour_1 {Z : xZ} {c l : Nat} (mi : MI (Z.2.1 54) c l) (x : Int32) {i : Nat} (hx : x = nI i) (ic : i < c) : XC mX4_ofColour 3 0 0 [.ref 53, .int x, .int 1] (HP Z) (fun r h' => r = some (.int ((mR (Z.2.1 54)) (3 * i + 1))) ∧ h' = HP Z) := by
  show XW mX4_ofColour 3 0 0 0 [some (.ref 53), some (.int x), some (.int 1)] [] (HP Z) _
  obtain ⟨hc, c20, hl, l8, ok, hf, hdi, hfb⟩ := id mi
  refine XW.iload_n 1 dX4_ofColour_0 rfl rfl ?_
  refine XW.tableOut 60 dX4_ofColour_1 (by decide) (by decide) ?_
  refine XW.aload_n 61 dX4_ofColour_60 rfl rfl ?_
  refine XW.getf 64 (v := .ref 54) f4_7 dX4_ofColour_61 rfl rfl rfl ?_
  refine XW.aload_n 65 dX4_ofColour_64 rfl rfl ?_
  refine XW.iload_n 66 dX4_ofColour_65 rfl rfl ?_
  refine XW.callV 69 (vs := [.int x]) (rest := [.ref 54]) (mcr := 0) (msr := 0) c4_57 dX4_ofColour_66 rfl rfl (by decide) (Nat.le_of_ble_eq_true rfl) rfl rfl (Nat.le_of_ble_eq_true rfl) rfl (k_colourAt _) (fun r h1 hq => ?_)
  obtain ⟨rfl, rfl⟩ := hq
  refine XW.iload_n 70 dX4_ofColour_69 rfl rfl ?_
  refine XW.iadd 71 dX4_ofColour_70 rfl ?_
  refine XW.iald 72 (1 + (3 * i + 1)) dX4_ofColour_71 rfl (nj (m := (1 + 3 * i) + 1) (na (na (m := 1) rfl (nm (m := 3) rfl hx)) rfl) (by omega)) (by omega) (by decide) rfl ?_
  exact XW.iret dX4_ofColour_72 rfl (⟨rfl, rfl⟩)
set_option maxHeartbeats 400000 in
set_option maxRecDepth 100000 in
theorem k_ofColour_2 {Z : xZ} {c l : Nat} (mi : MI (Z.2.1 54) c l) (x : Int32) {i : Nat} (hx : x = nI i) (ic : i < c) : XC mX4_ofColour 3 0 0 [.ref 53, .int x, .int 2] (HP Z) (fun r h' => r = some (.int ((mR (Z.2.1 54)) (3 * i + 2))) ∧ h' = HP Z) := by
  show XW mX4_ofColour 3 0 0 0 [some (.ref 53), some (.int x), some (.int 2)] [] (HP Z) _
  obtain ⟨hc, c20, hl, l8, ok, hf, hdi, hfb⟩ := id mi
  refine XW.iload_n 1 dX4_ofColour_0 rfl rfl ?_
  refine XW.tableOut 60 dX4_ofColour_1 (by decide) (by decide) ?_
  refine XW.aload_n 61 dX4_ofColour_60 rfl rfl ?_
  refine XW.getf 64 (v := .ref 54) f4_7 dX4_ofColour_61 rfl rfl rfl ?_
  refine XW.aload_n 65 dX4_ofColour_64 rfl rfl ?_
  refine XW.iload_n 66 dX4_ofColour_65 rfl rfl ?_
  refine XW.callV 69 (vs := [.int x]) (rest := [.ref 54]) (mcr := 0) (msr := 0) c4_57 dX4_ofColour_66 rfl rfl (by decide) (Nat.le_of_ble_eq_true rfl) rfl rfl (Nat.le_of_ble_eq_true rfl) rfl (k_colourAt _) (fun r h1 hq => ?_)
  obtain ⟨rfl, rfl⟩ := hq
  refine XW.iload_n 70 dX4_ofColour_69 rfl rfl ?_
  refine XW.iadd 71 dX4_ofColour_70 rfl ?_
  refine XW.iald 72 (1 + (3 * i + 2)) dX4_ofColour_71 rfl (nj (m := (1 + 3 * i) + 2) (na (na (m := 1) rfl (nm (m := 3) rfl hx)) rfl) (by omega)) (by omega) (by decide) rfl ?_
  exact XW.iret dX4_ofColour_72 rfl (⟨rfl, rfl⟩)
set_option maxHeartbeats 400000 in
set_option maxRecDepth 100000 in
theorem k_ofColour_3 {Z : xZ} {c l : Nat} (mi : MI (Z.2.1 54) c l) (x : Int32) {i : Nat} (hx : x = nI i) (ic : i < c) : XC mX4_ofColour 3 0 0 [.ref 53, .int x, .int 3] (HP Z) (fun r h' => r = some (.int (b2i (bitB (Z.2.1 54 61) x))) ∧ h' = HP Z) := by
  show XW mX4_ofColour 3 0 0 0 [some (.ref 53), some (.int x), some (.int 3)] [] (HP Z) _
  obtain ⟨hc, c20, hl, l8, ok, hf, hdi, hfb⟩ := id mi
  refine XW.iload_n 1 dX4_ofColour_0 rfl rfl ?_
  refine XW.tableIn 28 dX4_ofColour_1 (by decide) (by decide) rfl (by decide) ?_
  refine XW.aload_n 29 dX4_ofColour_28 rfl rfl ?_
  refine XW.getf 32 (v := .ref 54) f4_7 dX4_ofColour_29 rfl rfl rfl ?_
  refine XW.bipush 34 dX4_ofColour_32 (v := 61) (by decide) rfl ?_
  refine XW.iald 35 61 dX4_ofColour_34 rfl rfl (by omega) (by decide) rfl ?_
  refine XW.iload_n 36 dX4_ofColour_35 rfl rfl ?_
  refine XW.ishr 37 dX4_ofColour_36 rfl ?_
  refine XW.iconst 38 dX4_ofColour_37 (v := 1) (by decide) rfl ?_
  refine XW.iand 39 dX4_ofColour_38 rfl ?_
  exact XW.iret dX4_ofColour_39 rfl (⟨by rw [sh1_b], rfl⟩)
set_option maxHeartbeats 400000 in
set_option maxRecDepth 100000 in
theorem k_ofColour_4 {Z : xZ} {c l : Nat} (mi : MI (Z.2.1 54) c l) (x : Int32) {i : Nat} (hx : x = nI i) (ic : i < c) : XC mX4_ofColour 3 0 0 [.ref 53, .int x, .int 4] (HP Z) (fun r h' => r = some (.int (b2i (fitC (mR (Z.2.1 54)) (mG (Z.2.1 54)) (mL (Z.2.1 54)) i))) ∧ h' = HP Z) := by
  show XW mX4_ofColour 3 0 0 0 [some (.ref 53), some (.int x), some (.int 4)] [] (HP Z) _
  obtain ⟨hc, c20, hl, l8, ok, hf, hdi, hfb⟩ := id mi
  refine XW.iload_n 1 dX4_ofColour_0 rfl rfl ?_
  refine XW.tableIn 40 dX4_ofColour_1 (by decide) (by decide) rfl (by decide) ?_
  refine XW.aload_n 41 dX4_ofColour_40 rfl rfl ?_
  refine XW.iload_n 42 dX4_ofColour_41 rfl rfl ?_
  refine XW.callV 45 (vs := [.int x]) (rest := []) (mcr := 0) (msr := 0) c4_108 dX4_ofColour_42 rfl rfl (by decide) (Nat.le_of_ble_eq_true rfl) rfl rfl (Nat.le_of_ble_eq_true rfl) rfl (k_isFitting mi (i := i) hx (by omega)) (fun r h1 hq => ?_)
  obtain ⟨rfl, rfl⟩ := hq
  refine XW.if_eqB 52 48 dX4_ofColour_45 (by decide) rfl (fun c_45 => ?_) (fun c_45 => ?_)
  · refine XW.iconst 53 dX4_ofColour_52 (v := 0) (by decide) rfl ?_
    exact XW.iret dX4_ofColour_53 rfl (⟨pF c_45, rfl⟩)
  · refine XW.iconst 49 dX4_ofColour_48 (v := 1) (by decide) rfl ?_
    refine XW.goto 53 dX4_ofColour_49 (by decide) ?_
    exact XW.iret dX4_ofColour_53 rfl (⟨pT c_45, rfl⟩)
set_option maxHeartbeats 400000 in
set_option maxRecDepth 100000 in
theorem k_ofColour_5 {Z : xZ} {c l : Nat} (mi : MI (Z.2.1 54) c l) (x : Int32) {i : Nat} (hx : x = nI i) (ic : i < c) : XC mX4_ofColour 3 0 0 [.ref 53, .int x, .int 5] (HP Z) (fun r h' => r = some (.int (plF (mP (Z.2.1 54)) x l 0)) ∧ h' = HP Z) := by
  show XW mX4_ofColour 3 0 0 0 [some (.ref 53), some (.int x), some (.int 5)] [] (HP Z) _
  obtain ⟨hc, c20, hl, l8, ok, hf, hdi, hfb⟩ := id mi
  refine XW.iload_n 1 dX4_ofColour_0 rfl rfl ?_
  refine XW.tableIn 54 dX4_ofColour_1 (by decide) (by decide) rfl (by decide) ?_
  refine XW.aload_n 55 dX4_ofColour_54 rfl rfl ?_
  refine XW.iload_n 56 dX4_ofColour_55 rfl rfl ?_
  refine XW.callV 59 (vs := [.int x]) (rest := []) (mcr := 0) (msr := 0) c4_111 dX4_ofColour_56 rfl rfl (by decide) (Nat.le_of_ble_eq_true rfl) rfl rfl (Nat.le_of_ble_eq_true rfl) rfl (k_placeOf mi _) (fun r h1 hq => ?_)
  obtain ⟨rfl, rfl⟩ := hq
  exact XW.iret dX4_ofColour_59 rfl (⟨rfl, rfl⟩)
set_option maxHeartbeats 400000 in
set_option maxRecDepth 100000 in
theorem u_of_bad {Z : xZ} {c l : Nat} (mi : MI (Z.2.1 54) c l) (x y : Int32) (e : (isC x (Z.2.1 54 0) && inF y 0 5) = false) : XC mX4_of 4 0 0 [.ref 53, .int x, .int y] (HP Z) (fun r h' => r = some (.int (-2)) ∧ h' = HP (rmZ Z 0)) := by
  show XW mX4_of 4 0 0 0 [some (.ref 53), some (.int x), some (.int y)] [] (HP Z) _
  obtain ⟨hc, c20, hl, l8, ok, hf, hdi, hfb⟩ := id mi
  refine XW.aload_n 1 dX4_of_0 rfl rfl ?_
  refine XW.iload_n 2 dX4_of_1 rfl rfl ?_
  refine XW.callV 5 (vs := [.int x]) (rest := []) (mcr := 0) (msr := 0) c4_81 dX4_of_2 rfl rfl (by decide) (Nat.le_of_ble_eq_true rfl) rfl rfl (Nat.le_of_ble_eq_true rfl) rfl (k_isColour mi _) (fun r h1 hq => ?_)
  obtain ⟨rfl, rfl⟩ := hq
  refine XW.if_eqB 26 8 dX4_of_5 (by decide) rfl (fun c_5 => ?_) (fun c_5 => ?_)
  · refine XW.aload_n 27 dX4_of_26 rfl rfl ?_
    refine XW.callV 30 (vs := []) (rest := []) (mcr := 0) (msr := 0) c4_68 dX4_of_27 rfl rfl (by decide) (Nat.le_of_ble_eq_true rfl) rfl rfl (Nat.le_of_ble_eq_true rfl) rfl k_bad (fun r h1 hq => ?_)
    obtain ⟨rfl, rfl⟩ := hq
    refine XW.eqs (st' := [.int (-2)]) rfl rfl rfl ?_
    exact XW.iret dX4_of_30 rfl (⟨rfl, rfl⟩)
  · refine XW.iload_n 9 dX4_of_8 rfl rfl ?_
    refine XW.iconst 10 dX4_of_9 (v := 0) (by decide) rfl ?_
    refine XW.iconst 11 dX4_of_10 (v := 5) (by decide) rfl ?_
    refine XW.callS 14 (vs := [.int y, .int 0, .int 5]) (rest := []) (mcr := 0) (msr := 0) c4_49 dX4_of_11 rfl (by decide) (Nat.le_of_ble_eq_true rfl) rfl rfl (Nat.le_of_ble_eq_true rfl) rfl (c_in_ _ _ _ _) (fun r h1 hq => ?_)
    obtain ⟨rfl, rfl⟩ := hq
    refine XW.if_eqB 26 17 dX4_of_14 (by decide) rfl (fun c_14 => ?_) (fun c_14 => ?_)
    · refine XW.aload_n 27 dX4_of_26 rfl rfl ?_
      refine XW.callV 30 (vs := []) (rest := []) (mcr := 0) (msr := 0) c4_68 dX4_of_27 rfl rfl (by decide) (Nat.le_of_ble_eq_true rfl) rfl rfl (Nat.le_of_ble_eq_true rfl) rfl k_bad (fun r h1 hq => ?_)
      obtain ⟨rfl, rfl⟩ := hq
      refine XW.eqs (st' := [.int (-2)]) rfl rfl rfl ?_
      exact XW.iret dX4_of_30 rfl (⟨rfl, rfl⟩)
    · exact absurd e (by rw [c_5, c_14]; decide)
set_option maxHeartbeats 400000 in
set_option maxRecDepth 100000 in
theorem u_of_0 {Z : xZ} {c l : Nat} (mi : MI (Z.2.1 54) c l) (x : Int32) {i : Nat} (hx : x = nI i) (ic : i < c) (e1 : isC x (Z.2.1 54 0) = true) : XC mX4_of 4 0 0 [.ref 53, .int x, .int 0] (HP Z) (fun r h' => r = some (.int ((mR (Z.2.1 54)) (3 * i))) ∧ h' = HP Z) := by
  show XW mX4_of 4 0 0 0 [some (.ref 53), some (.int x), some (.int 0)] [] (HP Z) _
  obtain ⟨hc, c20, hl, l8, ok, hf, hdi, hfb⟩ := id mi
  refine XW.aload_n 1 dX4_of_0 rfl rfl ?_
  refine XW.iload_n 2 dX4_of_1 rfl rfl ?_
  refine XW.callV 5 (vs := [.int x]) (rest := []) (mcr := 0) (msr := 0) c4_81 dX4_of_2 rfl rfl (by decide) (Nat.le_of_ble_eq_true rfl) rfl rfl (Nat.le_of_ble_eq_true rfl) rfl (k_isColour mi _) (fun r h1 hq => ?_)
  obtain ⟨rfl, rfl⟩ := hq
  refine XW.if_eqB 26 8 dX4_of_5 (by decide) rfl (fun c_5 => ?_) (fun c_5 => ?_)
  · rw [e1] at c_5; cases c_5
  · refine XW.iload_n 9 dX4_of_8 rfl rfl ?_
    refine XW.iconst 10 dX4_of_9 (v := 0) (by decide) rfl ?_
    refine XW.iconst 11 dX4_of_10 (v := 5) (by decide) rfl ?_
    refine XW.callS 14 (vs := [.int 0, .int 0, .int 5]) (rest := []) (mcr := 0) (msr := 0) c4_49 dX4_of_11 rfl (by decide) (Nat.le_of_ble_eq_true rfl) rfl rfl (Nat.le_of_ble_eq_true rfl) rfl (c_in_ _ _ _ _) (fun r h1 hq => ?_)
    obtain ⟨rfl, rfl⟩ := hq
    refine XW.if_eqB 26 17 dX4_of_14 (by decide) rfl (fun c_14 => ?_) (fun c_14 => ?_)
    · exact absurd c_14 (by decide)
    · refine XW.aload_n 18 dX4_of_17 rfl rfl ?_
      refine XW.iload_n 19 dX4_of_18 rfl rfl ?_
      refine XW.iload_n 20 dX4_of_19 rfl rfl ?_
      refine XW.callV 23 (vs := [.int x, .int 0]) (rest := []) (mcr := 0) (msr := 0) c4_114 dX4_of_20 rfl rfl (by decide) (Nat.le_of_ble_eq_true rfl) rfl rfl (Nat.le_of_ble_eq_true rfl) rfl (k_ofColour_0 mi _ hx ic) (fun r h1 hq => ?_)
      obtain ⟨rfl, rfl⟩ := hq
      refine XW.goto 30 dX4_of_23 (by decide) ?_
      exact XW.iret dX4_of_30 rfl (⟨rfl, rfl⟩)
set_option maxHeartbeats 400000 in
set_option maxRecDepth 100000 in
theorem u_of_1 {Z : xZ} {c l : Nat} (mi : MI (Z.2.1 54) c l) (x : Int32) {i : Nat} (hx : x = nI i) (ic : i < c) (e1 : isC x (Z.2.1 54 0) = true) : XC mX4_of 4 0 0 [.ref 53, .int x, .int 1] (HP Z) (fun r h' => r = some (.int ((mR (Z.2.1 54)) (3 * i + 1))) ∧ h' = HP Z) := by
  show XW mX4_of 4 0 0 0 [some (.ref 53), some (.int x), some (.int 1)] [] (HP Z) _
  obtain ⟨hc, c20, hl, l8, ok, hf, hdi, hfb⟩ := id mi
  refine XW.aload_n 1 dX4_of_0 rfl rfl ?_
  refine XW.iload_n 2 dX4_of_1 rfl rfl ?_
  refine XW.callV 5 (vs := [.int x]) (rest := []) (mcr := 0) (msr := 0) c4_81 dX4_of_2 rfl rfl (by decide) (Nat.le_of_ble_eq_true rfl) rfl rfl (Nat.le_of_ble_eq_true rfl) rfl (k_isColour mi _) (fun r h1 hq => ?_)
  obtain ⟨rfl, rfl⟩ := hq
  refine XW.if_eqB 26 8 dX4_of_5 (by decide) rfl (fun c_5 => ?_) (fun c_5 => ?_)
  · rw [e1] at c_5; cases c_5
  · refine XW.iload_n 9 dX4_of_8 rfl rfl ?_
    refine XW.iconst 10 dX4_of_9 (v := 0) (by decide) rfl ?_
    refine XW.iconst 11 dX4_of_10 (v := 5) (by decide) rfl ?_
    refine XW.callS 14 (vs := [.int 1, .int 0, .int 5]) (rest := []) (mcr := 0) (msr := 0) c4_49 dX4_of_11 rfl (by decide) (Nat.le_of_ble_eq_true rfl) rfl rfl (Nat.le_of_ble_eq_true rfl) rfl (c_in_ _ _ _ _) (fun r h1 hq => ?_)
    obtain ⟨rfl, rfl⟩ := hq
    refine XW.if_eqB 26 17 dX4_of_14 (by decide) rfl (fun c_14 => ?_) (fun c_14 => ?_)
    · exact absurd c_14 (by decide)
    · refine XW.aload_n 18 dX4_of_17 rfl rfl ?_
      refine XW.iload_n 19 dX4_of_18 rfl rfl ?_
      refine XW.iload_n 20 dX4_of_19 rfl rfl ?_
      refine XW.callV 23 (vs := [.int x, .int 1]) (rest := []) (mcr := 0) (msr := 0) c4_114 dX4_of_20 rfl rfl (by decide) (Nat.le_of_ble_eq_true rfl) rfl rfl (Nat.le_of_ble_eq_true rfl) rfl (k_ofColour_1 mi _ hx ic) (fun r h1 hq => ?_)
      obtain ⟨rfl, rfl⟩ := hq
      refine XW.goto 30 dX4_of_23 (by decide) ?_
      exact XW.iret dX4_of_30 rfl (⟨rfl, rfl⟩)
set_option maxHeartbeats 400000 in
set_option maxRecDepth 100000 in
theorem u_of_2 {Z : xZ} {c l : Nat} (mi : MI (Z.2.1 54) c l) (x : Int32) {i : Nat} (hx : x = nI i) (ic : i < c) (e1 : isC x (Z.2.1 54 0) = true) : XC mX4_of 4 0 0 [.ref 53, .int x, .int 2] (HP Z) (fun r h' => r = some (.int ((mR (Z.2.1 54)) (3 * i + 2))) ∧ h' = HP Z) := by
  show XW mX4_of 4 0 0 0 [some (.ref 53), some (.int x), some (.int 2)] [] (HP Z) _
  obtain ⟨hc, c20, hl, l8, ok, hf, hdi, hfb⟩ := id mi
  refine XW.aload_n 1 dX4_of_0 rfl rfl ?_
  refine XW.iload_n 2 dX4_of_1 rfl rfl ?_
  refine XW.callV 5 (vs := [.int x]) (rest := []) (mcr := 0) (msr := 0) c4_81 dX4_of_2 rfl rfl (by decide) (Nat.le_of_ble_eq_true rfl) rfl rfl (Nat.le_of_ble_eq_true rfl) rfl (k_isColour mi _) (fun r h1 hq => ?_)
  obtain ⟨rfl, rfl⟩ := hq
  refine XW.if_eqB 26 8 dX4_of_5 (by decide) rfl (fun c_5 => ?_) (fun c_5 => ?_)
  · rw [e1] at c_5; cases c_5
  · refine XW.iload_n 9 dX4_of_8 rfl rfl ?_
    refine XW.iconst 10 dX4_of_9 (v := 0) (by decide) rfl ?_
    refine XW.iconst 11 dX4_of_10 (v := 5) (by decide) rfl ?_
    refine XW.callS 14 (vs := [.int 2, .int 0, .int 5]) (rest := []) (mcr := 0) (msr := 0) c4_49 dX4_of_11 rfl (by decide) (Nat.le_of_ble_eq_true rfl) rfl rfl (Nat.le_of_ble_eq_true rfl) rfl (c_in_ _ _ _ _) (fun r h1 hq => ?_)
    obtain ⟨rfl, rfl⟩ := hq
    refine XW.if_eqB 26 17 dX4_of_14 (by decide) rfl (fun c_14 => ?_) (fun c_14 => ?_)
    · exact absurd c_14 (by decide)
    · refine XW.aload_n 18 dX4_of_17 rfl rfl ?_
      refine XW.iload_n 19 dX4_of_18 rfl rfl ?_
      refine XW.iload_n 20 dX4_of_19 rfl rfl ?_
      refine XW.callV 23 (vs := [.int x, .int 2]) (rest := []) (mcr := 0) (msr := 0) c4_114 dX4_of_20 rfl rfl (by decide) (Nat.le_of_ble_eq_true rfl) rfl rfl (Nat.le_of_ble_eq_true rfl) rfl (k_ofColour_2 mi _ hx ic) (fun r h1 hq => ?_)
      obtain ⟨rfl, rfl⟩ := hq
      refine XW.goto 30 dX4_of_23 (by decide) ?_
      exact XW.iret dX4_of_30 rfl (⟨rfl, rfl⟩)
set_option maxHeartbeats 400000 in
set_option maxRecDepth 100000 in
theorem u_of_3 {Z : xZ} {c l : Nat} (mi : MI (Z.2.1 54) c l) (x : Int32) {i : Nat} (hx : x = nI i) (ic : i < c) (e1 : isC x (Z.2.1 54 0) = true) : XC mX4_of 4 0 0 [.ref 53, .int x, .int 3] (HP Z) (fun r h' => r = some (.int (b2i (bitB (Z.2.1 54 61) x))) ∧ h' = HP Z) := by
  show XW mX4_of 4 0 0 0 [some (.ref 53), some (.int x), some (.int 3)] [] (HP Z) _
  obtain ⟨hc, c20, hl, l8, ok, hf, hdi, hfb⟩ := id mi
  refine XW.aload_n 1 dX4_of_0 rfl rfl ?_
  refine XW.iload_n 2 dX4_of_1 rfl rfl ?_
  refine XW.callV 5 (vs := [.int x]) (rest := []) (mcr := 0) (msr := 0) c4_81 dX4_of_2 rfl rfl (by decide) (Nat.le_of_ble_eq_true rfl) rfl rfl (Nat.le_of_ble_eq_true rfl) rfl (k_isColour mi _) (fun r h1 hq => ?_)
  obtain ⟨rfl, rfl⟩ := hq
  refine XW.if_eqB 26 8 dX4_of_5 (by decide) rfl (fun c_5 => ?_) (fun c_5 => ?_)
  · rw [e1] at c_5; cases c_5
  · refine XW.iload_n 9 dX4_of_8 rfl rfl ?_
    refine XW.iconst 10 dX4_of_9 (v := 0) (by decide) rfl ?_
    refine XW.iconst 11 dX4_of_10 (v := 5) (by decide) rfl ?_
    refine XW.callS 14 (vs := [.int 3, .int 0, .int 5]) (rest := []) (mcr := 0) (msr := 0) c4_49 dX4_of_11 rfl (by decide) (Nat.le_of_ble_eq_true rfl) rfl rfl (Nat.le_of_ble_eq_true rfl) rfl (c_in_ _ _ _ _) (fun r h1 hq => ?_)
    obtain ⟨rfl, rfl⟩ := hq
    refine XW.if_eqB 26 17 dX4_of_14 (by decide) rfl (fun c_14 => ?_) (fun c_14 => ?_)
    · exact absurd c_14 (by decide)
    · refine XW.aload_n 18 dX4_of_17 rfl rfl ?_
      refine XW.iload_n 19 dX4_of_18 rfl rfl ?_
      refine XW.iload_n 20 dX4_of_19 rfl rfl ?_
      refine XW.callV 23 (vs := [.int x, .int 3]) (rest := []) (mcr := 0) (msr := 0) c4_114 dX4_of_20 rfl rfl (by decide) (Nat.le_of_ble_eq_true rfl) rfl rfl (Nat.le_of_ble_eq_true rfl) rfl (k_ofColour_3 mi _ hx ic) (fun r h1 hq => ?_)
      obtain ⟨rfl, rfl⟩ := hq
      refine XW.goto 30 dX4_of_23 (by decide) ?_
      exact XW.iret dX4_of_30 rfl (⟨rfl, rfl⟩)
set_option maxHeartbeats 400000 in
set_option maxRecDepth 100000 in
theorem u_of_4 {Z : xZ} {c l : Nat} (mi : MI (Z.2.1 54) c l) (x : Int32) {i : Nat} (hx : x = nI i) (ic : i < c) (e1 : isC x (Z.2.1 54 0) = true) : XC mX4_of 4 0 0 [.ref 53, .int x, .int 4] (HP Z) (fun r h' => r = some (.int (b2i (fitC (mR (Z.2.1 54)) (mG (Z.2.1 54)) (mL (Z.2.1 54)) i))) ∧ h' = HP Z) := by
  show XW mX4_of 4 0 0 0 [some (.ref 53), some (.int x), some (.int 4)] [] (HP Z) _
  obtain ⟨hc, c20, hl, l8, ok, hf, hdi, hfb⟩ := id mi
  refine XW.aload_n 1 dX4_of_0 rfl rfl ?_
  refine XW.iload_n 2 dX4_of_1 rfl rfl ?_
  refine XW.callV 5 (vs := [.int x]) (rest := []) (mcr := 0) (msr := 0) c4_81 dX4_of_2 rfl rfl (by decide) (Nat.le_of_ble_eq_true rfl) rfl rfl (Nat.le_of_ble_eq_true rfl) rfl (k_isColour mi _) (fun r h1 hq => ?_)
  obtain ⟨rfl, rfl⟩ := hq
  refine XW.if_eqB 26 8 dX4_of_5 (by decide) rfl (fun c_5 => ?_) (fun c_5 => ?_)
  · rw [e1] at c_5; cases c_5
  · refine XW.iload_n 9 dX4_of_8 rfl rfl ?_
    refine XW.iconst 10 dX4_of_9 (v := 0) (by decide) rfl ?_
    refine XW.iconst 11 dX4_of_10 (v := 5) (by decide) rfl ?_
    refine XW.callS 14 (vs := [.int 4, .int 0, .int 5]) (rest := []) (mcr := 0) (msr := 0) c4_49 dX4_of_11 rfl (by decide) (Nat.le_of_ble_eq_true rfl) rfl rfl (Nat.le_of_ble_eq_true rfl) rfl (c_in_ _ _ _ _) (fun r h1 hq => ?_)
    obtain ⟨rfl, rfl⟩ := hq
    refine XW.if_eqB 26 17 dX4_of_14 (by decide) rfl (fun c_14 => ?_) (fun c_14 => ?_)
    · exact absurd c_14 (by decide)
    · refine XW.aload_n 18 dX4_of_17 rfl rfl ?_
      refine XW.iload_n 19 dX4_of_18 rfl rfl ?_
      refine XW.iload_n 20 dX4_of_19 rfl rfl ?_
      refine XW.callV 23 (vs := [.int x, .int 4]) (rest := []) (mcr := 0) (msr := 0) c4_114 dX4_of_20 rfl rfl (by decide) (Nat.le_of_ble_eq_true rfl) rfl rfl (Nat.le_of_ble_eq_true rfl) rfl (k_ofColour_4 mi _ hx ic) (fun r h1 hq => ?_)
      obtain ⟨rfl, rfl⟩ := hq
      refine XW.goto 30 dX4_of_23 (by decide) ?_
      exact XW.iret dX4_of_30 rfl (⟨rfl, rfl⟩)
set_option maxHeartbeats 400000 in
set_option maxRecDepth 100000 in
theorem u_of_5 {Z : xZ} {c l : Nat} (mi : MI (Z.2.1 54) c l) (x : Int32) {i : Nat} (hx : x = nI i) (ic : i < c) (e1 : isC x (Z.2.1 54 0) = true) : XC mX4_of 4 0 0 [.ref 53, .int x, .int 5] (HP Z) (fun r h' => r = some (.int (plF (mP (Z.2.1 54)) x l 0)) ∧ h' = HP Z) := by
  show XW mX4_of 4 0 0 0 [some (.ref 53), some (.int x), some (.int 5)] [] (HP Z) _
  obtain ⟨hc, c20, hl, l8, ok, hf, hdi, hfb⟩ := id mi
  refine XW.aload_n 1 dX4_of_0 rfl rfl ?_
  refine XW.iload_n 2 dX4_of_1 rfl rfl ?_
  refine XW.callV 5 (vs := [.int x]) (rest := []) (mcr := 0) (msr := 0) c4_81 dX4_of_2 rfl rfl (by decide) (Nat.le_of_ble_eq_true rfl) rfl rfl (Nat.le_of_ble_eq_true rfl) rfl (k_isColour mi _) (fun r h1 hq => ?_)
  obtain ⟨rfl, rfl⟩ := hq
  refine XW.if_eqB 26 8 dX4_of_5 (by decide) rfl (fun c_5 => ?_) (fun c_5 => ?_)
  · rw [e1] at c_5; cases c_5
  · refine XW.iload_n 9 dX4_of_8 rfl rfl ?_
    refine XW.iconst 10 dX4_of_9 (v := 0) (by decide) rfl ?_
    refine XW.iconst 11 dX4_of_10 (v := 5) (by decide) rfl ?_
    refine XW.callS 14 (vs := [.int 5, .int 0, .int 5]) (rest := []) (mcr := 0) (msr := 0) c4_49 dX4_of_11 rfl (by decide) (Nat.le_of_ble_eq_true rfl) rfl rfl (Nat.le_of_ble_eq_true rfl) rfl (c_in_ _ _ _ _) (fun r h1 hq => ?_)
    obtain ⟨rfl, rfl⟩ := hq
    refine XW.if_eqB 26 17 dX4_of_14 (by decide) rfl (fun c_14 => ?_) (fun c_14 => ?_)
    · exact absurd c_14 (by decide)
    · refine XW.aload_n 18 dX4_of_17 rfl rfl ?_
      refine XW.iload_n 19 dX4_of_18 rfl rfl ?_
      refine XW.iload_n 20 dX4_of_19 rfl rfl ?_
      refine XW.callV 23 (vs := [.int x, .int 5]) (rest := []) (mcr := 0) (msr := 0) c4_114 dX4_of_20 rfl rfl (by decide) (Nat.le_of_ble_eq_true rfl) rfl rfl (Nat.le_of_ble_eq_true rfl) rfl (k_ofColour_5 mi _ hx ic) (fun r h1 hq => ?_)
      obtain ⟨rfl, rfl⟩ := hq
      refine XW.goto 30 dX4_of_23 (by decide) ?_
      exact XW.iret dX4_of_30 rfl (⟨rfl, rfl⟩)
set_option maxHeartbeats 400000 in
set_option maxRecDepth 100000 in
theorem u_look_bad {Z : xZ} {c l : Nat} (mi : MI (Z.2.1 54) c l) (x y : Int32) (e : (inF x 0 3 && inF y 0 12) = false) : XC mX4_look 4 0 0 [.ref 53, .int x, .int y] (HP Z) (fun r h' => r = some (.int (-2)) ∧ h' = HP (rmZ Z 0)) := by
  show XW mX4_look 4 0 0 0 [some (.ref 53), some (.int x), some (.int y)] [] (HP Z) _
  obtain ⟨hc, c20, hl, l8, ok, hf, hdi, hfb⟩ := id mi
  refine XW.iload_n 1 dX4_look_0 rfl rfl ?_
  refine XW.callS 4 (vs := [.int x]) (rest := []) (mcr := 0) (msr := 0) c4_84 dX4_look_1 rfl (by decide) (Nat.le_of_ble_eq_true rfl) rfl rfl (Nat.le_of_ble_eq_true rfl) rfl (k_isEye _ _) (fun r h1 hq => ?_)
  obtain ⟨rfl, rfl⟩ := hq
  refine XW.if_eqB 34 7 dX4_look_4 (by decide) rfl (fun c_4 => ?_) (fun c_4 => ?_)
  · refine XW.aload_n 35 dX4_look_34 rfl rfl ?_
    refine XW.callV 38 (vs := []) (rest := []) (mcr := 0) (msr := 0) c4_68 dX4_look_35 rfl rfl (by decide) (Nat.le_of_ble_eq_true rfl) rfl rfl (Nat.le_of_ble_eq_true rfl) rfl k_bad (fun r h1 hq => ?_)
    obtain ⟨rfl, rfl⟩ := hq
    refine XW.eqs (st' := [.int (-2)]) rfl rfl rfl ?_
    exact XW.iret dX4_look_38 rfl (⟨rfl, rfl⟩)
  · refine XW.iload_n 8 dX4_look_7 rfl rfl ?_
    refine XW.iconst 9 dX4_look_8 (v := 0) (by decide) rfl ?_
    refine XW.bipush 11 dX4_look_9 (v := 12) (by decide) rfl ?_
    refine XW.callS 14 (vs := [.int y, .int 0, .int 12]) (rest := []) (mcr := 0) (msr := 0) c4_49 dX4_look_11 rfl (by decide) (Nat.le_of_ble_eq_true rfl) rfl rfl (Nat.le_of_ble_eq_true rfl) rfl (c_in_ _ _ _ _) (fun r h1 hq => ?_)
    obtain ⟨rfl, rfl⟩ := hq
    refine XW.if_eqB 34 17 dX4_look_14 (by decide) rfl (fun c_14 => ?_) (fun c_14 => ?_)
    · refine XW.aload_n 35 dX4_look_34 rfl rfl ?_
      refine XW.callV 38 (vs := []) (rest := []) (mcr := 0) (msr := 0) c4_68 dX4_look_35 rfl rfl (by decide) (Nat.le_of_ble_eq_true rfl) rfl rfl (Nat.le_of_ble_eq_true rfl) rfl k_bad (fun r h1 hq => ?_)
      obtain ⟨rfl, rfl⟩ := hq
      refine XW.eqs (st' := [.int (-2)]) rfl rfl rfl ?_
      exact XW.iret dX4_look_38 rfl (⟨rfl, rfl⟩)
    · exact absurd e (by rw [c_4, c_14]; decide)
set_option maxHeartbeats 400000 in
set_option maxRecDepth 100000 in
theorem u_look_ok {Z : xZ} {c l : Nat} (mi : MI (Z.2.1 54) c l) (x y : Int32) {e k : Nat} (hx : x = nI e) (hy : y = nI k) (e4 : e < 4) (k13 : k < 13) (e1 : inF x 0 3 = true) (e2 : inF y 0 12 = true) : XC mX4_look 4 0 0 [.ref 53, .int x, .int y] (HP Z) (fun r h' => r = some (.int ((mE (Z.2.1 54)) (13 * e + k))) ∧ h' = HP Z) := by
  show XW mX4_look 4 0 0 0 [some (.ref 53), some (.int x), some (.int y)] [] (HP Z) _
  obtain ⟨hc, c20, hl, l8, ok, hf, hdi, hfb⟩ := id mi
  refine XW.iload_n 1 dX4_look_0 rfl rfl ?_
  refine XW.callS 4 (vs := [.int x]) (rest := []) (mcr := 0) (msr := 0) c4_84 dX4_look_1 rfl (by decide) (Nat.le_of_ble_eq_true rfl) rfl rfl (Nat.le_of_ble_eq_true rfl) rfl (k_isEye _ _) (fun r h1 hq => ?_)
  obtain ⟨rfl, rfl⟩ := hq
  refine XW.if_eqB 34 7 dX4_look_4 (by decide) rfl (fun c_4 => ?_) (fun c_4 => ?_)
  · rw [e1] at c_4; cases c_4
  · refine XW.iload_n 8 dX4_look_7 rfl rfl ?_
    refine XW.iconst 9 dX4_look_8 (v := 0) (by decide) rfl ?_
    refine XW.bipush 11 dX4_look_9 (v := 12) (by decide) rfl ?_
    refine XW.callS 14 (vs := [.int y, .int 0, .int 12]) (rest := []) (mcr := 0) (msr := 0) c4_49 dX4_look_11 rfl (by decide) (Nat.le_of_ble_eq_true rfl) rfl rfl (Nat.le_of_ble_eq_true rfl) rfl (c_in_ _ _ _ _) (fun r h1 hq => ?_)
    obtain ⟨rfl, rfl⟩ := hq
    refine XW.if_eqB 34 17 dX4_look_14 (by decide) rfl (fun c_14 => ?_) (fun c_14 => ?_)
    · rw [e2] at c_14; cases c_14
    · refine XW.aload_n 18 dX4_look_17 rfl rfl ?_
      refine XW.getf 21 (v := .ref 54) f4_7 dX4_look_18 rfl rfl rfl ?_
      refine XW.bipush 23 dX4_look_21 (v := 62) (by decide) rfl ?_
      refine XW.bipush 25 dX4_look_23 (v := 13) (by decide) rfl ?_
      refine XW.iload_n 26 dX4_look_25 rfl rfl ?_
      refine XW.imul 27 dX4_look_26 rfl ?_
      refine XW.iadd 28 dX4_look_27 rfl ?_
      refine XW.iload_n 29 dX4_look_28 rfl rfl ?_
      refine XW.iadd 30 dX4_look_29 rfl ?_
      refine XW.iald 31 (62 + (13 * e + k)) dX4_look_30 rfl (nj (m := (62 + (13 * e)) + k) (na (na rfl (nm rfl hx)) hy) (by omega)) (by omega) (by decide) rfl ?_
      refine XW.goto 38 dX4_look_31 (by decide) ?_
      exact XW.iret dX4_look_38 rfl (⟨rfl, rfl⟩)
set_option maxHeartbeats 400000 in
set_option maxRecDepth 100000 in
theorem u_light_bad {Z : xZ} {c l : Nat} (mi : MI (Z.2.1 54) c l) (x : Int32) (e : isC x (Z.2.1 54 0) = false) : XC mX4_light 4 0 0 [.ref 53, .int x] (HP Z) (fun r h' => r = some (.int (-2)) ∧ h' = HP (rmZ Z 0)) := by
  show XW mX4_light 4 0 0 0 [some (.ref 53), some (.int x)] [] (HP Z) _
  obtain ⟨hc, c20, hl, l8, ok, hf, hdi, hfb⟩ := id mi
  refine XW.aload_n 1 dX4_light_0 rfl rfl ?_
  refine XW.iload_n 2 dX4_light_1 rfl rfl ?_
  refine XW.callV 5 (vs := [.int x]) (rest := []) (mcr := 0) (msr := 0) c4_81 dX4_light_2 rfl rfl (by decide) (Nat.le_of_ble_eq_true rfl) rfl rfl (Nat.le_of_ble_eq_true rfl) rfl (k_isColour mi _) (fun r h1 hq => ?_)
  obtain ⟨rfl, rfl⟩ := hq
  refine XW.if_eqB 23 8 dX4_light_5 (by decide) rfl (fun c_5 => ?_) (fun c_5 => ?_)
  · refine XW.aload_n 24 dX4_light_23 rfl rfl ?_
    refine XW.callV 27 (vs := []) (rest := []) (mcr := 0) (msr := 0) c4_68 dX4_light_24 rfl rfl (by decide) (Nat.le_of_ble_eq_true rfl) rfl rfl (Nat.le_of_ble_eq_true rfl) rfl k_bad (fun r h1 hq => ?_)
    obtain ⟨rfl, rfl⟩ := hq
    refine XW.eqs (st' := [.int (-2)]) rfl rfl rfl ?_
    exact XW.iret dX4_light_27 rfl (⟨rfl, rfl⟩)
  · rw [e] at c_5; cases c_5
set_option maxHeartbeats 400000 in
set_option maxRecDepth 100000 in
theorem u_light_ok {Z : xZ} {c l : Nat} (mi : MI (Z.2.1 54) c l) (x : Int32) {i : Nat} (hx : x = nI i) (ic : i < c) (e1 : isC x (Z.2.1 54 0) = true) : XC mX4_light 4 0 0 [.ref 53, .int x] (HP Z) (fun r h' => r = some (.int (lightC (mR (Z.2.1 54)) (3 * i)).toInt32) ∧ h' = HP Z) := by
  show XW mX4_light 4 0 0 0 [some (.ref 53), some (.int x)] [] (HP Z) _
  obtain ⟨hc, c20, hl, l8, ok, hf, hdi, hfb⟩ := id mi
  refine XW.aload_n 1 dX4_light_0 rfl rfl ?_
  refine XW.iload_n 2 dX4_light_1 rfl rfl ?_
  refine XW.callV 5 (vs := [.int x]) (rest := []) (mcr := 0) (msr := 0) c4_81 dX4_light_2 rfl rfl (by decide) (Nat.le_of_ble_eq_true rfl) rfl rfl (Nat.le_of_ble_eq_true rfl) rfl (k_isColour mi _) (fun r h1 hq => ?_)
  obtain ⟨rfl, rfl⟩ := hq
  refine XW.if_eqB 23 8 dX4_light_5 (by decide) rfl (fun c_5 => ?_) (fun c_5 => ?_)
  · rw [e1] at c_5; cases c_5
  · refine XW.aload_n 9 dX4_light_8 rfl rfl ?_
    refine XW.aload_n 10 dX4_light_9 rfl rfl ?_
    refine XW.iload_n 11 dX4_light_10 rfl rfl ?_
    refine XW.callV 14 (vs := [.int x]) (rest := [.ref 53]) (mcr := 0) (msr := 0) c4_57 dX4_light_11 rfl rfl (by decide) (Nat.le_of_ble_eq_true rfl) rfl rfl (Nat.le_of_ble_eq_true rfl) rfl (k_colourAt _) (fun r h1 hq => ?_)
    obtain ⟨rfl, rfl⟩ := hq
    refine XW.callV 17 (vs := [.int (1 + 3 * x)]) (rest := []) (mcr := 0) (msr := 0) c4_104 dX4_light_14 rfl rfl (by decide) (Nat.le_of_ble_eq_true rfl) rfl rfl (Nat.le_of_ble_eq_true rfl) rfl (k_shineAt (k := 1 + 3 * i) (na (m := 1) rfl (nm (m := 3) rfl hx)) (by omega) (ok_light ok (by omega)).1) (fun r h1 hq => ?_)
    obtain ⟨rfl, rfl⟩ := hq
    refine XW.eqs (st' := [.float (lightC (mR (Z.2.1 54)) (3 * i))]) rfl rfl rfl ?_
    refine XW.callS 20 (vs := [.float (lightC (mR (Z.2.1 54)) (3 * i))]) (rest := []) (mcr := 0) (msr := 0) c4_117 dX4_light_17 rfl (by decide) (Nat.le_of_ble_eq_true rfl) rfl rfl (Nat.le_of_ble_eq_true rfl) rfl (k_bitsOf _ _ (Or.inl (okB_light ok (by omega)))) (fun r h1 hq => ?_)
    obtain ⟨rfl, rfl⟩ := hq
    refine XW.goto 27 dX4_light_20 (by decide) ?_
    exact XW.iret dX4_light_27 rfl (⟨rfl, rfl⟩)
set_option maxHeartbeats 400000 in
set_option maxRecDepth 100000 in
theorem u_seen_bad {Z : xZ} {c l : Nat} (mi : MI (Z.2.1 54) c l) (x y z : Int32) (e : (inF x 0 3 && (isC y (Z.2.1 54 0) && inF z 0 2)) = false) : XC mX4_seen 4 0 0 [.ref 53, .int x, .int y, .int z] (HP Z) (fun r h' => r = some (.int (-2)) ∧ h' = HP (rmZ Z 0)) := by
  show XW mX4_seen 4 0 0 0 [some (.ref 53), some (.int x), some (.int y), some (.int z)] [] (HP Z) _
  obtain ⟨hc, c20, hl, l8, ok, hf, hdi, hfb⟩ := id mi
  refine XW.iload_n 1 dX4_seen_0 rfl rfl ?_
  refine XW.callS 4 (vs := [.int x]) (rest := []) (mcr := 0) (msr := 0) c4_84 dX4_seen_1 rfl (by decide) (Nat.le_of_ble_eq_true rfl) rfl rfl (Nat.le_of_ble_eq_true rfl) rfl (k_isEye _ _) (fun r h1 hq => ?_)
  obtain ⟨rfl, rfl⟩ := hq
  refine XW.if_eqB 37 7 dX4_seen_4 (by decide) rfl (fun c_4 => ?_) (fun c_4 => ?_)
  · refine XW.aload_n 38 dX4_seen_37 rfl rfl ?_
    refine XW.callV 41 (vs := []) (rest := []) (mcr := 0) (msr := 0) c4_68 dX4_seen_38 rfl rfl (by decide) (Nat.le_of_ble_eq_true rfl) rfl rfl (Nat.le_of_ble_eq_true rfl) rfl k_bad (fun r h1 hq => ?_)
    obtain ⟨rfl, rfl⟩ := hq
    refine XW.eqs (st' := [.int (-2)]) rfl rfl rfl ?_
    exact XW.iret dX4_seen_41 rfl (⟨rfl, rfl⟩)
  · refine XW.aload_n 8 dX4_seen_7 rfl rfl ?_
    refine XW.iload_n 9 dX4_seen_8 rfl rfl ?_
    refine XW.callV 12 (vs := [.int y]) (rest := []) (mcr := 0) (msr := 0) c4_81 dX4_seen_9 rfl rfl (by decide) (Nat.le_of_ble_eq_true rfl) rfl rfl (Nat.le_of_ble_eq_true rfl) rfl (k_isColour mi _) (fun r h1 hq => ?_)
    obtain ⟨rfl, rfl⟩ := hq
    refine XW.if_eqB 37 15 dX4_seen_12 (by decide) rfl (fun c_12 => ?_) (fun c_12 => ?_)
    · refine XW.aload_n 38 dX4_seen_37 rfl rfl ?_
      refine XW.callV 41 (vs := []) (rest := []) (mcr := 0) (msr := 0) c4_68 dX4_seen_38 rfl rfl (by decide) (Nat.le_of_ble_eq_true rfl) rfl rfl (Nat.le_of_ble_eq_true rfl) rfl k_bad (fun r h1 hq => ?_)
      obtain ⟨rfl, rfl⟩ := hq
      refine XW.eqs (st' := [.int (-2)]) rfl rfl rfl ?_
      exact XW.iret dX4_seen_41 rfl (⟨rfl, rfl⟩)
    · refine XW.iload_n 16 dX4_seen_15 rfl rfl ?_
      refine XW.iconst 17 dX4_seen_16 (v := 0) (by decide) rfl ?_
      refine XW.iconst 18 dX4_seen_17 (v := 2) (by decide) rfl ?_
      refine XW.callS 21 (vs := [.int z, .int 0, .int 2]) (rest := []) (mcr := 0) (msr := 0) c4_49 dX4_seen_18 rfl (by decide) (Nat.le_of_ble_eq_true rfl) rfl rfl (Nat.le_of_ble_eq_true rfl) rfl (c_in_ _ _ _ _) (fun r h1 hq => ?_)
      obtain ⟨rfl, rfl⟩ := hq
      refine XW.if_eqB 37 24 dX4_seen_21 (by decide) rfl (fun c_21 => ?_) (fun c_21 => ?_)
      · refine XW.aload_n 38 dX4_seen_37 rfl rfl ?_
        refine XW.callV 41 (vs := []) (rest := []) (mcr := 0) (msr := 0) c4_68 dX4_seen_38 rfl rfl (by decide) (Nat.le_of_ble_eq_true rfl) rfl rfl (Nat.le_of_ble_eq_true rfl) rfl k_bad (fun r h1 hq => ?_)
        obtain ⟨rfl, rfl⟩ := hq
        refine XW.eqs (st' := [.int (-2)]) rfl rfl rfl ?_
        exact XW.iret dX4_seen_41 rfl (⟨rfl, rfl⟩)
      · exact absurd e (by rw [c_4, c_12, c_21]; decide)
set_option maxHeartbeats 400000 in
set_option maxRecDepth 100000 in
theorem u_seen_ok {Z : xZ} {c l : Nat} (mi : MI (Z.2.1 54) c l) (x y z : Int32) {e i k : Nat} (hx : x = nI e) (hy : y = nI i) (hz : z = nI k) (e4 : e < 4) (ic : i < c) (k3 : k < 3) (e1 : inF x 0 3 = true) (e2 : isC y (Z.2.1 54 0) = true) (e3 : inF z 0 2 = true) : XC mX4_seen 4 0 0 [.ref 53, .int x, .int y, .int z] (HP Z) (fun r h' => r = some (.int (sawF (mE (Z.2.1 54)) (mR (Z.2.1 54)) e i k).toInt32) ∧ h' = HP Z) := by
  show XW mX4_seen 4 0 0 0 [some (.ref 53), some (.int x), some (.int y), some (.int z)] [] (HP Z) _
  obtain ⟨hc, c20, hl, l8, ok, hf, hdi, hfb⟩ := id mi
  refine XW.iload_n 1 dX4_seen_0 rfl rfl ?_
  refine XW.callS 4 (vs := [.int x]) (rest := []) (mcr := 0) (msr := 0) c4_84 dX4_seen_1 rfl (by decide) (Nat.le_of_ble_eq_true rfl) rfl rfl (Nat.le_of_ble_eq_true rfl) rfl (k_isEye _ _) (fun r h1 hq => ?_)
  obtain ⟨rfl, rfl⟩ := hq
  refine XW.if_eqB 37 7 dX4_seen_4 (by decide) rfl (fun c_4 => ?_) (fun c_4 => ?_)
  · rw [e1] at c_4; cases c_4
  · refine XW.aload_n 8 dX4_seen_7 rfl rfl ?_
    refine XW.iload_n 9 dX4_seen_8 rfl rfl ?_
    refine XW.callV 12 (vs := [.int y]) (rest := []) (mcr := 0) (msr := 0) c4_81 dX4_seen_9 rfl rfl (by decide) (Nat.le_of_ble_eq_true rfl) rfl rfl (Nat.le_of_ble_eq_true rfl) rfl (k_isColour mi _) (fun r h1 hq => ?_)
    obtain ⟨rfl, rfl⟩ := hq
    refine XW.if_eqB 37 15 dX4_seen_12 (by decide) rfl (fun c_12 => ?_) (fun c_12 => ?_)
    · rw [e2] at c_12; cases c_12
    · refine XW.iload_n 16 dX4_seen_15 rfl rfl ?_
      refine XW.iconst 17 dX4_seen_16 (v := 0) (by decide) rfl ?_
      refine XW.iconst 18 dX4_seen_17 (v := 2) (by decide) rfl ?_
      refine XW.callS 21 (vs := [.int z, .int 0, .int 2]) (rest := []) (mcr := 0) (msr := 0) c4_49 dX4_seen_18 rfl (by decide) (Nat.le_of_ble_eq_true rfl) rfl rfl (Nat.le_of_ble_eq_true rfl) rfl (c_in_ _ _ _ _) (fun r h1 hq => ?_)
      obtain ⟨rfl, rfl⟩ := hq
      refine XW.if_eqB 37 24 dX4_seen_21 (by decide) rfl (fun c_21 => ?_) (fun c_21 => ?_)
      · rw [e3] at c_21; cases c_21
      · refine XW.aload_n 25 dX4_seen_24 rfl rfl ?_
        refine XW.iload_n 26 dX4_seen_25 rfl rfl ?_
        refine XW.iload_n 27 dX4_seen_26 rfl rfl ?_
        refine XW.iload_n 28 dX4_seen_27 rfl rfl ?_
        refine XW.callV 31 (vs := [.int x, .int y, .int z]) (rest := []) (mcr := 0) (msr := 0) c4_122 dX4_seen_28 rfl rfl (by decide) (Nat.le_of_ble_eq_true rfl) rfl rfl (Nat.le_of_ble_eq_true rfl) rfl (k_sight mi (e := e) (i := i) (k := k) hx hy hz (by omega) (by omega) (by omega)) (fun r h1 hq => ?_)
        obtain ⟨rfl, rfl⟩ := hq
        refine XW.callS 34 (vs := [.float (sawF (mE (Z.2.1 54)) (mR (Z.2.1 54)) e i k)]) (rest := []) (mcr := 0) (msr := 0) c4_117 dX4_seen_31 rfl (by decide) (Nat.le_of_ble_eq_true rfl) rfl rfl (Nat.le_of_ble_eq_true rfl) rfl (k_bitsOf _ _ (okB_saw2 ok (by omega) (by omega) (by omega))) (fun r h1 hq => ?_)
        obtain ⟨rfl, rfl⟩ := hq
        refine XW.goto 41 dX4_seen_34 (by decide) ?_
        exact XW.iret dX4_seen_41 rfl (⟨rfl, rfl⟩)
set_option maxHeartbeats 400000 in
set_option maxRecDepth 100000 in
theorem u_distance_bad {Z : xZ} {c l : Nat} (mi : MI (Z.2.1 54) c l) (x y z : Int32) (e : (inF x 0 3 && (isC y (Z.2.1 54 0) && isC z (Z.2.1 54 0))) = false) : XC mX4_distance 4 0 0 [.ref 53, .int x, .int y, .int z] (HP Z) (fun r h' => r = some (.int (-2)) ∧ h' = HP (rmZ Z 0)) := by
  show XW mX4_distance 4 0 0 0 [some (.ref 53), some (.int x), some (.int y), some (.int z)] [] (HP Z) _
  obtain ⟨hc, c20, hl, l8, ok, hf, hdi, hfb⟩ := id mi
  refine XW.iload_n 1 dX4_distance_0 rfl rfl ?_
  refine XW.callS 4 (vs := [.int x]) (rest := []) (mcr := 0) (msr := 0) c4_84 dX4_distance_1 rfl (by decide) (Nat.le_of_ble_eq_true rfl) rfl rfl (Nat.le_of_ble_eq_true rfl) rfl (k_isEye _ _) (fun r h1 hq => ?_)
  obtain ⟨rfl, rfl⟩ := hq
  refine XW.if_eqB 36 7 dX4_distance_4 (by decide) rfl (fun c_4 => ?_) (fun c_4 => ?_)
  · refine XW.aload_n 37 dX4_distance_36 rfl rfl ?_
    refine XW.callV 40 (vs := []) (rest := []) (mcr := 0) (msr := 0) c4_68 dX4_distance_37 rfl rfl (by decide) (Nat.le_of_ble_eq_true rfl) rfl rfl (Nat.le_of_ble_eq_true rfl) rfl k_bad (fun r h1 hq => ?_)
    obtain ⟨rfl, rfl⟩ := hq
    refine XW.eqs (st' := [.int (-2)]) rfl rfl rfl ?_
    exact XW.iret dX4_distance_40 rfl (⟨rfl, rfl⟩)
  · refine XW.aload_n 8 dX4_distance_7 rfl rfl ?_
    refine XW.iload_n 9 dX4_distance_8 rfl rfl ?_
    refine XW.callV 12 (vs := [.int y]) (rest := []) (mcr := 0) (msr := 0) c4_81 dX4_distance_9 rfl rfl (by decide) (Nat.le_of_ble_eq_true rfl) rfl rfl (Nat.le_of_ble_eq_true rfl) rfl (k_isColour mi _) (fun r h1 hq => ?_)
    obtain ⟨rfl, rfl⟩ := hq
    refine XW.if_eqB 36 15 dX4_distance_12 (by decide) rfl (fun c_12 => ?_) (fun c_12 => ?_)
    · refine XW.aload_n 37 dX4_distance_36 rfl rfl ?_
      refine XW.callV 40 (vs := []) (rest := []) (mcr := 0) (msr := 0) c4_68 dX4_distance_37 rfl rfl (by decide) (Nat.le_of_ble_eq_true rfl) rfl rfl (Nat.le_of_ble_eq_true rfl) rfl k_bad (fun r h1 hq => ?_)
      obtain ⟨rfl, rfl⟩ := hq
      refine XW.eqs (st' := [.int (-2)]) rfl rfl rfl ?_
      exact XW.iret dX4_distance_40 rfl (⟨rfl, rfl⟩)
    · refine XW.aload_n 16 dX4_distance_15 rfl rfl ?_
      refine XW.iload_n 17 dX4_distance_16 rfl rfl ?_
      refine XW.callV 20 (vs := [.int z]) (rest := []) (mcr := 0) (msr := 0) c4_81 dX4_distance_17 rfl rfl (by decide) (Nat.le_of_ble_eq_true rfl) rfl rfl (Nat.le_of_ble_eq_true rfl) rfl (k_isColour mi _) (fun r h1 hq => ?_)
      obtain ⟨rfl, rfl⟩ := hq
      refine XW.if_eqB 36 23 dX4_distance_20 (by decide) rfl (fun c_20 => ?_) (fun c_20 => ?_)
      · refine XW.aload_n 37 dX4_distance_36 rfl rfl ?_
        refine XW.callV 40 (vs := []) (rest := []) (mcr := 0) (msr := 0) c4_68 dX4_distance_37 rfl rfl (by decide) (Nat.le_of_ble_eq_true rfl) rfl rfl (Nat.le_of_ble_eq_true rfl) rfl k_bad (fun r h1 hq => ?_)
        obtain ⟨rfl, rfl⟩ := hq
        refine XW.eqs (st' := [.int (-2)]) rfl rfl rfl ?_
        exact XW.iret dX4_distance_40 rfl (⟨rfl, rfl⟩)
      · exact absurd e (by rw [c_4, c_12, c_20]; decide)
set_option maxHeartbeats 400000 in
set_option maxRecDepth 100000 in
theorem u_distance_ok {Z : xZ} {c l : Nat} (mi : MI (Z.2.1 54) c l) (x y z : Int32) {e i j : Nat} (hx : x = nI e) (hy : y = nI i) (hz : z = nI j) (e4 : e < 4) (ic : i < c) (jc : j < c) (e1 : inF x 0 3 = true) (e2 : isC y (Z.2.1 54 0) = true) (e3 : isC z (Z.2.1 54 0) = true) : XC mX4_distance 4 0 0 [.ref 53, .int x, .int y, .int z] (HP Z) (fun r h' => r = some (.int (distF (mE (Z.2.1 54)) (mR (Z.2.1 54)) e i j).toInt32) ∧ h' = HP Z) := by
  show XW mX4_distance 4 0 0 0 [some (.ref 53), some (.int x), some (.int y), some (.int z)] [] (HP Z) _
  obtain ⟨hc, c20, hl, l8, ok, hf, hdi, hfb⟩ := id mi
  refine XW.iload_n 1 dX4_distance_0 rfl rfl ?_
  refine XW.callS 4 (vs := [.int x]) (rest := []) (mcr := 0) (msr := 0) c4_84 dX4_distance_1 rfl (by decide) (Nat.le_of_ble_eq_true rfl) rfl rfl (Nat.le_of_ble_eq_true rfl) rfl (k_isEye _ _) (fun r h1 hq => ?_)
  obtain ⟨rfl, rfl⟩ := hq
  refine XW.if_eqB 36 7 dX4_distance_4 (by decide) rfl (fun c_4 => ?_) (fun c_4 => ?_)
  · rw [e1] at c_4; cases c_4
  · refine XW.aload_n 8 dX4_distance_7 rfl rfl ?_
    refine XW.iload_n 9 dX4_distance_8 rfl rfl ?_
    refine XW.callV 12 (vs := [.int y]) (rest := []) (mcr := 0) (msr := 0) c4_81 dX4_distance_9 rfl rfl (by decide) (Nat.le_of_ble_eq_true rfl) rfl rfl (Nat.le_of_ble_eq_true rfl) rfl (k_isColour mi _) (fun r h1 hq => ?_)
    obtain ⟨rfl, rfl⟩ := hq
    refine XW.if_eqB 36 15 dX4_distance_12 (by decide) rfl (fun c_12 => ?_) (fun c_12 => ?_)
    · rw [e2] at c_12; cases c_12
    · refine XW.aload_n 16 dX4_distance_15 rfl rfl ?_
      refine XW.iload_n 17 dX4_distance_16 rfl rfl ?_
      refine XW.callV 20 (vs := [.int z]) (rest := []) (mcr := 0) (msr := 0) c4_81 dX4_distance_17 rfl rfl (by decide) (Nat.le_of_ble_eq_true rfl) rfl rfl (Nat.le_of_ble_eq_true rfl) rfl (k_isColour mi _) (fun r h1 hq => ?_)
      obtain ⟨rfl, rfl⟩ := hq
      refine XW.if_eqB 36 23 dX4_distance_20 (by decide) rfl (fun c_20 => ?_) (fun c_20 => ?_)
      · rw [e3] at c_20; cases c_20
      · refine XW.aload_n 24 dX4_distance_23 rfl rfl ?_
        refine XW.iload_n 25 dX4_distance_24 rfl rfl ?_
        refine XW.iload_n 26 dX4_distance_25 rfl rfl ?_
        refine XW.iload_n 27 dX4_distance_26 rfl rfl ?_
        refine XW.callV 30 (vs := [.int x, .int y, .int z]) (rest := []) (mcr := 0) (msr := 0) c4_126 dX4_distance_27 rfl rfl (by decide) (Nat.le_of_ble_eq_true rfl) rfl rfl (Nat.le_of_ble_eq_true rfl) rfl (k_farFor mi (e := e) (i := i) (j := j) hx hy hz (by omega) (by omega) (by omega)) (fun r h1 hq => ?_)
        obtain ⟨rfl, rfl⟩ := hq
        refine XW.callS 33 (vs := [.float (distF (mE (Z.2.1 54)) (mR (Z.2.1 54)) e i j)]) (rest := []) (mcr := 0) (msr := 0) c4_117 dX4_distance_30 rfl (by decide) (Nat.le_of_ble_eq_true rfl) rfl rfl (Nat.le_of_ble_eq_true rfl) rfl (k_bitsOf _ _ (Or.inl (okB_dist ok (by omega) (by omega) (by omega)))) (fun r h1 hq => ?_)
        obtain ⟨rfl, rfl⟩ := hq
        refine XW.goto 40 dX4_distance_33 (by decide) ?_
        exact XW.iret dX4_distance_40 rfl (⟨rfl, rfl⟩)
set_option maxHeartbeats 400000 in
set_option maxRecDepth 100000 in
theorem u_apart_bad {Z : xZ} {c l : Nat} (mi : MI (Z.2.1 54) c l) (x y : Int32) (e : (isC x (Z.2.1 54 0) && isC y (Z.2.1 54 0)) = false) : XC mX4_apart 4 0 0 [.ref 53, .int x, .int y] (HP Z) (fun r h' => r = some (.int (-2)) ∧ h' = HP (rmZ Z 0)) := by
  show XW mX4_apart 4 0 0 0 [some (.ref 53), some (.int x), some (.int y)] [] (HP Z) _
  obtain ⟨hc, c20, hl, l8, ok, hf, hdi, hfb⟩ := id mi
  refine XW.aload_n 1 dX4_apart_0 rfl rfl ?_
  refine XW.iload_n 2 dX4_apart_1 rfl rfl ?_
  refine XW.callV 5 (vs := [.int x]) (rest := []) (mcr := 0) (msr := 0) c4_81 dX4_apart_2 rfl rfl (by decide) (Nat.le_of_ble_eq_true rfl) rfl rfl (Nat.le_of_ble_eq_true rfl) rfl (k_isColour mi _) (fun r h1 hq => ?_)
  obtain ⟨rfl, rfl⟩ := hq
  refine XW.if_eqB 28 8 dX4_apart_5 (by decide) rfl (fun c_5 => ?_) (fun c_5 => ?_)
  · refine XW.aload_n 29 dX4_apart_28 rfl rfl ?_
    refine XW.callV 32 (vs := []) (rest := []) (mcr := 0) (msr := 0) c4_68 dX4_apart_29 rfl rfl (by decide) (Nat.le_of_ble_eq_true rfl) rfl rfl (Nat.le_of_ble_eq_true rfl) rfl k_bad (fun r h1 hq => ?_)
    obtain ⟨rfl, rfl⟩ := hq
    refine XW.eqs (st' := [.int (-2)]) rfl rfl rfl ?_
    exact XW.iret dX4_apart_32 rfl (⟨rfl, rfl⟩)
  · refine XW.aload_n 9 dX4_apart_8 rfl rfl ?_
    refine XW.iload_n 10 dX4_apart_9 rfl rfl ?_
    refine XW.callV 13 (vs := [.int y]) (rest := []) (mcr := 0) (msr := 0) c4_81 dX4_apart_10 rfl rfl (by decide) (Nat.le_of_ble_eq_true rfl) rfl rfl (Nat.le_of_ble_eq_true rfl) rfl (k_isColour mi _) (fun r h1 hq => ?_)
    obtain ⟨rfl, rfl⟩ := hq
    refine XW.if_eqB 28 16 dX4_apart_13 (by decide) rfl (fun c_13 => ?_) (fun c_13 => ?_)
    · refine XW.aload_n 29 dX4_apart_28 rfl rfl ?_
      refine XW.callV 32 (vs := []) (rest := []) (mcr := 0) (msr := 0) c4_68 dX4_apart_29 rfl rfl (by decide) (Nat.le_of_ble_eq_true rfl) rfl rfl (Nat.le_of_ble_eq_true rfl) rfl k_bad (fun r h1 hq => ?_)
      obtain ⟨rfl, rfl⟩ := hq
      refine XW.eqs (st' := [.int (-2)]) rfl rfl rfl ?_
      exact XW.iret dX4_apart_32 rfl (⟨rfl, rfl⟩)
    · exact absurd e (by rw [c_5, c_13]; decide)
set_option maxHeartbeats 400000 in
set_option maxRecDepth 100000 in
theorem u_apart_ok {Z : xZ} {c l : Nat} (mi : MI (Z.2.1 54) c l) (x y : Int32) {i j : Nat} (hx : x = nI i) (hy : y = nI j) (ic : i < c) (jc : j < c) (e1 : isC x (Z.2.1 54 0) = true) (e2 : isC y (Z.2.1 54 0) = true) : XC mX4_apart 4 0 0 [.ref 53, .int x, .int y] (HP Z) (fun r h' => r = some (.int (apartF (mE (Z.2.1 54)) (mR (Z.2.1 54)) i j).toInt32) ∧ h' = HP Z) := by
  show XW mX4_apart 4 0 0 0 [some (.ref 53), some (.int x), some (.int y)] [] (HP Z) _
  obtain ⟨hc, c20, hl, l8, ok, hf, hdi, hfb⟩ := id mi
  refine XW.aload_n 1 dX4_apart_0 rfl rfl ?_
  refine XW.iload_n 2 dX4_apart_1 rfl rfl ?_
  refine XW.callV 5 (vs := [.int x]) (rest := []) (mcr := 0) (msr := 0) c4_81 dX4_apart_2 rfl rfl (by decide) (Nat.le_of_ble_eq_true rfl) rfl rfl (Nat.le_of_ble_eq_true rfl) rfl (k_isColour mi _) (fun r h1 hq => ?_)
  obtain ⟨rfl, rfl⟩ := hq
  refine XW.if_eqB 28 8 dX4_apart_5 (by decide) rfl (fun c_5 => ?_) (fun c_5 => ?_)
  · rw [e1] at c_5; cases c_5
  · refine XW.aload_n 9 dX4_apart_8 rfl rfl ?_
    refine XW.iload_n 10 dX4_apart_9 rfl rfl ?_
    refine XW.callV 13 (vs := [.int y]) (rest := []) (mcr := 0) (msr := 0) c4_81 dX4_apart_10 rfl rfl (by decide) (Nat.le_of_ble_eq_true rfl) rfl rfl (Nat.le_of_ble_eq_true rfl) rfl (k_isColour mi _) (fun r h1 hq => ?_)
    obtain ⟨rfl, rfl⟩ := hq
    refine XW.if_eqB 28 16 dX4_apart_13 (by decide) rfl (fun c_13 => ?_) (fun c_13 => ?_)
    · rw [e2] at c_13; cases c_13
    · refine XW.aload_n 17 dX4_apart_16 rfl rfl ?_
      refine XW.iload_n 18 dX4_apart_17 rfl rfl ?_
      refine XW.iload_n 19 dX4_apart_18 rfl rfl ?_
      refine XW.callV 22 (vs := [.int x, .int y]) (rest := []) (mcr := 0) (msr := 0) c4_129 dX4_apart_19 rfl rfl (by decide) (Nat.le_of_ble_eq_true rfl) rfl rfl (Nat.le_of_ble_eq_true rfl) rfl (k_apartOf mi (i := i) (j := j) hx hy (by omega) (by omega)) (fun r h1 hq => ?_)
      obtain ⟨rfl, rfl⟩ := hq
      refine XW.callS 25 (vs := [.float (apartF (mE (Z.2.1 54)) (mR (Z.2.1 54)) i j)]) (rest := []) (mcr := 0) (msr := 0) c4_117 dX4_apart_22 rfl (by decide) (Nat.le_of_ble_eq_true rfl) rfl rfl (Nat.le_of_ble_eq_true rfl) rfl (k_bitsOf _ _ (Or.inl (okB_apS ok (by omega) (by omega) 4 (by omega)))) (fun r h1 hq => ?_)
      obtain ⟨rfl, rfl⟩ := hq
      refine XW.goto 32 dX4_apart_25 (by decide) ?_
      exact XW.iret dX4_apart_32 rfl (⟨rfl, rfl⟩)
set_option maxHeartbeats 400000 in
set_option maxRecDepth 100000 in
theorem u_palette_bad {Z : xZ} {c l : Nat} (mi : MI (Z.2.1 54) c l) (x : Int32) (e : x < 0) : XC mX4_palette 4 0 0 [.ref 53, .int x] (HP Z) (fun r h' => r = some (.int (-2)) ∧ h' = HP (rmZ Z 0)) := by
  show XW mX4_palette 4 0 0 0 [some (.ref 53), some (.int x)] [] (HP Z) _
  obtain ⟨hc, c20, hl, l8, ok, hf, hdi, hfb⟩ := id mi
  refine XW.iload_n 1 dX4_palette_0 rfl rfl ?_
  refine XW.if_ge 9 4 dX4_palette_1 (by decide) rfl (fun c_1 => ?_) (fun c_1 => ?_)
  · exact absurd c_1 (Int32.not_le.mpr e)
  · refine XW.aload_n 5 dX4_palette_4 rfl rfl ?_
    refine XW.callV 8 (vs := []) (rest := []) (mcr := 0) (msr := 0) c4_68 dX4_palette_5 rfl rfl (by decide) (Nat.le_of_ble_eq_true rfl) rfl rfl (Nat.le_of_ble_eq_true rfl) rfl k_bad (fun r h1 hq => ?_)
    obtain ⟨rfl, rfl⟩ := hq
    refine XW.eqs (st' := [.int (-2)]) rfl rfl rfl ?_
    exact XW.iret dX4_palette_8 rfl (⟨rfl, rfl⟩)
set_option maxHeartbeats 400000 in
set_option maxRecDepth 100000 in
theorem u_palette_ok {Z : xZ} {c l : Nat} (mi : MI (Z.2.1 54) c l) (x : Int32) {i : Nat} (hx : x = nI i) (i31 : i < 2 ^ 31) (e : ¬ x < 0) : XC mX4_palette 4 0 0 [.ref 53, .int x] (HP Z) (fun r h' => r = some (.int (if i < l then (mP (Z.2.1 54)) i else -1)) ∧ h' = HP Z) := by
  show XW mX4_palette 4 0 0 0 [some (.ref 53), some (.int x)] [] (HP Z) _
  obtain ⟨hc, c20, hl, l8, ok, hf, hdi, hfb⟩ := id mi
  refine XW.iload_n 1 dX4_palette_0 rfl rfl ?_
  refine XW.if_ge 9 4 dX4_palette_1 (by decide) rfl (fun c_1 => ?_) (fun c_1 => ?_)
  · refine XW.iload_n 10 dX4_palette_9 rfl rfl ?_
    refine XW.aload_n 11 dX4_palette_10 rfl rfl ?_
    refine XW.getf 14 (v := .ref 54) f4_7 dX4_palette_11 rfl rfl rfl ?_
    refine XW.bipush 16 dX4_palette_14 (v := 120) (by decide) rfl ?_
    refine XW.iald 17 120 dX4_palette_16 rfl rfl (by omega) (by decide) rfl ?_
    refine XW.icmp_geN 32 20 i l dX4_palette_17 (by decide) rfl hx hl (by omega) (by omega) (fun c_17 => ?_) (fun c_17 => ?_)
    · refine XW.iconst 33 dX4_palette_32 (v := -1) (by decide) rfl ?_
      exact XW.iret dX4_palette_33 rfl (⟨by rw [if_neg (by omega)], rfl⟩)
    · refine XW.aload_n 21 dX4_palette_20 rfl rfl ?_
      refine XW.getf 24 (v := .ref 54) f4_7 dX4_palette_21 rfl rfl rfl ?_
      refine XW.bipush 26 dX4_palette_24 (v := 121) (by decide) rfl ?_
      refine XW.iload_n 27 dX4_palette_26 rfl rfl ?_
      refine XW.iadd 28 dX4_palette_27 rfl ?_
      refine XW.iald 29 (121 + i) dX4_palette_28 rfl (na rfl hx) (by omega) (by decide) rfl ?_
      refine XW.goto 33 dX4_palette_29 (by decide) ?_
      exact XW.iret dX4_palette_33 rfl (⟨by rw [if_pos c_17]; rfl, rfl⟩)
  · exact absurd (Int32.not_lt.mp e) c_1
set_option maxHeartbeats 400000 in
set_option maxRecDepth 100000 in
theorem l_kmis_i {Z : xZ} {c l : Nat} (mi : MI (Z.2.1 54) c l) {e : Nat} {xe v : Int32} (hxe : xe = nI e) (e4 : e < 4) (hv : inF v 0 9999 = true) {i : Nat} (il : i < l) (KK : XW mX4_mistaken 4 0 0 28 [some (.ref 53), some (.int xe), some (.int v), some (.int (pbO (fun a b => distF (mE (Z.2.1 54)) (mR (Z.2.1 54)) e (rv (mP (Z.2.1 54)) a) (rv (mP (Z.2.1 54)) b)) (FP.i2f v) l (i + 1))), some (.int (nI (i + 1))), none] [] (HP Z) (fun r h' => r = some (.int (pbO (fun a b => distF (mE (Z.2.1 54)) (mR (Z.2.1 54)) e (rv (mP (Z.2.1 54)) a) (rv (mP (Z.2.1 54)) b)) (FP.i2f v) l l)) ∧ h' = HP Z)) : ∀ (n : Nat) (t : Nat), i + 1 + t ≤ l → l < i + 1 + t + n → XW mX4_mistaken 4 0 0 46 [some (.ref 53), some (.int xe), some (.int v), some (.int (pbI (fun a b => distF (mE (Z.2.1 54)) (mR (Z.2.1 54)) e (rv (mP (Z.2.1 54)) a) (rv (mP (Z.2.1 54)) b)) (FP.i2f v) i (pbO (fun a b => distF (mE (Z.2.1 54)) (mR (Z.2.1 54)) e (rv (mP (Z.2.1 54)) a) (rv (mP (Z.2.1 54)) b)) (FP.i2f v) l i) t)), some (.int (nI i)), some (.int (nI (i + 1 + t)))] [] (HP Z) (fun r h' => r = some (.int (pbO (fun a b => distF (mE (Z.2.1 54)) (mR (Z.2.1 54)) e (rv (mP (Z.2.1 54)) a) (rv (mP (Z.2.1 54)) b)) (FP.i2f v) l l)) ∧ h' = HP Z) := by
  intro n
  induction n with
  | zero => intro t g0 g1; omega
  | succ n ih =>
    intro t g0 g1
    obtain ⟨hc, c20, hl, l8, ok, hf, hdi, hfb⟩ := id mi
    refine XW.iload 48 dX4_mistaken_46 rfl rfl ?_
    refine XW.aload_n 49 dX4_mistaken_48 rfl rfl ?_
    refine XW.getf 52 (v := .ref 54) f4_7 dX4_mistaken_49 rfl rfl rfl ?_
    refine XW.bipush 54 dX4_mistaken_52 (v := 120) (by decide) rfl ?_
    refine XW.iald 55 120 dX4_mistaken_54 rfl rfl (by omega) (by decide) rfl ?_
    refine XW.icmp_geN 103 58 (i + 1 + t) l dX4_mistaken_55 (by decide) rfl rfl hl (by omega) (by omega) (fun c_55 => ?_) (fun c_55 => ?_)
    · refine XW.iinc 106 (y := nI (i + 1)) (L' := [some (.ref 53), some (.int xe), some (.int v), some (.int (pbI (fun a b => distF (mE (Z.2.1 54)) (mR (Z.2.1 54)) e (rv (mP (Z.2.1 54)) a) (rv (mP (Z.2.1 54)) b)) (FP.i2f v) i (pbO (fun a b => distF (mE (Z.2.1 54)) (mR (Z.2.1 54)) e (rv (mP (Z.2.1 54)) a) (rv (mP (Z.2.1 54)) b)) (FP.i2f v) l i) t)), some (.int (nI (i + 1))), some (.int (nI (i + 1 + t)))]) dX4_mistaken_103 rfl (na rfl rfl) (by decide) rfl rfl rfl ?_
      refine XW.goto 28 dX4_mistaken_106 (by decide) ?_
      refine XW.weak [true, true, true, true, true, false] (L' := [some (.ref 53), some (.int xe), some (.int v), some (.int (pbI (fun a b => distF (mE (Z.2.1 54)) (mR (Z.2.1 54)) e (rv (mP (Z.2.1 54)) a) (rv (mP (Z.2.1 54)) b)) (FP.i2f v) i (pbO (fun a b => distF (mE (Z.2.1 54)) (mR (Z.2.1 54)) e (rv (mP (Z.2.1 54)) a) (rv (mP (Z.2.1 54)) b)) (FP.i2f v) l i) t)), some (.int (nI (i + 1))), none]) rfl ?_
      refine XW.eqs (L' := [some (.ref 53), some (.int xe), some (.int v), some (.int (pbO (fun a b => distF (mE (Z.2.1 54)) (mR (Z.2.1 54)) e (rv (mP (Z.2.1 54)) a) (rv (mP (Z.2.1 54)) b)) (FP.i2f v) l (i + 1))), some (.int (nI (i + 1))), none]) (by rw [show pbO (fun a b => distF (mE (Z.2.1 54)) (mR (Z.2.1 54)) e (rv (mP (Z.2.1 54)) a) (rv (mP (Z.2.1 54)) b)) (FP.i2f v) l (i + 1) = pbI (fun a b => distF (mE (Z.2.1 54)) (mR (Z.2.1 54)) e (rv (mP (Z.2.1 54)) a) (rv (mP (Z.2.1 54)) b)) (FP.i2f v) i (pbO (fun a b => distF (mE (Z.2.1 54)) (mR (Z.2.1 54)) e (rv (mP (Z.2.1 54)) a) (rv (mP (Z.2.1 54)) b)) (FP.i2f v) l i) (l - (i + 1)) from rfl, show l - (i + 1) = t by omega]) rfl rfl ?_
      exact KK
    · have b1 := (hf i (by omega)).2
      have b2 := (hf (i + 1 + t) (by omega)).2
      refine XW.iload_n 59 dX4_mistaken_58 rfl rfl ?_
      refine XW.aload_n 60 dX4_mistaken_59 rfl rfl ?_
      refine XW.iload_n 61 dX4_mistaken_60 rfl rfl ?_
      refine XW.aload_n 62 dX4_mistaken_61 rfl rfl ?_
      refine XW.getf 65 (v := .ref 54) f4_7 dX4_mistaken_62 rfl rfl rfl ?_
      refine XW.bipush 67 dX4_mistaken_65 (v := 121) (by decide) rfl ?_
      refine XW.iload 69 dX4_mistaken_67 rfl rfl ?_
      refine XW.iadd 70 dX4_mistaken_69 rfl ?_
      refine XW.iald 71 (121 + i) dX4_mistaken_70 rfl (na rfl rfl) (by omega) (by decide) rfl ?_
      refine XW.aload_n 72 dX4_mistaken_71 rfl rfl ?_
      refine XW.getf 75 (v := .ref 54) f4_7 dX4_mistaken_72 rfl rfl rfl ?_
      refine XW.bipush 77 dX4_mistaken_75 (v := 121) (by decide) rfl ?_
      refine XW.iload 79 dX4_mistaken_77 rfl rfl ?_
      refine XW.iadd 80 dX4_mistaken_79 rfl ?_
      refine XW.iald 81 (121 + (i + 1 + t)) dX4_mistaken_80 rfl (na rfl rfl) (by omega) (by decide) rfl ?_
      refine XW.callV 84 (vs := [.int xe, .int (Z.2.1 54 (121 + i)), .int (Z.2.1 54 (121 + (i + 1 + t)))]) (rest := [.int (pbI (fun a b => distF (mE (Z.2.1 54)) (mR (Z.2.1 54)) e (rv (mP (Z.2.1 54)) a) (rv (mP (Z.2.1 54)) b)) (FP.i2f v) i (pbO (fun a b => distF (mE (Z.2.1 54)) (mR (Z.2.1 54)) e (rv (mP (Z.2.1 54)) a) (rv (mP (Z.2.1 54)) b)) (FP.i2f v) l i) t)]) (mcr := 0) (msr := 0) c4_126 dX4_mistaken_81 rfl rfl (by decide) (Nat.le_of_ble_eq_true rfl) rfl rfl (Nat.le_of_ble_eq_true rfl) rfl (k_farFor mi (e := e) (i := rv (mP (Z.2.1 54)) i) (j := rv (mP (Z.2.1 54)) (i + 1 + t)) hxe (hf _ (by omega)).1 (hf _ (by omega)).1 (by omega) (by omega) (by omega)) (fun r h1 hq => ?_)
      obtain ⟨rfl, rfl⟩ := hq
      refine XW.iload_n 85 dX4_mistaken_84 rfl rfl ?_
      refine XW.i2f 86 dX4_mistaken_85 rfl ?_
      refine XW.fcmpU 87 dX4_mistaken_86 (ok_dist ok (by omega) (by omega) (by omega)) (fl_small hv) rfl ?_
      refine XW.if_geU 94 90 dX4_mistaken_87 (by decide) rfl (fun c_87 => ?_) (fun c_87 => ?_)
      · refine XW.iconst 95 dX4_mistaken_94 (v := 0) (by decide) rfl ?_
        refine XW.iadd 96 dX4_mistaken_95 rfl ?_
        refine XW.istore_n 97 (L' := [some (.ref 53), some (.int xe), some (.int v), some (.int ((pbI (fun a b => distF (mE (Z.2.1 54)) (mR (Z.2.1 54)) e (rv (mP (Z.2.1 54)) a) (rv (mP (Z.2.1 54)) b)) (FP.i2f v) i (pbO (fun a b => distF (mE (Z.2.1 54)) (mR (Z.2.1 54)) e (rv (mP (Z.2.1 54)) a) (rv (mP (Z.2.1 54)) b)) (FP.i2f v) l i) t) + 0)), some (.int (nI i)), some (.int (nI (i + 1 + t)))]) dX4_mistaken_96 (by decide) rfl rfl rfl ?_
        refine XW.iinc 100 (y := nI (i + 1 + t + 1)) (L' := [some (.ref 53), some (.int xe), some (.int v), some (.int ((pbI (fun a b => distF (mE (Z.2.1 54)) (mR (Z.2.1 54)) e (rv (mP (Z.2.1 54)) a) (rv (mP (Z.2.1 54)) b)) (FP.i2f v) i (pbO (fun a b => distF (mE (Z.2.1 54)) (mR (Z.2.1 54)) e (rv (mP (Z.2.1 54)) a) (rv (mP (Z.2.1 54)) b)) (FP.i2f v) l i) t) + 0)), some (.int (nI i)), some (.int (nI (i + 1 + t + 1)))]) dX4_mistaken_97 rfl (na rfl rfl) (by decide) rfl rfl rfl ?_
        refine XW.goto 46 dX4_mistaken_100 (by decide) ?_
        refine XW.eqs (L' := [some (.ref 53), some (.int xe), some (.int v), some (.int (pbI (fun a b => distF (mE (Z.2.1 54)) (mR (Z.2.1 54)) e (rv (mP (Z.2.1 54)) a) (rv (mP (Z.2.1 54)) b)) (FP.i2f v) i (pbO (fun a b => distF (mE (Z.2.1 54)) (mR (Z.2.1 54)) e (rv (mP (Z.2.1 54)) a) (rv (mP (Z.2.1 54)) b)) (FP.i2f v) l i) (t + 1))), some (.int (nI i)), some (.int (nI (i + 1 + (t + 1))))]) (by rw [pbI_f (df := (fun a b => distF (mE (Z.2.1 54)) (mR (Z.2.1 54)) e (rv (mP (Z.2.1 54)) a) (rv (mP (Z.2.1 54)) b))) c_87, Int32.add_zero]; rfl) rfl rfl ?_
        exact ih (t + 1) (by omega) (by omega)
      · refine XW.iconst 91 dX4_mistaken_90 (v := 1) (by decide) rfl ?_
        refine XW.goto 95 dX4_mistaken_91 (by decide) ?_
        refine XW.iadd 96 dX4_mistaken_95 rfl ?_
        refine XW.istore_n 97 (L' := [some (.ref 53), some (.int xe), some (.int v), some (.int ((pbI (fun a b => distF (mE (Z.2.1 54)) (mR (Z.2.1 54)) e (rv (mP (Z.2.1 54)) a) (rv (mP (Z.2.1 54)) b)) (FP.i2f v) i (pbO (fun a b => distF (mE (Z.2.1 54)) (mR (Z.2.1 54)) e (rv (mP (Z.2.1 54)) a) (rv (mP (Z.2.1 54)) b)) (FP.i2f v) l i) t) + 1)), some (.int (nI i)), some (.int (nI (i + 1 + t)))]) dX4_mistaken_96 (by decide) rfl rfl rfl ?_
        refine XW.iinc 100 (y := nI (i + 1 + t + 1)) (L' := [some (.ref 53), some (.int xe), some (.int v), some (.int ((pbI (fun a b => distF (mE (Z.2.1 54)) (mR (Z.2.1 54)) e (rv (mP (Z.2.1 54)) a) (rv (mP (Z.2.1 54)) b)) (FP.i2f v) i (pbO (fun a b => distF (mE (Z.2.1 54)) (mR (Z.2.1 54)) e (rv (mP (Z.2.1 54)) a) (rv (mP (Z.2.1 54)) b)) (FP.i2f v) l i) t) + 1)), some (.int (nI i)), some (.int (nI (i + 1 + t + 1)))]) dX4_mistaken_97 rfl (na rfl rfl) (by decide) rfl rfl rfl ?_
        refine XW.goto 46 dX4_mistaken_100 (by decide) ?_
        refine XW.eqs (L' := [some (.ref 53), some (.int xe), some (.int v), some (.int (pbI (fun a b => distF (mE (Z.2.1 54)) (mR (Z.2.1 54)) e (rv (mP (Z.2.1 54)) a) (rv (mP (Z.2.1 54)) b)) (FP.i2f v) i (pbO (fun a b => distF (mE (Z.2.1 54)) (mR (Z.2.1 54)) e (rv (mP (Z.2.1 54)) a) (rv (mP (Z.2.1 54)) b)) (FP.i2f v) l i) (t + 1))), some (.int (nI i)), some (.int (nI (i + 1 + (t + 1))))]) (by rw [pbI_t (df := (fun a b => distF (mE (Z.2.1 54)) (mR (Z.2.1 54)) e (rv (mP (Z.2.1 54)) a) (rv (mP (Z.2.1 54)) b))) c_87]; rfl) rfl rfl ?_
        exact ih (t + 1) (by omega) (by omega)
set_option maxHeartbeats 400000 in
set_option maxRecDepth 100000 in
theorem l_kmis_o {Z : xZ} {c l : Nat} (mi : MI (Z.2.1 54) c l) {e : Nat} {xe v : Int32} (hxe : xe = nI e) (e4 : e < 4) (hv : inF v 0 9999 = true) : ∀ (n : Nat) (i : Nat), i ≤ l → l < i + n → XW mX4_mistaken 4 0 0 28 [some (.ref 53), some (.int xe), some (.int v), some (.int (pbO (fun a b => distF (mE (Z.2.1 54)) (mR (Z.2.1 54)) e (rv (mP (Z.2.1 54)) a) (rv (mP (Z.2.1 54)) b)) (FP.i2f v) l i)), some (.int (nI i)), none] [] (HP Z) (fun r h' => r = some (.int (pbO (fun a b => distF (mE (Z.2.1 54)) (mR (Z.2.1 54)) e (rv (mP (Z.2.1 54)) a) (rv (mP (Z.2.1 54)) b)) (FP.i2f v) l l)) ∧ h' = HP Z) := by
  intro n
  induction n with
  | zero => intro i g0 g1; omega
  | succ n ih =>
    intro i g0 g1
    obtain ⟨hc, c20, hl, l8, ok, hf, hdi, hfb⟩ := id mi
    refine XW.iload 30 dX4_mistaken_28 rfl rfl ?_
    refine XW.aload_n 31 dX4_mistaken_30 rfl rfl ?_
    refine XW.getf 34 (v := .ref 54) f4_7 dX4_mistaken_31 rfl rfl rfl ?_
    refine XW.bipush 36 dX4_mistaken_34 (v := 120) (by decide) rfl ?_
    refine XW.iald 37 120 dX4_mistaken_36 rfl rfl (by omega) (by decide) rfl ?_
    refine XW.icmp_geN 109 40 i l dX4_mistaken_37 (by decide) rfl rfl hl (by omega) (by omega) (fun c_37 => ?_) (fun c_37 => ?_)
    · refine XW.iload_n 110 dX4_mistaken_109 rfl rfl ?_
      exact XW.iret dX4_mistaken_110 rfl (⟨by rw [show i = l by omega], rfl⟩)
    · refine XW.iload 42 dX4_mistaken_40 rfl rfl ?_
      refine XW.iconst 43 dX4_mistaken_42 (v := 1) (by decide) rfl ?_
      refine XW.iadd 44 dX4_mistaken_43 rfl ?_
      refine XW.istore 46 (L' := [some (.ref 53), some (.int xe), some (.int v), some (.int (pbO (fun a b => distF (mE (Z.2.1 54)) (mR (Z.2.1 54)) e (rv (mP (Z.2.1 54)) a) (rv (mP (Z.2.1 54)) b)) (FP.i2f v) l i)), some (.int (nI i)), some (.int ((nI i) + 1))]) dX4_mistaken_44 (by decide) rfl rfl rfl ?_
      refine XW.eqs (L' := [some (.ref 53), some (.int xe), some (.int v), some (.int (pbI (fun a b => distF (mE (Z.2.1 54)) (mR (Z.2.1 54)) e (rv (mP (Z.2.1 54)) a) (rv (mP (Z.2.1 54)) b)) (FP.i2f v) i (pbO (fun a b => distF (mE (Z.2.1 54)) (mR (Z.2.1 54)) e (rv (mP (Z.2.1 54)) a) (rv (mP (Z.2.1 54)) b)) (FP.i2f v) l i) 0)), some (.int (nI i)), some (.int (nI (i + 1 + 0)))]) (by rw [nI_1]; rfl) rfl rfl ?_
      exact l_kmis_i mi hxe e4 hv (by omega) (ih (i + 1) (by omega) (by omega)) (l + 1) 0 (by omega) (by omega)
set_option maxHeartbeats 400000 in
set_option maxRecDepth 100000 in
theorem u_mistaken_bad {Z : xZ} {c l : Nat} (mi : MI (Z.2.1 54) c l) (x y : Int32) (e : (inF x 0 3 && inF y 0 9999) = false) : XC mX4_mistaken 4 0 0 [.ref 53, .int x, .int y] (HP Z) (fun r h' => r = some (.int (-2)) ∧ h' = HP (rmZ Z 0)) := by
  show XW mX4_mistaken 4 0 0 0 [some (.ref 53), some (.int x), some (.int y), none, none, none] [] (HP Z) _
  obtain ⟨hc, c20, hl, l8, ok, hf, hdi, hfb⟩ := id mi
  refine XW.iload_n 1 dX4_mistaken_0 rfl rfl ?_
  refine XW.callS 4 (vs := [.int x]) (rest := []) (mcr := 0) (msr := 0) c4_84 dX4_mistaken_1 rfl (by decide) (Nat.le_of_ble_eq_true rfl) rfl rfl (Nat.le_of_ble_eq_true rfl) rfl (k_isEye _ _) (fun r h1 hq => ?_)
  obtain ⟨rfl, rfl⟩ := hq
  refine XW.if_eqB 18 7 dX4_mistaken_4 (by decide) rfl (fun c_4 => ?_) (fun c_4 => ?_)
  · refine XW.aload_n 19 dX4_mistaken_18 rfl rfl ?_
    refine XW.callV 22 (vs := []) (rest := []) (mcr := 0) (msr := 0) c4_68 dX4_mistaken_19 rfl rfl (by decide) (Nat.le_of_ble_eq_true rfl) rfl rfl (Nat.le_of_ble_eq_true rfl) rfl k_bad (fun r h1 hq => ?_)
    obtain ⟨rfl, rfl⟩ := hq
    refine XW.eqs (st' := [.int (-2)]) rfl rfl rfl ?_
    exact XW.iret dX4_mistaken_22 rfl (⟨rfl, rfl⟩)
  · refine XW.iload_n 8 dX4_mistaken_7 rfl rfl ?_
    refine XW.iconst 9 dX4_mistaken_8 (v := 0) (by decide) rfl ?_
    refine XW.sipush 12 dX4_mistaken_9 (v := 9999) (by decide) rfl ?_
    refine XW.callS 15 (vs := [.int y, .int 0, .int 9999]) (rest := []) (mcr := 0) (msr := 0) c4_49 dX4_mistaken_12 rfl (by decide) (Nat.le_of_ble_eq_true rfl) rfl rfl (Nat.le_of_ble_eq_true rfl) rfl (c_in_ _ _ _ _) (fun r h1 hq => ?_)
    obtain ⟨rfl, rfl⟩ := hq
    refine XW.if_neB 23 18 dX4_mistaken_15 (by decide) rfl (fun c_15 => ?_) (fun c_15 => ?_)
    · exact absurd e (by rw [c_4, c_15]; decide)
    · refine XW.aload_n 19 dX4_mistaken_18 rfl rfl ?_
      refine XW.callV 22 (vs := []) (rest := []) (mcr := 0) (msr := 0) c4_68 dX4_mistaken_19 rfl rfl (by decide) (Nat.le_of_ble_eq_true rfl) rfl rfl (Nat.le_of_ble_eq_true rfl) rfl k_bad (fun r h1 hq => ?_)
      obtain ⟨rfl, rfl⟩ := hq
      refine XW.eqs (st' := [.int (-2)]) rfl rfl rfl ?_
      exact XW.iret dX4_mistaken_22 rfl (⟨rfl, rfl⟩)
set_option maxHeartbeats 400000 in
set_option maxRecDepth 100000 in
theorem u_mistaken_ok {Z : xZ} {c l : Nat} (mi : MI (Z.2.1 54) c l) (xe v : Int32) {e : Nat} (hxe : xe = nI e) (e4 : e < 4) (e1 : inF xe 0 3 = true) (hv : inF v 0 9999 = true) : XC mX4_mistaken 4 0 0 [.ref 53, .int xe, .int v] (HP Z) (fun r h' => r = some (.int (pbO (fun a b => distF (mE (Z.2.1 54)) (mR (Z.2.1 54)) e (rv (mP (Z.2.1 54)) a) (rv (mP (Z.2.1 54)) b)) (FP.i2f v) l l)) ∧ h' = HP Z) := by
  show XW mX4_mistaken 4 0 0 0 [some (.ref 53), some (.int xe), some (.int v), none, none, none] [] (HP Z) _
  obtain ⟨hc, c20, hl, l8, ok, hf, hdi, hfb⟩ := id mi
  refine XW.iload_n 1 dX4_mistaken_0 rfl rfl ?_
  refine XW.callS 4 (vs := [.int xe]) (rest := []) (mcr := 0) (msr := 0) c4_84 dX4_mistaken_1 rfl (by decide) (Nat.le_of_ble_eq_true rfl) rfl rfl (Nat.le_of_ble_eq_true rfl) rfl (k_isEye _ _) (fun r h1 hq => ?_)
  obtain ⟨rfl, rfl⟩ := hq
  refine XW.if_eqB 18 7 dX4_mistaken_4 (by decide) rfl (fun c_4 => ?_) (fun c_4 => ?_)
  · rw [e1] at c_4; cases c_4
  · refine XW.iload_n 8 dX4_mistaken_7 rfl rfl ?_
    refine XW.iconst 9 dX4_mistaken_8 (v := 0) (by decide) rfl ?_
    refine XW.sipush 12 dX4_mistaken_9 (v := 9999) (by decide) rfl ?_
    refine XW.callS 15 (vs := [.int v, .int 0, .int 9999]) (rest := []) (mcr := 0) (msr := 0) c4_49 dX4_mistaken_12 rfl (by decide) (Nat.le_of_ble_eq_true rfl) rfl rfl (Nat.le_of_ble_eq_true rfl) rfl (c_in_ _ _ _ _) (fun r h1 hq => ?_)
    obtain ⟨rfl, rfl⟩ := hq
    refine XW.if_neB 23 18 dX4_mistaken_15 (by decide) rfl (fun c_15 => ?_) (fun c_15 => ?_)
    · refine XW.iconst 24 dX4_mistaken_23 (v := 0) (by decide) rfl ?_
      refine XW.istore_n 25 (L' := [some (.ref 53), some (.int xe), some (.int v), some (.int 0), none, none]) dX4_mistaken_24 (by decide) rfl rfl rfl ?_
      refine XW.iconst 26 dX4_mistaken_25 (v := 0) (by decide) rfl ?_
      refine XW.istore 28 (L' := [some (.ref 53), some (.int xe), some (.int v), some (.int 0), some (.int 0), none]) dX4_mistaken_26 (by decide) rfl rfl rfl ?_
      refine XW.eqs (L' := [some (.ref 53), some (.int xe), some (.int v), some (.int (pbO (fun a b => distF (mE (Z.2.1 54)) (mR (Z.2.1 54)) e (rv (mP (Z.2.1 54)) a) (rv (mP (Z.2.1 54)) b)) (FP.i2f v) l 0)), some (.int (nI 0)), none]) (by rfl) rfl rfl ?_
      exact l_kmis_o mi hxe e4 hv (l + 1) 0 (by omega) (by omega)
    · rw [hv] at c_15; cases c_15
set_option maxHeartbeats 400000 in
set_option maxRecDepth 100000 in
theorem k_countOf_0 {Z : xZ} {c l : Nat} (mi : MI (Z.2.1 54) c l)  : XC mX4_countOf 3 0 0 [.ref 53, .int 0] (HP Z) (fun r h' => r = some (.int (Z.2.1 54 0)) ∧ h' = HP Z) := by
  show XW mX4_countOf 3 0 0 0 [some (.ref 53), some (.int 0)] [] (HP Z) _
  obtain ⟨hc, c20, hl, l8, ok, hf, hdi, hfb⟩ := id mi
  refine XW.iload_n 1 dX4_countOf_0 rfl rfl ?_
  refine XW.tableIn 36 dX4_countOf_1 (by decide) (by decide) rfl (by decide) ?_
  refine XW.aload_n 37 dX4_countOf_36 rfl rfl ?_
  refine XW.getf 40 (v := .ref 54) f4_7 dX4_countOf_37 rfl rfl rfl ?_
  refine XW.iconst 41 dX4_countOf_40 (v := 0) (by decide) rfl ?_
  refine XW.iald 42 0 dX4_countOf_41 rfl rfl (by omega) (by decide) rfl ?_
  exact XW.iret dX4_countOf_42 rfl (⟨rfl, rfl⟩)
set_option maxHeartbeats 400000 in
set_option maxRecDepth 100000 in
theorem u_count_0 {Z : xZ} {c l : Nat} (mi : MI (Z.2.1 54) c l)  : XC mX4_count 4 0 0 [.ref 53, .int 0] (HP Z) (fun r h' => r = some (.int (Z.2.1 54 0)) ∧ h' = HP Z) := by
  show XW mX4_count 4 0 0 0 [some (.ref 53), some (.int 0)] [] (HP Z) _
  obtain ⟨hc, c20, hl, l8, ok, hf, hdi, hfb⟩ := id mi
  refine XW.iload_n 1 dX4_count_0 rfl rfl ?_
  refine XW.iconst 2 dX4_count_1 (v := 0) (by decide) rfl ?_
  refine XW.bipush 4 dX4_count_2 (v := 7) (by decide) rfl ?_
  refine XW.callS 7 (vs := [.int 0, .int 0, .int 7]) (rest := []) (mcr := 0) (msr := 0) c4_49 dX4_count_4 rfl (by decide) (Nat.le_of_ble_eq_true rfl) rfl rfl (Nat.le_of_ble_eq_true rfl) rfl (c_in_ _ _ _ _) (fun r h1 hq => ?_)
  obtain ⟨rfl, rfl⟩ := hq
  refine XW.if_eqB 18 10 dX4_count_7 (by decide) rfl (fun c_7 => ?_) (fun c_7 => ?_)
  · exact absurd c_7 (by decide)
  · refine XW.aload_n 11 dX4_count_10 rfl rfl ?_
    refine XW.iload_n 12 dX4_count_11 rfl rfl ?_
    refine XW.callV 15 (vs := [.int 0]) (rest := []) (mcr := 0) (msr := 0) c4_195 dX4_count_12 rfl rfl (by decide) (Nat.le_of_ble_eq_true rfl) rfl rfl (Nat.le_of_ble_eq_true rfl) rfl (k_countOf_0 mi) (fun r h1 hq => ?_)
    obtain ⟨rfl, rfl⟩ := hq
    refine XW.goto 22 dX4_count_15 (by decide) ?_
    exact XW.iret dX4_count_22 rfl (⟨rfl, rfl⟩)
set_option maxHeartbeats 400000 in
set_option maxRecDepth 100000 in
theorem k_countOf_1 {Z : xZ} {c l : Nat} (mi : MI (Z.2.1 54) c l)  : XC mX4_countOf 3 0 0 [.ref 53, .int 1] (HP Z) (fun r h' => r = some (.int (ftM (mR (Z.2.1 54)) (mG (Z.2.1 54)) (mL (Z.2.1 54)) c)) ∧ h' = HP Z) := by
  show XW mX4_countOf 3 0 0 0 [some (.ref 53), some (.int 1)] [] (HP Z) _
  obtain ⟨hc, c20, hl, l8, ok, hf, hdi, hfb⟩ := id mi
  refine XW.iload_n 1 dX4_countOf_0 rfl rfl ?_
  refine XW.tableIn 43 dX4_countOf_1 (by decide) (by decide) rfl (by decide) ?_
  refine XW.aload_n 44 dX4_countOf_43 rfl rfl ?_
  refine XW.callV 47 (vs := []) (rest := []) (mcr := 0) (msr := 0) c4_189 dX4_countOf_44 rfl rfl (by decide) (Nat.le_of_ble_eq_true rfl) rfl rfl (Nat.le_of_ble_eq_true rfl) rfl (k_fittingMany mi) (fun r h1 hq => ?_)
  obtain ⟨rfl, rfl⟩ := hq
  exact XW.iret dX4_countOf_47 rfl (⟨rfl, rfl⟩)
set_option maxHeartbeats 400000 in
set_option maxRecDepth 100000 in
theorem u_count_1 {Z : xZ} {c l : Nat} (mi : MI (Z.2.1 54) c l)  : XC mX4_count 4 0 0 [.ref 53, .int 1] (HP Z) (fun r h' => r = some (.int (ftM (mR (Z.2.1 54)) (mG (Z.2.1 54)) (mL (Z.2.1 54)) c)) ∧ h' = HP Z) := by
  show XW mX4_count 4 0 0 0 [some (.ref 53), some (.int 1)] [] (HP Z) _
  obtain ⟨hc, c20, hl, l8, ok, hf, hdi, hfb⟩ := id mi
  refine XW.iload_n 1 dX4_count_0 rfl rfl ?_
  refine XW.iconst 2 dX4_count_1 (v := 0) (by decide) rfl ?_
  refine XW.bipush 4 dX4_count_2 (v := 7) (by decide) rfl ?_
  refine XW.callS 7 (vs := [.int 1, .int 0, .int 7]) (rest := []) (mcr := 0) (msr := 0) c4_49 dX4_count_4 rfl (by decide) (Nat.le_of_ble_eq_true rfl) rfl rfl (Nat.le_of_ble_eq_true rfl) rfl (c_in_ _ _ _ _) (fun r h1 hq => ?_)
  obtain ⟨rfl, rfl⟩ := hq
  refine XW.if_eqB 18 10 dX4_count_7 (by decide) rfl (fun c_7 => ?_) (fun c_7 => ?_)
  · exact absurd c_7 (by decide)
  · refine XW.aload_n 11 dX4_count_10 rfl rfl ?_
    refine XW.iload_n 12 dX4_count_11 rfl rfl ?_
    refine XW.callV 15 (vs := [.int 1]) (rest := []) (mcr := 0) (msr := 0) c4_195 dX4_count_12 rfl rfl (by decide) (Nat.le_of_ble_eq_true rfl) rfl rfl (Nat.le_of_ble_eq_true rfl) rfl (k_countOf_1 mi) (fun r h1 hq => ?_)
    obtain ⟨rfl, rfl⟩ := hq
    refine XW.goto 22 dX4_count_15 (by decide) ?_
    exact XW.iret dX4_count_22 rfl (⟨rfl, rfl⟩)
set_option maxHeartbeats 400000 in
set_option maxRecDepth 100000 in
theorem k_countOf_2 {Z : xZ} {c l : Nat} (mi : MI (Z.2.1 54) c l)  : XC mX4_countOf 3 0 0 [.ref 53, .int 2] (HP Z) (fun r h' => r = some (.int (Z.2.1 54 61)) ∧ h' = HP Z) := by
  show XW mX4_countOf 3 0 0 0 [some (.ref 53), some (.int 2)] [] (HP Z) _
  obtain ⟨hc, c20, hl, l8, ok, hf, hdi, hfb⟩ := id mi
  refine XW.iload_n 1 dX4_countOf_0 rfl rfl ?_
  refine XW.tableIn 48 dX4_countOf_1 (by decide) (by decide) rfl (by decide) ?_
  refine XW.aload_n 49 dX4_countOf_48 rfl rfl ?_
  refine XW.getf 52 (v := .ref 54) f4_7 dX4_countOf_49 rfl rfl rfl ?_
  refine XW.bipush 54 dX4_countOf_52 (v := 61) (by decide) rfl ?_
  refine XW.iald 55 61 dX4_countOf_54 rfl rfl (by omega) (by decide) rfl ?_
  exact XW.iret dX4_countOf_55 rfl (⟨rfl, rfl⟩)
set_option maxHeartbeats 400000 in
set_option maxRecDepth 100000 in
theorem u_count_2 {Z : xZ} {c l : Nat} (mi : MI (Z.2.1 54) c l)  : XC mX4_count 4 0 0 [.ref 53, .int 2] (HP Z) (fun r h' => r = some (.int (Z.2.1 54 61)) ∧ h' = HP Z) := by
  show XW mX4_count 4 0 0 0 [some (.ref 53), some (.int 2)] [] (HP Z) _
  obtain ⟨hc, c20, hl, l8, ok, hf, hdi, hfb⟩ := id mi
  refine XW.iload_n 1 dX4_count_0 rfl rfl ?_
  refine XW.iconst 2 dX4_count_1 (v := 0) (by decide) rfl ?_
  refine XW.bipush 4 dX4_count_2 (v := 7) (by decide) rfl ?_
  refine XW.callS 7 (vs := [.int 2, .int 0, .int 7]) (rest := []) (mcr := 0) (msr := 0) c4_49 dX4_count_4 rfl (by decide) (Nat.le_of_ble_eq_true rfl) rfl rfl (Nat.le_of_ble_eq_true rfl) rfl (c_in_ _ _ _ _) (fun r h1 hq => ?_)
  obtain ⟨rfl, rfl⟩ := hq
  refine XW.if_eqB 18 10 dX4_count_7 (by decide) rfl (fun c_7 => ?_) (fun c_7 => ?_)
  · exact absurd c_7 (by decide)
  · refine XW.aload_n 11 dX4_count_10 rfl rfl ?_
    refine XW.iload_n 12 dX4_count_11 rfl rfl ?_
    refine XW.callV 15 (vs := [.int 2]) (rest := []) (mcr := 0) (msr := 0) c4_195 dX4_count_12 rfl rfl (by decide) (Nat.le_of_ble_eq_true rfl) rfl rfl (Nat.le_of_ble_eq_true rfl) rfl (k_countOf_2 mi) (fun r h1 hq => ?_)
    obtain ⟨rfl, rfl⟩ := hq
    refine XW.goto 22 dX4_count_15 (by decide) ?_
    exact XW.iret dX4_count_22 rfl (⟨rfl, rfl⟩)
set_option maxHeartbeats 400000 in
set_option maxRecDepth 100000 in
theorem k_countOf_3 {Z : xZ} {c l : Nat} (mi : MI (Z.2.1 54) c l)  : XC mX4_countOf 3 0 0 [.ref 53, .int 3] (HP Z) (fun r h' => r = some (.int (Z.2.1 54 120)) ∧ h' = HP Z) := by
  show XW mX4_countOf 3 0 0 0 [some (.ref 53), some (.int 3)] [] (HP Z) _
  obtain ⟨hc, c20, hl, l8, ok, hf, hdi, hfb⟩ := id mi
  refine XW.iload_n 1 dX4_countOf_0 rfl rfl ?_
  refine XW.tableIn 56 dX4_countOf_1 (by decide) (by decide) rfl (by decide) ?_
  refine XW.aload_n 57 dX4_countOf_56 rfl rfl ?_
  refine XW.getf 60 (v := .ref 54) f4_7 dX4_countOf_57 rfl rfl rfl ?_
  refine XW.bipush 62 dX4_countOf_60 (v := 120) (by decide) rfl ?_
  refine XW.iald 63 120 dX4_countOf_62 rfl rfl (by omega) (by decide) rfl ?_
  exact XW.iret dX4_countOf_63 rfl (⟨rfl, rfl⟩)
set_option maxHeartbeats 400000 in
set_option maxRecDepth 100000 in
theorem u_count_3 {Z : xZ} {c l : Nat} (mi : MI (Z.2.1 54) c l)  : XC mX4_count 4 0 0 [.ref 53, .int 3] (HP Z) (fun r h' => r = some (.int (Z.2.1 54 120)) ∧ h' = HP Z) := by
  show XW mX4_count 4 0 0 0 [some (.ref 53), some (.int 3)] [] (HP Z) _
  obtain ⟨hc, c20, hl, l8, ok, hf, hdi, hfb⟩ := id mi
  refine XW.iload_n 1 dX4_count_0 rfl rfl ?_
  refine XW.iconst 2 dX4_count_1 (v := 0) (by decide) rfl ?_
  refine XW.bipush 4 dX4_count_2 (v := 7) (by decide) rfl ?_
  refine XW.callS 7 (vs := [.int 3, .int 0, .int 7]) (rest := []) (mcr := 0) (msr := 0) c4_49 dX4_count_4 rfl (by decide) (Nat.le_of_ble_eq_true rfl) rfl rfl (Nat.le_of_ble_eq_true rfl) rfl (c_in_ _ _ _ _) (fun r h1 hq => ?_)
  obtain ⟨rfl, rfl⟩ := hq
  refine XW.if_eqB 18 10 dX4_count_7 (by decide) rfl (fun c_7 => ?_) (fun c_7 => ?_)
  · exact absurd c_7 (by decide)
  · refine XW.aload_n 11 dX4_count_10 rfl rfl ?_
    refine XW.iload_n 12 dX4_count_11 rfl rfl ?_
    refine XW.callV 15 (vs := [.int 3]) (rest := []) (mcr := 0) (msr := 0) c4_195 dX4_count_12 rfl rfl (by decide) (Nat.le_of_ble_eq_true rfl) rfl rfl (Nat.le_of_ble_eq_true rfl) rfl (k_countOf_3 mi) (fun r h1 hq => ?_)
    obtain ⟨rfl, rfl⟩ := hq
    refine XW.goto 22 dX4_count_15 (by decide) ?_
    exact XW.iret dX4_count_22 rfl (⟨rfl, rfl⟩)
set_option maxHeartbeats 400000 in
set_option maxRecDepth 100000 in
theorem k_countOf_4 {Z : xZ} {c l : Nat} (mi : MI (Z.2.1 54) c l)  : XC mX4_countOf 3 0 0 [.ref 53, .int 4] (HP Z) (fun r h' => r = some (.int (cbF (mE (Z.2.1 54)) 4)) ∧ h' = HP Z) := by
  show XW mX4_countOf 3 0 0 0 [some (.ref 53), some (.int 4)] [] (HP Z) _
  obtain ⟨hc, c20, hl, l8, ok, hf, hdi, hfb⟩ := id mi
  refine XW.iload_n 1 dX4_countOf_0 rfl rfl ?_
  refine XW.tableIn 64 dX4_countOf_1 (by decide) (by decide) rfl (by decide) ?_
  refine XW.aload_n 65 dX4_countOf_64 rfl rfl ?_
  refine XW.callV 68 (vs := []) (rest := []) (mcr := 0) (msr := 0) c4_192 dX4_countOf_65 rfl rfl (by decide) (Nat.le_of_ble_eq_true rfl) rfl rfl (Nat.le_of_ble_eq_true rfl) rfl (k_countsSet mi) (fun r h1 hq => ?_)
  obtain ⟨rfl, rfl⟩ := hq
  exact XW.iret dX4_countOf_68 rfl (⟨rfl, rfl⟩)
set_option maxHeartbeats 400000 in
set_option maxRecDepth 100000 in
theorem u_count_4 {Z : xZ} {c l : Nat} (mi : MI (Z.2.1 54) c l)  : XC mX4_count 4 0 0 [.ref 53, .int 4] (HP Z) (fun r h' => r = some (.int (cbF (mE (Z.2.1 54)) 4)) ∧ h' = HP Z) := by
  show XW mX4_count 4 0 0 0 [some (.ref 53), some (.int 4)] [] (HP Z) _
  obtain ⟨hc, c20, hl, l8, ok, hf, hdi, hfb⟩ := id mi
  refine XW.iload_n 1 dX4_count_0 rfl rfl ?_
  refine XW.iconst 2 dX4_count_1 (v := 0) (by decide) rfl ?_
  refine XW.bipush 4 dX4_count_2 (v := 7) (by decide) rfl ?_
  refine XW.callS 7 (vs := [.int 4, .int 0, .int 7]) (rest := []) (mcr := 0) (msr := 0) c4_49 dX4_count_4 rfl (by decide) (Nat.le_of_ble_eq_true rfl) rfl rfl (Nat.le_of_ble_eq_true rfl) rfl (c_in_ _ _ _ _) (fun r h1 hq => ?_)
  obtain ⟨rfl, rfl⟩ := hq
  refine XW.if_eqB 18 10 dX4_count_7 (by decide) rfl (fun c_7 => ?_) (fun c_7 => ?_)
  · exact absurd c_7 (by decide)
  · refine XW.aload_n 11 dX4_count_10 rfl rfl ?_
    refine XW.iload_n 12 dX4_count_11 rfl rfl ?_
    refine XW.callV 15 (vs := [.int 4]) (rest := []) (mcr := 0) (msr := 0) c4_195 dX4_count_12 rfl rfl (by decide) (Nat.le_of_ble_eq_true rfl) rfl rfl (Nat.le_of_ble_eq_true rfl) rfl (k_countOf_4 mi) (fun r h1 hq => ?_)
    obtain ⟨rfl, rfl⟩ := hq
    refine XW.goto 22 dX4_count_15 (by decide) ?_
    exact XW.iret dX4_count_22 rfl (⟨rfl, rfl⟩)
set_option maxHeartbeats 400000 in
set_option maxRecDepth 100000 in
theorem k_countOf_5 {Z : xZ} {c l : Nat} (mi : MI (Z.2.1 54) c l)  : XC mX4_countOf 3 0 0 [.ref 53, .int 5] (HP Z) (fun r h' => r = some (.int ((mG (Z.2.1 54)) 0)) ∧ h' = HP Z) := by
  show XW mX4_countOf 3 0 0 0 [some (.ref 53), some (.int 5)] [] (HP Z) _
  obtain ⟨hc, c20, hl, l8, ok, hf, hdi, hfb⟩ := id mi
  refine XW.iload_n 1 dX4_countOf_0 rfl rfl ?_
  refine XW.tableOut 69 dX4_countOf_1 (by decide) (by decide) ?_
  refine XW.aload_n 70 dX4_countOf_69 rfl rfl ?_
  refine XW.getf 73 (v := .ref 54) f4_7 dX4_countOf_70 rfl rfl rfl ?_
  refine XW.bipush 75 dX4_countOf_73 (v := 117) (by decide) rfl ?_
  refine XW.iload_n 76 dX4_countOf_75 rfl rfl ?_
  refine XW.iadd 77 dX4_countOf_76 rfl ?_
  refine XW.iconst 78 dX4_countOf_77 (v := 5) (by decide) rfl ?_
  refine XW.isub 79 dX4_countOf_78 rfl ?_
  refine XW.iald 80 (117 + 0) dX4_countOf_79 rfl rfl (by omega) (by decide) rfl ?_
  exact XW.iret dX4_countOf_80 rfl (⟨rfl, rfl⟩)
set_option maxHeartbeats 400000 in
set_option maxRecDepth 100000 in
theorem u_count_5 {Z : xZ} {c l : Nat} (mi : MI (Z.2.1 54) c l)  : XC mX4_count 4 0 0 [.ref 53, .int 5] (HP Z) (fun r h' => r = some (.int ((mG (Z.2.1 54)) 0)) ∧ h' = HP Z) := by
  show XW mX4_count 4 0 0 0 [some (.ref 53), some (.int 5)] [] (HP Z) _
  obtain ⟨hc, c20, hl, l8, ok, hf, hdi, hfb⟩ := id mi
  refine XW.iload_n 1 dX4_count_0 rfl rfl ?_
  refine XW.iconst 2 dX4_count_1 (v := 0) (by decide) rfl ?_
  refine XW.bipush 4 dX4_count_2 (v := 7) (by decide) rfl ?_
  refine XW.callS 7 (vs := [.int 5, .int 0, .int 7]) (rest := []) (mcr := 0) (msr := 0) c4_49 dX4_count_4 rfl (by decide) (Nat.le_of_ble_eq_true rfl) rfl rfl (Nat.le_of_ble_eq_true rfl) rfl (c_in_ _ _ _ _) (fun r h1 hq => ?_)
  obtain ⟨rfl, rfl⟩ := hq
  refine XW.if_eqB 18 10 dX4_count_7 (by decide) rfl (fun c_7 => ?_) (fun c_7 => ?_)
  · exact absurd c_7 (by decide)
  · refine XW.aload_n 11 dX4_count_10 rfl rfl ?_
    refine XW.iload_n 12 dX4_count_11 rfl rfl ?_
    refine XW.callV 15 (vs := [.int 5]) (rest := []) (mcr := 0) (msr := 0) c4_195 dX4_count_12 rfl rfl (by decide) (Nat.le_of_ble_eq_true rfl) rfl rfl (Nat.le_of_ble_eq_true rfl) rfl (k_countOf_5 mi) (fun r h1 hq => ?_)
    obtain ⟨rfl, rfl⟩ := hq
    refine XW.goto 22 dX4_count_15 (by decide) ?_
    exact XW.iret dX4_count_22 rfl (⟨rfl, rfl⟩)
set_option maxHeartbeats 400000 in
set_option maxRecDepth 100000 in
theorem k_countOf_6 {Z : xZ} {c l : Nat} (mi : MI (Z.2.1 54) c l)  : XC mX4_countOf 3 0 0 [.ref 53, .int 6] (HP Z) (fun r h' => r = some (.int ((mG (Z.2.1 54)) 1)) ∧ h' = HP Z) := by
  show XW mX4_countOf 3 0 0 0 [some (.ref 53), some (.int 6)] [] (HP Z) _
  obtain ⟨hc, c20, hl, l8, ok, hf, hdi, hfb⟩ := id mi
  refine XW.iload_n 1 dX4_countOf_0 rfl rfl ?_
  refine XW.tableOut 69 dX4_countOf_1 (by decide) (by decide) ?_
  refine XW.aload_n 70 dX4_countOf_69 rfl rfl ?_
  refine XW.getf 73 (v := .ref 54) f4_7 dX4_countOf_70 rfl rfl rfl ?_
  refine XW.bipush 75 dX4_countOf_73 (v := 117) (by decide) rfl ?_
  refine XW.iload_n 76 dX4_countOf_75 rfl rfl ?_
  refine XW.iadd 77 dX4_countOf_76 rfl ?_
  refine XW.iconst 78 dX4_countOf_77 (v := 5) (by decide) rfl ?_
  refine XW.isub 79 dX4_countOf_78 rfl ?_
  refine XW.iald 80 (117 + 1) dX4_countOf_79 rfl rfl (by omega) (by decide) rfl ?_
  exact XW.iret dX4_countOf_80 rfl (⟨rfl, rfl⟩)
set_option maxHeartbeats 400000 in
set_option maxRecDepth 100000 in
theorem u_count_6 {Z : xZ} {c l : Nat} (mi : MI (Z.2.1 54) c l)  : XC mX4_count 4 0 0 [.ref 53, .int 6] (HP Z) (fun r h' => r = some (.int ((mG (Z.2.1 54)) 1)) ∧ h' = HP Z) := by
  show XW mX4_count 4 0 0 0 [some (.ref 53), some (.int 6)] [] (HP Z) _
  obtain ⟨hc, c20, hl, l8, ok, hf, hdi, hfb⟩ := id mi
  refine XW.iload_n 1 dX4_count_0 rfl rfl ?_
  refine XW.iconst 2 dX4_count_1 (v := 0) (by decide) rfl ?_
  refine XW.bipush 4 dX4_count_2 (v := 7) (by decide) rfl ?_
  refine XW.callS 7 (vs := [.int 6, .int 0, .int 7]) (rest := []) (mcr := 0) (msr := 0) c4_49 dX4_count_4 rfl (by decide) (Nat.le_of_ble_eq_true rfl) rfl rfl (Nat.le_of_ble_eq_true rfl) rfl (c_in_ _ _ _ _) (fun r h1 hq => ?_)
  obtain ⟨rfl, rfl⟩ := hq
  refine XW.if_eqB 18 10 dX4_count_7 (by decide) rfl (fun c_7 => ?_) (fun c_7 => ?_)
  · exact absurd c_7 (by decide)
  · refine XW.aload_n 11 dX4_count_10 rfl rfl ?_
    refine XW.iload_n 12 dX4_count_11 rfl rfl ?_
    refine XW.callV 15 (vs := [.int 6]) (rest := []) (mcr := 0) (msr := 0) c4_195 dX4_count_12 rfl rfl (by decide) (Nat.le_of_ble_eq_true rfl) rfl rfl (Nat.le_of_ble_eq_true rfl) rfl (k_countOf_6 mi) (fun r h1 hq => ?_)
    obtain ⟨rfl, rfl⟩ := hq
    refine XW.goto 22 dX4_count_15 (by decide) ?_
    exact XW.iret dX4_count_22 rfl (⟨rfl, rfl⟩)
set_option maxHeartbeats 400000 in
set_option maxRecDepth 100000 in
theorem k_countOf_7 {Z : xZ} {c l : Nat} (mi : MI (Z.2.1 54) c l)  : XC mX4_countOf 3 0 0 [.ref 53, .int 7] (HP Z) (fun r h' => r = some (.int ((mG (Z.2.1 54)) 2)) ∧ h' = HP Z) := by
  show XW mX4_countOf 3 0 0 0 [some (.ref 53), some (.int 7)] [] (HP Z) _
  obtain ⟨hc, c20, hl, l8, ok, hf, hdi, hfb⟩ := id mi
  refine XW.iload_n 1 dX4_countOf_0 rfl rfl ?_
  refine XW.tableOut 69 dX4_countOf_1 (by decide) (by decide) ?_
  refine XW.aload_n 70 dX4_countOf_69 rfl rfl ?_
  refine XW.getf 73 (v := .ref 54) f4_7 dX4_countOf_70 rfl rfl rfl ?_
  refine XW.bipush 75 dX4_countOf_73 (v := 117) (by decide) rfl ?_
  refine XW.iload_n 76 dX4_countOf_75 rfl rfl ?_
  refine XW.iadd 77 dX4_countOf_76 rfl ?_
  refine XW.iconst 78 dX4_countOf_77 (v := 5) (by decide) rfl ?_
  refine XW.isub 79 dX4_countOf_78 rfl ?_
  refine XW.iald 80 (117 + 2) dX4_countOf_79 rfl rfl (by omega) (by decide) rfl ?_
  exact XW.iret dX4_countOf_80 rfl (⟨rfl, rfl⟩)
set_option maxHeartbeats 400000 in
set_option maxRecDepth 100000 in
theorem u_count_7 {Z : xZ} {c l : Nat} (mi : MI (Z.2.1 54) c l)  : XC mX4_count 4 0 0 [.ref 53, .int 7] (HP Z) (fun r h' => r = some (.int ((mG (Z.2.1 54)) 2)) ∧ h' = HP Z) := by
  show XW mX4_count 4 0 0 0 [some (.ref 53), some (.int 7)] [] (HP Z) _
  obtain ⟨hc, c20, hl, l8, ok, hf, hdi, hfb⟩ := id mi
  refine XW.iload_n 1 dX4_count_0 rfl rfl ?_
  refine XW.iconst 2 dX4_count_1 (v := 0) (by decide) rfl ?_
  refine XW.bipush 4 dX4_count_2 (v := 7) (by decide) rfl ?_
  refine XW.callS 7 (vs := [.int 7, .int 0, .int 7]) (rest := []) (mcr := 0) (msr := 0) c4_49 dX4_count_4 rfl (by decide) (Nat.le_of_ble_eq_true rfl) rfl rfl (Nat.le_of_ble_eq_true rfl) rfl (c_in_ _ _ _ _) (fun r h1 hq => ?_)
  obtain ⟨rfl, rfl⟩ := hq
  refine XW.if_eqB 18 10 dX4_count_7 (by decide) rfl (fun c_7 => ?_) (fun c_7 => ?_)
  · exact absurd c_7 (by decide)
  · refine XW.aload_n 11 dX4_count_10 rfl rfl ?_
    refine XW.iload_n 12 dX4_count_11 rfl rfl ?_
    refine XW.callV 15 (vs := [.int 7]) (rest := []) (mcr := 0) (msr := 0) c4_195 dX4_count_12 rfl rfl (by decide) (Nat.le_of_ble_eq_true rfl) rfl rfl (Nat.le_of_ble_eq_true rfl) rfl (k_countOf_7 mi) (fun r h1 hq => ?_)
    obtain ⟨rfl, rfl⟩ := hq
    refine XW.goto 22 dX4_count_15 (by decide) ?_
    exact XW.iret dX4_count_22 rfl (⟨rfl, rfl⟩)
set_option maxHeartbeats 400000 in
set_option maxRecDepth 100000 in
theorem u_count_bad {Z : xZ} {c l : Nat} (mi : MI (Z.2.1 54) c l) (x : Int32) (e : inF x 0 7 = false) : XC mX4_count 4 0 0 [.ref 53, .int x] (HP Z) (fun r h' => r = some (.int (-2)) ∧ h' = HP (rmZ Z 0)) := by
  show XW mX4_count 4 0 0 0 [some (.ref 53), some (.int x)] [] (HP Z) _
  obtain ⟨hc, c20, hl, l8, ok, hf, hdi, hfb⟩ := id mi
  refine XW.iload_n 1 dX4_count_0 rfl rfl ?_
  refine XW.iconst 2 dX4_count_1 (v := 0) (by decide) rfl ?_
  refine XW.bipush 4 dX4_count_2 (v := 7) (by decide) rfl ?_
  refine XW.callS 7 (vs := [.int x, .int 0, .int 7]) (rest := []) (mcr := 0) (msr := 0) c4_49 dX4_count_4 rfl (by decide) (Nat.le_of_ble_eq_true rfl) rfl rfl (Nat.le_of_ble_eq_true rfl) rfl (c_in_ _ _ _ _) (fun r h1 hq => ?_)
  obtain ⟨rfl, rfl⟩ := hq
  refine XW.if_eqB 18 10 dX4_count_7 (by decide) rfl (fun c_7 => ?_) (fun c_7 => ?_)
  · refine XW.aload_n 19 dX4_count_18 rfl rfl ?_
    refine XW.callV 22 (vs := []) (rest := []) (mcr := 0) (msr := 0) c4_68 dX4_count_19 rfl rfl (by decide) (Nat.le_of_ble_eq_true rfl) rfl rfl (Nat.le_of_ble_eq_true rfl) rfl k_bad (fun r h1 hq => ?_)
    obtain ⟨rfl, rfl⟩ := hq
    refine XW.eqs (st' := [.int (-2)]) rfl rfl rfl ?_
    exact XW.iret dX4_count_22 rfl (⟨rfl, rfl⟩)
  · rw [e] at c_7; cases c_7
set_option maxHeartbeats 400000 in
set_option maxRecDepth 100000 in
theorem k_toldOf_0 {Z : xZ} {c l : Nat} (mi : MI (Z.2.1 54) c l)  : XC mX4_toldOf 3 0 0 [.ref 53, .int 0] (HP Z) (fun r h' => r = some (.int (Z.2.1 57 0)) ∧ h' = HP Z) := by
  show XW mX4_toldOf 3 0 0 0 [some (.ref 53), some (.int 0)] [] (HP Z) _
  obtain ⟨hc, c20, hl, l8, ok, hf, hdi, hfb⟩ := id mi
  refine XW.iload_n 1 dX4_toldOf_0 rfl rfl ?_
  refine XW.iconst 2 dX4_toldOf_1 (v := 3) (by decide) rfl ?_
  refine XW.icmp_geN 14 5 0 3 dX4_toldOf_2 (by decide) rfl rfl rfl (by omega) (by omega) (fun c_2 => ?_) (fun c_2 => ?_)
  · exact absurd c_2 (by decide)
  · refine XW.aload_n 6 dX4_toldOf_5 rfl rfl ?_
    refine XW.getf 9 (v := .ref 57) f4_19 dX4_toldOf_6 rfl rfl rfl ?_
    refine XW.iload_n 10 dX4_toldOf_9 rfl rfl ?_
    refine XW.iald 11 0 dX4_toldOf_10 rfl rfl (by omega) (by decide) rfl ?_
    refine XW.goto 51 dX4_toldOf_11 (by decide) ?_
    exact XW.iret dX4_toldOf_51 rfl (⟨rfl, rfl⟩)
set_option maxHeartbeats 400000 in
set_option maxRecDepth 100000 in
theorem u_told_0 {Z : xZ} {c l : Nat} (mi : MI (Z.2.1 54) c l)  : XC mX4_told 4 0 0 [.ref 53, .int 0] (HP Z) (fun r h' => r = some (.int (Z.2.1 57 0)) ∧ h' = HP Z) := by
  show XW mX4_told 4 0 0 0 [some (.ref 53), some (.int 0)] [] (HP Z) _
  obtain ⟨hc, c20, hl, l8, ok, hf, hdi, hfb⟩ := id mi
  refine XW.iload_n 1 dX4_told_0 rfl rfl ?_
  refine XW.iconst 2 dX4_told_1 (v := 0) (by decide) rfl ?_
  refine XW.bipush 4 dX4_told_2 (v := 7) (by decide) rfl ?_
  refine XW.callS 7 (vs := [.int 0, .int 0, .int 7]) (rest := []) (mcr := 0) (msr := 0) c4_49 dX4_told_4 rfl (by decide) (Nat.le_of_ble_eq_true rfl) rfl rfl (Nat.le_of_ble_eq_true rfl) rfl (c_in_ _ _ _ _) (fun r h1 hq => ?_)
  obtain ⟨rfl, rfl⟩ := hq
  refine XW.if_eqB 18 10 dX4_told_7 (by decide) rfl (fun c_7 => ?_) (fun c_7 => ?_)
  · exact absurd c_7 (by decide)
  · refine XW.aload_n 11 dX4_told_10 rfl rfl ?_
    refine XW.iload_n 12 dX4_told_11 rfl rfl ?_
    refine XW.callV 15 (vs := [.int 0]) (rest := []) (mcr := 0) (msr := 0) c4_246 dX4_told_12 rfl rfl (by decide) (Nat.le_of_ble_eq_true rfl) rfl rfl (Nat.le_of_ble_eq_true rfl) rfl (k_toldOf_0 mi) (fun r h1 hq => ?_)
    obtain ⟨rfl, rfl⟩ := hq
    refine XW.goto 22 dX4_told_15 (by decide) ?_
    exact XW.iret dX4_told_22 rfl (⟨rfl, rfl⟩)
set_option maxHeartbeats 400000 in
set_option maxRecDepth 100000 in
theorem k_toldOf_1 {Z : xZ} {c l : Nat} (mi : MI (Z.2.1 54) c l)  : XC mX4_toldOf 3 0 0 [.ref 53, .int 1] (HP Z) (fun r h' => r = some (.int (Z.2.1 57 1)) ∧ h' = HP Z) := by
  show XW mX4_toldOf 3 0 0 0 [some (.ref 53), some (.int 1)] [] (HP Z) _
  obtain ⟨hc, c20, hl, l8, ok, hf, hdi, hfb⟩ := id mi
  refine XW.iload_n 1 dX4_toldOf_0 rfl rfl ?_
  refine XW.iconst 2 dX4_toldOf_1 (v := 3) (by decide) rfl ?_
  refine XW.icmp_geN 14 5 1 3 dX4_toldOf_2 (by decide) rfl rfl rfl (by omega) (by omega) (fun c_2 => ?_) (fun c_2 => ?_)
  · exact absurd c_2 (by decide)
  · refine XW.aload_n 6 dX4_toldOf_5 rfl rfl ?_
    refine XW.getf 9 (v := .ref 57) f4_19 dX4_toldOf_6 rfl rfl rfl ?_
    refine XW.iload_n 10 dX4_toldOf_9 rfl rfl ?_
    refine XW.iald 11 1 dX4_toldOf_10 rfl rfl (by omega) (by decide) rfl ?_
    refine XW.goto 51 dX4_toldOf_11 (by decide) ?_
    exact XW.iret dX4_toldOf_51 rfl (⟨rfl, rfl⟩)
set_option maxHeartbeats 400000 in
set_option maxRecDepth 100000 in
theorem u_told_1 {Z : xZ} {c l : Nat} (mi : MI (Z.2.1 54) c l)  : XC mX4_told 4 0 0 [.ref 53, .int 1] (HP Z) (fun r h' => r = some (.int (Z.2.1 57 1)) ∧ h' = HP Z) := by
  show XW mX4_told 4 0 0 0 [some (.ref 53), some (.int 1)] [] (HP Z) _
  obtain ⟨hc, c20, hl, l8, ok, hf, hdi, hfb⟩ := id mi
  refine XW.iload_n 1 dX4_told_0 rfl rfl ?_
  refine XW.iconst 2 dX4_told_1 (v := 0) (by decide) rfl ?_
  refine XW.bipush 4 dX4_told_2 (v := 7) (by decide) rfl ?_
  refine XW.callS 7 (vs := [.int 1, .int 0, .int 7]) (rest := []) (mcr := 0) (msr := 0) c4_49 dX4_told_4 rfl (by decide) (Nat.le_of_ble_eq_true rfl) rfl rfl (Nat.le_of_ble_eq_true rfl) rfl (c_in_ _ _ _ _) (fun r h1 hq => ?_)
  obtain ⟨rfl, rfl⟩ := hq
  refine XW.if_eqB 18 10 dX4_told_7 (by decide) rfl (fun c_7 => ?_) (fun c_7 => ?_)
  · exact absurd c_7 (by decide)
  · refine XW.aload_n 11 dX4_told_10 rfl rfl ?_
    refine XW.iload_n 12 dX4_told_11 rfl rfl ?_
    refine XW.callV 15 (vs := [.int 1]) (rest := []) (mcr := 0) (msr := 0) c4_246 dX4_told_12 rfl rfl (by decide) (Nat.le_of_ble_eq_true rfl) rfl rfl (Nat.le_of_ble_eq_true rfl) rfl (k_toldOf_1 mi) (fun r h1 hq => ?_)
    obtain ⟨rfl, rfl⟩ := hq
    refine XW.goto 22 dX4_told_15 (by decide) ?_
    exact XW.iret dX4_told_22 rfl (⟨rfl, rfl⟩)
set_option maxHeartbeats 400000 in
set_option maxRecDepth 100000 in
theorem k_toldOf_2 {Z : xZ} {c l : Nat} (mi : MI (Z.2.1 54) c l)  : XC mX4_toldOf 3 0 0 [.ref 53, .int 2] (HP Z) (fun r h' => r = some (.int (Z.2.1 57 2)) ∧ h' = HP Z) := by
  show XW mX4_toldOf 3 0 0 0 [some (.ref 53), some (.int 2)] [] (HP Z) _
  obtain ⟨hc, c20, hl, l8, ok, hf, hdi, hfb⟩ := id mi
  refine XW.iload_n 1 dX4_toldOf_0 rfl rfl ?_
  refine XW.iconst 2 dX4_toldOf_1 (v := 3) (by decide) rfl ?_
  refine XW.icmp_geN 14 5 2 3 dX4_toldOf_2 (by decide) rfl rfl rfl (by omega) (by omega) (fun c_2 => ?_) (fun c_2 => ?_)
  · exact absurd c_2 (by decide)
  · refine XW.aload_n 6 dX4_toldOf_5 rfl rfl ?_
    refine XW.getf 9 (v := .ref 57) f4_19 dX4_toldOf_6 rfl rfl rfl ?_
    refine XW.iload_n 10 dX4_toldOf_9 rfl rfl ?_
    refine XW.iald 11 2 dX4_toldOf_10 rfl rfl (by omega) (by decide) rfl ?_
    refine XW.goto 51 dX4_toldOf_11 (by decide) ?_
    exact XW.iret dX4_toldOf_51 rfl (⟨rfl, rfl⟩)
set_option maxHeartbeats 400000 in
set_option maxRecDepth 100000 in
theorem u_told_2 {Z : xZ} {c l : Nat} (mi : MI (Z.2.1 54) c l)  : XC mX4_told 4 0 0 [.ref 53, .int 2] (HP Z) (fun r h' => r = some (.int (Z.2.1 57 2)) ∧ h' = HP Z) := by
  show XW mX4_told 4 0 0 0 [some (.ref 53), some (.int 2)] [] (HP Z) _
  obtain ⟨hc, c20, hl, l8, ok, hf, hdi, hfb⟩ := id mi
  refine XW.iload_n 1 dX4_told_0 rfl rfl ?_
  refine XW.iconst 2 dX4_told_1 (v := 0) (by decide) rfl ?_
  refine XW.bipush 4 dX4_told_2 (v := 7) (by decide) rfl ?_
  refine XW.callS 7 (vs := [.int 2, .int 0, .int 7]) (rest := []) (mcr := 0) (msr := 0) c4_49 dX4_told_4 rfl (by decide) (Nat.le_of_ble_eq_true rfl) rfl rfl (Nat.le_of_ble_eq_true rfl) rfl (c_in_ _ _ _ _) (fun r h1 hq => ?_)
  obtain ⟨rfl, rfl⟩ := hq
  refine XW.if_eqB 18 10 dX4_told_7 (by decide) rfl (fun c_7 => ?_) (fun c_7 => ?_)
  · exact absurd c_7 (by decide)
  · refine XW.aload_n 11 dX4_told_10 rfl rfl ?_
    refine XW.iload_n 12 dX4_told_11 rfl rfl ?_
    refine XW.callV 15 (vs := [.int 2]) (rest := []) (mcr := 0) (msr := 0) c4_246 dX4_told_12 rfl rfl (by decide) (Nat.le_of_ble_eq_true rfl) rfl rfl (Nat.le_of_ble_eq_true rfl) rfl (k_toldOf_2 mi) (fun r h1 hq => ?_)
    obtain ⟨rfl, rfl⟩ := hq
    refine XW.goto 22 dX4_told_15 (by decide) ?_
    exact XW.iret dX4_told_22 rfl (⟨rfl, rfl⟩)
set_option maxHeartbeats 400000 in
set_option maxRecDepth 100000 in
theorem k_toldOf_3 {Z : xZ} {c l : Nat} (mi : MI (Z.2.1 54) c l)  : XC mX4_toldOf 3 0 0 [.ref 53, .int 3] (HP Z) (fun r h' => r = some (.int ((mL (Z.2.1 54)) 0)) ∧ h' = HP Z) := by
  show XW mX4_toldOf 3 0 0 0 [some (.ref 53), some (.int 3)] [] (HP Z) _
  obtain ⟨hc, c20, hl, l8, ok, hf, hdi, hfb⟩ := id mi
  refine XW.iload_n 1 dX4_toldOf_0 rfl rfl ?_
  refine XW.iconst 2 dX4_toldOf_1 (v := 3) (by decide) rfl ?_
  refine XW.icmp_geN 14 5 3 3 dX4_toldOf_2 (by decide) rfl rfl rfl (by omega) (by omega) (fun c_2 => ?_) (fun c_2 => ?_)
  · refine XW.iload_n 15 dX4_toldOf_14 rfl rfl ?_
    refine XW.bipush 17 dX4_toldOf_15 (v := 6) (by decide) rfl ?_
    refine XW.icmp_geN 34 20 3 6 dX4_toldOf_17 (by decide) rfl rfl rfl (by omega) (by omega) (fun c_17 => ?_) (fun c_17 => ?_)
    · exact absurd c_17 (by decide)
    · refine XW.aload_n 21 dX4_toldOf_20 rfl rfl ?_
      refine XW.getf 24 (v := .ref 54) f4_7 dX4_toldOf_21 rfl rfl rfl ?_
      refine XW.bipush 26 dX4_toldOf_24 (v := 114) (by decide) rfl ?_
      refine XW.iload_n 27 dX4_toldOf_26 rfl rfl ?_
      refine XW.iadd 28 dX4_toldOf_27 rfl ?_
      refine XW.iconst 29 dX4_toldOf_28 (v := 3) (by decide) rfl ?_
      refine XW.isub 30 dX4_toldOf_29 rfl ?_
      refine XW.iald 31 (114 + 0) dX4_toldOf_30 rfl rfl (by omega) (by decide) rfl ?_
      refine XW.goto 51 dX4_toldOf_31 (by decide) ?_
      exact XW.iret dX4_toldOf_51 rfl (⟨rfl, rfl⟩)
  · exact absurd c_2 (by decide)
set_option maxHeartbeats 400000 in
set_option maxRecDepth 100000 in
theorem u_told_3 {Z : xZ} {c l : Nat} (mi : MI (Z.2.1 54) c l)  : XC mX4_told 4 0 0 [.ref 53, .int 3] (HP Z) (fun r h' => r = some (.int ((mL (Z.2.1 54)) 0)) ∧ h' = HP Z) := by
  show XW mX4_told 4 0 0 0 [some (.ref 53), some (.int 3)] [] (HP Z) _
  obtain ⟨hc, c20, hl, l8, ok, hf, hdi, hfb⟩ := id mi
  refine XW.iload_n 1 dX4_told_0 rfl rfl ?_
  refine XW.iconst 2 dX4_told_1 (v := 0) (by decide) rfl ?_
  refine XW.bipush 4 dX4_told_2 (v := 7) (by decide) rfl ?_
  refine XW.callS 7 (vs := [.int 3, .int 0, .int 7]) (rest := []) (mcr := 0) (msr := 0) c4_49 dX4_told_4 rfl (by decide) (Nat.le_of_ble_eq_true rfl) rfl rfl (Nat.le_of_ble_eq_true rfl) rfl (c_in_ _ _ _ _) (fun r h1 hq => ?_)
  obtain ⟨rfl, rfl⟩ := hq
  refine XW.if_eqB 18 10 dX4_told_7 (by decide) rfl (fun c_7 => ?_) (fun c_7 => ?_)
  · exact absurd c_7 (by decide)
  · refine XW.aload_n 11 dX4_told_10 rfl rfl ?_
    refine XW.iload_n 12 dX4_told_11 rfl rfl ?_
    refine XW.callV 15 (vs := [.int 3]) (rest := []) (mcr := 0) (msr := 0) c4_246 dX4_told_12 rfl rfl (by decide) (Nat.le_of_ble_eq_true rfl) rfl rfl (Nat.le_of_ble_eq_true rfl) rfl (k_toldOf_3 mi) (fun r h1 hq => ?_)
    obtain ⟨rfl, rfl⟩ := hq
    refine XW.goto 22 dX4_told_15 (by decide) ?_
    exact XW.iret dX4_told_22 rfl (⟨rfl, rfl⟩)
set_option maxHeartbeats 400000 in
set_option maxRecDepth 100000 in
theorem k_toldOf_4 {Z : xZ} {c l : Nat} (mi : MI (Z.2.1 54) c l)  : XC mX4_toldOf 3 0 0 [.ref 53, .int 4] (HP Z) (fun r h' => r = some (.int ((mL (Z.2.1 54)) 1)) ∧ h' = HP Z) := by
  show XW mX4_toldOf 3 0 0 0 [some (.ref 53), some (.int 4)] [] (HP Z) _
  obtain ⟨hc, c20, hl, l8, ok, hf, hdi, hfb⟩ := id mi
  refine XW.iload_n 1 dX4_toldOf_0 rfl rfl ?_
  refine XW.iconst 2 dX4_toldOf_1 (v := 3) (by decide) rfl ?_
  refine XW.icmp_geN 14 5 4 3 dX4_toldOf_2 (by decide) rfl rfl rfl (by omega) (by omega) (fun c_2 => ?_) (fun c_2 => ?_)
  · refine XW.iload_n 15 dX4_toldOf_14 rfl rfl ?_
    refine XW.bipush 17 dX4_toldOf_15 (v := 6) (by decide) rfl ?_
    refine XW.icmp_geN 34 20 4 6 dX4_toldOf_17 (by decide) rfl rfl rfl (by omega) (by omega) (fun c_17 => ?_) (fun c_17 => ?_)
    · exact absurd c_17 (by decide)
    · refine XW.aload_n 21 dX4_toldOf_20 rfl rfl ?_
      refine XW.getf 24 (v := .ref 54) f4_7 dX4_toldOf_21 rfl rfl rfl ?_
      refine XW.bipush 26 dX4_toldOf_24 (v := 114) (by decide) rfl ?_
      refine XW.iload_n 27 dX4_toldOf_26 rfl rfl ?_
      refine XW.iadd 28 dX4_toldOf_27 rfl ?_
      refine XW.iconst 29 dX4_toldOf_28 (v := 3) (by decide) rfl ?_
      refine XW.isub 30 dX4_toldOf_29 rfl ?_
      refine XW.iald 31 (114 + 1) dX4_toldOf_30 rfl rfl (by omega) (by decide) rfl ?_
      refine XW.goto 51 dX4_toldOf_31 (by decide) ?_
      exact XW.iret dX4_toldOf_51 rfl (⟨rfl, rfl⟩)
  · exact absurd c_2 (by decide)
set_option maxHeartbeats 400000 in
set_option maxRecDepth 100000 in
theorem u_told_4 {Z : xZ} {c l : Nat} (mi : MI (Z.2.1 54) c l)  : XC mX4_told 4 0 0 [.ref 53, .int 4] (HP Z) (fun r h' => r = some (.int ((mL (Z.2.1 54)) 1)) ∧ h' = HP Z) := by
  show XW mX4_told 4 0 0 0 [some (.ref 53), some (.int 4)] [] (HP Z) _
  obtain ⟨hc, c20, hl, l8, ok, hf, hdi, hfb⟩ := id mi
  refine XW.iload_n 1 dX4_told_0 rfl rfl ?_
  refine XW.iconst 2 dX4_told_1 (v := 0) (by decide) rfl ?_
  refine XW.bipush 4 dX4_told_2 (v := 7) (by decide) rfl ?_
  refine XW.callS 7 (vs := [.int 4, .int 0, .int 7]) (rest := []) (mcr := 0) (msr := 0) c4_49 dX4_told_4 rfl (by decide) (Nat.le_of_ble_eq_true rfl) rfl rfl (Nat.le_of_ble_eq_true rfl) rfl (c_in_ _ _ _ _) (fun r h1 hq => ?_)
  obtain ⟨rfl, rfl⟩ := hq
  refine XW.if_eqB 18 10 dX4_told_7 (by decide) rfl (fun c_7 => ?_) (fun c_7 => ?_)
  · exact absurd c_7 (by decide)
  · refine XW.aload_n 11 dX4_told_10 rfl rfl ?_
    refine XW.iload_n 12 dX4_told_11 rfl rfl ?_
    refine XW.callV 15 (vs := [.int 4]) (rest := []) (mcr := 0) (msr := 0) c4_246 dX4_told_12 rfl rfl (by decide) (Nat.le_of_ble_eq_true rfl) rfl rfl (Nat.le_of_ble_eq_true rfl) rfl (k_toldOf_4 mi) (fun r h1 hq => ?_)
    obtain ⟨rfl, rfl⟩ := hq
    refine XW.goto 22 dX4_told_15 (by decide) ?_
    exact XW.iret dX4_told_22 rfl (⟨rfl, rfl⟩)
set_option maxHeartbeats 400000 in
set_option maxRecDepth 100000 in
theorem k_toldOf_5 {Z : xZ} {c l : Nat} (mi : MI (Z.2.1 54) c l)  : XC mX4_toldOf 3 0 0 [.ref 53, .int 5] (HP Z) (fun r h' => r = some (.int ((mL (Z.2.1 54)) 2)) ∧ h' = HP Z) := by
  show XW mX4_toldOf 3 0 0 0 [some (.ref 53), some (.int 5)] [] (HP Z) _
  obtain ⟨hc, c20, hl, l8, ok, hf, hdi, hfb⟩ := id mi
  refine XW.iload_n 1 dX4_toldOf_0 rfl rfl ?_
  refine XW.iconst 2 dX4_toldOf_1 (v := 3) (by decide) rfl ?_
  refine XW.icmp_geN 14 5 5 3 dX4_toldOf_2 (by decide) rfl rfl rfl (by omega) (by omega) (fun c_2 => ?_) (fun c_2 => ?_)
  · refine XW.iload_n 15 dX4_toldOf_14 rfl rfl ?_
    refine XW.bipush 17 dX4_toldOf_15 (v := 6) (by decide) rfl ?_
    refine XW.icmp_geN 34 20 5 6 dX4_toldOf_17 (by decide) rfl rfl rfl (by omega) (by omega) (fun c_17 => ?_) (fun c_17 => ?_)
    · exact absurd c_17 (by decide)
    · refine XW.aload_n 21 dX4_toldOf_20 rfl rfl ?_
      refine XW.getf 24 (v := .ref 54) f4_7 dX4_toldOf_21 rfl rfl rfl ?_
      refine XW.bipush 26 dX4_toldOf_24 (v := 114) (by decide) rfl ?_
      refine XW.iload_n 27 dX4_toldOf_26 rfl rfl ?_
      refine XW.iadd 28 dX4_toldOf_27 rfl ?_
      refine XW.iconst 29 dX4_toldOf_28 (v := 3) (by decide) rfl ?_
      refine XW.isub 30 dX4_toldOf_29 rfl ?_
      refine XW.iald 31 (114 + 2) dX4_toldOf_30 rfl rfl (by omega) (by decide) rfl ?_
      refine XW.goto 51 dX4_toldOf_31 (by decide) ?_
      exact XW.iret dX4_toldOf_51 rfl (⟨rfl, rfl⟩)
  · exact absurd c_2 (by decide)
set_option maxHeartbeats 400000 in
set_option maxRecDepth 100000 in
theorem u_told_5 {Z : xZ} {c l : Nat} (mi : MI (Z.2.1 54) c l)  : XC mX4_told 4 0 0 [.ref 53, .int 5] (HP Z) (fun r h' => r = some (.int ((mL (Z.2.1 54)) 2)) ∧ h' = HP Z) := by
  show XW mX4_told 4 0 0 0 [some (.ref 53), some (.int 5)] [] (HP Z) _
  obtain ⟨hc, c20, hl, l8, ok, hf, hdi, hfb⟩ := id mi
  refine XW.iload_n 1 dX4_told_0 rfl rfl ?_
  refine XW.iconst 2 dX4_told_1 (v := 0) (by decide) rfl ?_
  refine XW.bipush 4 dX4_told_2 (v := 7) (by decide) rfl ?_
  refine XW.callS 7 (vs := [.int 5, .int 0, .int 7]) (rest := []) (mcr := 0) (msr := 0) c4_49 dX4_told_4 rfl (by decide) (Nat.le_of_ble_eq_true rfl) rfl rfl (Nat.le_of_ble_eq_true rfl) rfl (c_in_ _ _ _ _) (fun r h1 hq => ?_)
  obtain ⟨rfl, rfl⟩ := hq
  refine XW.if_eqB 18 10 dX4_told_7 (by decide) rfl (fun c_7 => ?_) (fun c_7 => ?_)
  · exact absurd c_7 (by decide)
  · refine XW.aload_n 11 dX4_told_10 rfl rfl ?_
    refine XW.iload_n 12 dX4_told_11 rfl rfl ?_
    refine XW.callV 15 (vs := [.int 5]) (rest := []) (mcr := 0) (msr := 0) c4_246 dX4_told_12 rfl rfl (by decide) (Nat.le_of_ble_eq_true rfl) rfl rfl (Nat.le_of_ble_eq_true rfl) rfl (k_toldOf_5 mi) (fun r h1 hq => ?_)
    obtain ⟨rfl, rfl⟩ := hq
    refine XW.goto 22 dX4_told_15 (by decide) ?_
    exact XW.iret dX4_told_22 rfl (⟨rfl, rfl⟩)
set_option maxHeartbeats 400000 in
set_option maxRecDepth 100000 in
theorem k_toldOf_6 {Z : xZ} {c l : Nat} (mi : MI (Z.2.1 54) c l)  : XC mX4_toldOf 3 0 0 [.ref 53, .int 6] (HP Z) (fun r h' => r = some (.int (Z.1 53 6)) ∧ h' = HP Z) := by
  show XW mX4_toldOf 3 0 0 0 [some (.ref 53), some (.int 6)] [] (HP Z) _
  obtain ⟨hc, c20, hl, l8, ok, hf, hdi, hfb⟩ := id mi
  refine XW.iload_n 1 dX4_toldOf_0 rfl rfl ?_
  refine XW.iconst 2 dX4_toldOf_1 (v := 3) (by decide) rfl ?_
  refine XW.icmp_geN 14 5 6 3 dX4_toldOf_2 (by decide) rfl rfl rfl (by omega) (by omega) (fun c_2 => ?_) (fun c_2 => ?_)
  · refine XW.iload_n 15 dX4_toldOf_14 rfl rfl ?_
    refine XW.bipush 17 dX4_toldOf_15 (v := 6) (by decide) rfl ?_
    refine XW.icmp_geN 34 20 6 6 dX4_toldOf_17 (by decide) rfl rfl rfl (by omega) (by omega) (fun c_17 => ?_) (fun c_17 => ?_)
    · refine XW.iload_n 35 dX4_toldOf_34 rfl rfl ?_
      refine XW.bipush 37 dX4_toldOf_35 (v := 6) (by decide) rfl ?_
      refine XW.icmp_neN 47 40 6 6 dX4_toldOf_37 (by decide) rfl rfl rfl (by omega) (by omega) (fun c_37 => ?_) (fun c_37 => ?_)
      · exact absurd c_37 (by decide)
      · refine XW.aload_n 41 dX4_toldOf_40 rfl rfl ?_
        refine XW.getf 44 (v := .int (Z.1 53 6)) f4_198 dX4_toldOf_41 rfl rfl rfl ?_
        refine XW.goto 51 dX4_toldOf_44 (by decide) ?_
        exact XW.iret dX4_toldOf_51 rfl (⟨rfl, rfl⟩)
    · exact absurd c_17 (by decide)
  · exact absurd c_2 (by decide)
set_option maxHeartbeats 400000 in
set_option maxRecDepth 100000 in
theorem u_told_6 {Z : xZ} {c l : Nat} (mi : MI (Z.2.1 54) c l)  : XC mX4_told 4 0 0 [.ref 53, .int 6] (HP Z) (fun r h' => r = some (.int (Z.1 53 6)) ∧ h' = HP Z) := by
  show XW mX4_told 4 0 0 0 [some (.ref 53), some (.int 6)] [] (HP Z) _
  obtain ⟨hc, c20, hl, l8, ok, hf, hdi, hfb⟩ := id mi
  refine XW.iload_n 1 dX4_told_0 rfl rfl ?_
  refine XW.iconst 2 dX4_told_1 (v := 0) (by decide) rfl ?_
  refine XW.bipush 4 dX4_told_2 (v := 7) (by decide) rfl ?_
  refine XW.callS 7 (vs := [.int 6, .int 0, .int 7]) (rest := []) (mcr := 0) (msr := 0) c4_49 dX4_told_4 rfl (by decide) (Nat.le_of_ble_eq_true rfl) rfl rfl (Nat.le_of_ble_eq_true rfl) rfl (c_in_ _ _ _ _) (fun r h1 hq => ?_)
  obtain ⟨rfl, rfl⟩ := hq
  refine XW.if_eqB 18 10 dX4_told_7 (by decide) rfl (fun c_7 => ?_) (fun c_7 => ?_)
  · exact absurd c_7 (by decide)
  · refine XW.aload_n 11 dX4_told_10 rfl rfl ?_
    refine XW.iload_n 12 dX4_told_11 rfl rfl ?_
    refine XW.callV 15 (vs := [.int 6]) (rest := []) (mcr := 0) (msr := 0) c4_246 dX4_told_12 rfl rfl (by decide) (Nat.le_of_ble_eq_true rfl) rfl rfl (Nat.le_of_ble_eq_true rfl) rfl (k_toldOf_6 mi) (fun r h1 hq => ?_)
    obtain ⟨rfl, rfl⟩ := hq
    refine XW.goto 22 dX4_told_15 (by decide) ?_
    exact XW.iret dX4_told_22 rfl (⟨rfl, rfl⟩)
set_option maxHeartbeats 400000 in
set_option maxRecDepth 100000 in
theorem k_toldOf_7 {Z : xZ} {c l : Nat} (mi : MI (Z.2.1 54) c l)  : XC mX4_toldOf 3 0 0 [.ref 53, .int 7] (HP Z) (fun r h' => r = some (.int (Z.1 53 3)) ∧ h' = HP Z) := by
  show XW mX4_toldOf 3 0 0 0 [some (.ref 53), some (.int 7)] [] (HP Z) _
  obtain ⟨hc, c20, hl, l8, ok, hf, hdi, hfb⟩ := id mi
  refine XW.iload_n 1 dX4_toldOf_0 rfl rfl ?_
  refine XW.iconst 2 dX4_toldOf_1 (v := 3) (by decide) rfl ?_
  refine XW.icmp_geN 14 5 7 3 dX4_toldOf_2 (by decide) rfl rfl rfl (by omega) (by omega) (fun c_2 => ?_) (fun c_2 => ?_)
  · refine XW.iload_n 15 dX4_toldOf_14 rfl rfl ?_
    refine XW.bipush 17 dX4_toldOf_15 (v := 6) (by decide) rfl ?_
    refine XW.icmp_geN 34 20 7 6 dX4_toldOf_17 (by decide) rfl rfl rfl (by omega) (by omega) (fun c_17 => ?_) (fun c_17 => ?_)
    · refine XW.iload_n 35 dX4_toldOf_34 rfl rfl ?_
      refine XW.bipush 37 dX4_toldOf_35 (v := 6) (by decide) rfl ?_
      refine XW.icmp_neN 47 40 7 6 dX4_toldOf_37 (by decide) rfl rfl rfl (by omega) (by omega) (fun c_37 => ?_) (fun c_37 => ?_)
      · refine XW.aload_n 48 dX4_toldOf_47 rfl rfl ?_
        refine XW.getf 51 (v := .int (Z.1 53 3)) f4_41 dX4_toldOf_48 rfl rfl rfl ?_
        exact XW.iret dX4_toldOf_51 rfl (⟨rfl, rfl⟩)
      · exact absurd c_37 (by decide)
    · exact absurd c_17 (by decide)
  · exact absurd c_2 (by decide)
set_option maxHeartbeats 400000 in
set_option maxRecDepth 100000 in
theorem u_told_7 {Z : xZ} {c l : Nat} (mi : MI (Z.2.1 54) c l)  : XC mX4_told 4 0 0 [.ref 53, .int 7] (HP Z) (fun r h' => r = some (.int (Z.1 53 3)) ∧ h' = HP Z) := by
  show XW mX4_told 4 0 0 0 [some (.ref 53), some (.int 7)] [] (HP Z) _
  obtain ⟨hc, c20, hl, l8, ok, hf, hdi, hfb⟩ := id mi
  refine XW.iload_n 1 dX4_told_0 rfl rfl ?_
  refine XW.iconst 2 dX4_told_1 (v := 0) (by decide) rfl ?_
  refine XW.bipush 4 dX4_told_2 (v := 7) (by decide) rfl ?_
  refine XW.callS 7 (vs := [.int 7, .int 0, .int 7]) (rest := []) (mcr := 0) (msr := 0) c4_49 dX4_told_4 rfl (by decide) (Nat.le_of_ble_eq_true rfl) rfl rfl (Nat.le_of_ble_eq_true rfl) rfl (c_in_ _ _ _ _) (fun r h1 hq => ?_)
  obtain ⟨rfl, rfl⟩ := hq
  refine XW.if_eqB 18 10 dX4_told_7 (by decide) rfl (fun c_7 => ?_) (fun c_7 => ?_)
  · exact absurd c_7 (by decide)
  · refine XW.aload_n 11 dX4_told_10 rfl rfl ?_
    refine XW.iload_n 12 dX4_told_11 rfl rfl ?_
    refine XW.callV 15 (vs := [.int 7]) (rest := []) (mcr := 0) (msr := 0) c4_246 dX4_told_12 rfl rfl (by decide) (Nat.le_of_ble_eq_true rfl) rfl rfl (Nat.le_of_ble_eq_true rfl) rfl (k_toldOf_7 mi) (fun r h1 hq => ?_)
    obtain ⟨rfl, rfl⟩ := hq
    refine XW.goto 22 dX4_told_15 (by decide) ?_
    exact XW.iret dX4_told_22 rfl (⟨rfl, rfl⟩)
set_option maxHeartbeats 400000 in
set_option maxRecDepth 100000 in
theorem u_told_bad {Z : xZ} {c l : Nat} (mi : MI (Z.2.1 54) c l) (x : Int32) (e : inF x 0 7 = false) : XC mX4_told 4 0 0 [.ref 53, .int x] (HP Z) (fun r h' => r = some (.int (-2)) ∧ h' = HP (rmZ Z 0)) := by
  show XW mX4_told 4 0 0 0 [some (.ref 53), some (.int x)] [] (HP Z) _
  obtain ⟨hc, c20, hl, l8, ok, hf, hdi, hfb⟩ := id mi
  refine XW.iload_n 1 dX4_told_0 rfl rfl ?_
  refine XW.iconst 2 dX4_told_1 (v := 0) (by decide) rfl ?_
  refine XW.bipush 4 dX4_told_2 (v := 7) (by decide) rfl ?_
  refine XW.callS 7 (vs := [.int x, .int 0, .int 7]) (rest := []) (mcr := 0) (msr := 0) c4_49 dX4_told_4 rfl (by decide) (Nat.le_of_ble_eq_true rfl) rfl rfl (Nat.le_of_ble_eq_true rfl) rfl (c_in_ _ _ _ _) (fun r h1 hq => ?_)
  obtain ⟨rfl, rfl⟩ := hq
  refine XW.if_eqB 18 10 dX4_told_7 (by decide) rfl (fun c_7 => ?_) (fun c_7 => ?_)
  · refine XW.aload_n 19 dX4_told_18 rfl rfl ?_
    refine XW.callV 22 (vs := []) (rest := []) (mcr := 0) (msr := 0) c4_68 dX4_told_19 rfl rfl (by decide) (Nat.le_of_ble_eq_true rfl) rfl rfl (Nat.le_of_ble_eq_true rfl) rfl k_bad (fun r h1 hq => ?_)
    obtain ⟨rfl, rfl⟩ := hq
    refine XW.eqs (st' := [.int (-2)]) rfl rfl rfl ?_
    exact XW.iret dX4_told_22 rfl (⟨rfl, rfl⟩)
  · rw [e] at c_7; cases c_7
