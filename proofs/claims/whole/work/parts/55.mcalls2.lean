/-! The reference: its calls that write -/
set_option maxHeartbeats 400000 in
set_option maxRecDepth 100000 in
theorem u_colour_bad {Z : xZ} {c l : Nat} (mi : MI (Z.2.1 54) c l) {st : Nat} (hst : Z.1 53 3 = nI st) (st5 : st ≤ 5) (x y z : Int32) (e : rgbF x y z = false) : XC mX4_colour 8 0 0 [.ref 53, .int x, .int y, .int z] (HP Z) (fun r h' => r = some (.int (-2)) ∧ h' = HP (rmZ Z 0)) := by
  show XW mX4_colour 8 0 0 0 [some (.ref 53), some (.int x), some (.int y), some (.int z)] [] (HP Z) _
  obtain ⟨hc, c20, hl, l8, ok, hf, hdi, hfb⟩ := id mi
  refine XW.iload_n 1 dX4_colour_0 rfl rfl ?_
  refine XW.iload_n 2 dX4_colour_1 rfl rfl ?_
  refine XW.iload_n 3 dX4_colour_2 rfl rfl ?_
  refine XW.callS 6 (vs := [.int x, .int y, .int z]) (rest := []) (mcr := 0) (msr := 0) c4_65 dX4_colour_3 rfl (by decide) (Nat.le_of_ble_eq_true rfl) rfl rfl (Nat.le_of_ble_eq_true rfl) rfl (k_areParts _ _ _ _) (fun r h1 hq => ?_)
  obtain ⟨rfl, rfl⟩ := hq
  refine XW.if_neB 14 9 dX4_colour_6 (by decide) rfl (fun c_6 => ?_) (fun c_6 => ?_)
  · rw [e] at c_6; cases c_6
  · refine XW.aload_n 10 dX4_colour_9 rfl rfl ?_
    refine XW.callV 13 (vs := []) (rest := []) (mcr := 0) (msr := 0) c4_68 dX4_colour_10 rfl rfl (by decide) (Nat.le_of_ble_eq_true rfl) rfl rfl (Nat.le_of_ble_eq_true rfl) rfl k_bad (fun r h1 hq => ?_)
    obtain ⟨rfl, rfl⟩ := hq
    refine XW.eqs (st' := [.int (-2)]) rfl rfl rfl ?_
    exact XW.iret dX4_colour_13 rfl (⟨rfl, rfl⟩)
set_option maxHeartbeats 400000 in
set_option maxRecDepth 100000 in
theorem u_colour_full {Z : xZ} {c l : Nat} (mi : MI (Z.2.1 54) c l) {st : Nat} (hst : Z.1 53 3 = nI st) (st5 : st ≤ 5) (x y z : Int32) (e : rgbF x y z = true) (e20 : c = 20) : XC mX4_colour 8 0 0 [.ref 53, .int x, .int y, .int z] (HP Z) (fun r h' => r = some (.int (-4)) ∧ h' = HP (rmZ Z 2)) := by
  show XW mX4_colour 8 0 0 0 [some (.ref 53), some (.int x), some (.int y), some (.int z)] [] (HP Z) _
  obtain ⟨hc, c20, hl, l8, ok, hf, hdi, hfb⟩ := id mi
  refine XW.iload_n 1 dX4_colour_0 rfl rfl ?_
  refine XW.iload_n 2 dX4_colour_1 rfl rfl ?_
  refine XW.iload_n 3 dX4_colour_2 rfl rfl ?_
  refine XW.callS 6 (vs := [.int x, .int y, .int z]) (rest := []) (mcr := 0) (msr := 0) c4_65 dX4_colour_3 rfl (by decide) (Nat.le_of_ble_eq_true rfl) rfl rfl (Nat.le_of_ble_eq_true rfl) rfl (k_areParts _ _ _ _) (fun r h1 hq => ?_)
  obtain ⟨rfl, rfl⟩ := hq
  refine XW.if_neB 14 9 dX4_colour_6 (by decide) rfl (fun c_6 => ?_) (fun c_6 => ?_)
  · refine XW.aload_n 15 dX4_colour_14 rfl rfl ?_
    refine XW.getf 18 (v := .ref 54) f4_7 dX4_colour_15 rfl rfl rfl ?_
    refine XW.iconst 19 dX4_colour_18 (v := 0) (by decide) rfl ?_
    refine XW.iald 20 0 dX4_colour_19 rfl rfl (by omega) (by decide) rfl ?_
    refine XW.bipush 22 dX4_colour_20 (v := 20) (by decide) rfl ?_
    refine XW.icmp_neN 30 25 c 20 dX4_colour_22 (by decide) rfl hc rfl (by omega) (by omega) (fun c_22 => ?_) (fun c_22 => ?_)
    · omega
    · refine XW.aload_n 26 dX4_colour_25 rfl rfl ?_
      refine XW.callV 29 (vs := []) (rest := []) (mcr := 0) (msr := 0) c4_71 dX4_colour_26 rfl rfl (by decide) (Nat.le_of_ble_eq_true rfl) rfl rfl (Nat.le_of_ble_eq_true rfl) rfl k_full (fun r h1 hq => ?_)
      obtain ⟨rfl, rfl⟩ := hq
      refine XW.eqs (st' := [.int (-4)]) rfl rfl rfl ?_
      exact XW.iret dX4_colour_29 rfl (⟨rfl, rfl⟩)
  · rw [e] at c_6; cases c_6
set_option maxHeartbeats 400000 in
set_option maxRecDepth 100000 in
theorem u_colour_ok {Z : xZ} {c l : Nat} (mi : MI (Z.2.1 54) c l) {st : Nat} (hst : Z.1 53 3 = nI st) (st5 : st ≤ 5) (x y z : Int32) (e : rgbF x y z = true) (c19 : c < 20) : XC mX4_colour 8 0 0 [.ref 53, .int x, .int y, .int z] (HP Z) (fun r h' => r = some (.int (nI c)) ∧ ∃ Y, RM st Z Y ∧ h' = HP (sA Y 54 (upd (up3 (Y.2.1 54) (1 + 3 * c) x y z) 0 (nI (c + 1))))) := by
  show XW mX4_colour 8 0 0 0 [some (.ref 53), some (.int x), some (.int y), some (.int z)] [] (HP Z) _
  obtain ⟨hc, c20, hl, l8, ok, hf, hdi, hfb⟩ := id mi
  refine XW.iload_n 1 dX4_colour_0 rfl rfl ?_
  refine XW.iload_n 2 dX4_colour_1 rfl rfl ?_
  refine XW.iload_n 3 dX4_colour_2 rfl rfl ?_
  refine XW.callS 6 (vs := [.int x, .int y, .int z]) (rest := []) (mcr := 0) (msr := 0) c4_65 dX4_colour_3 rfl (by decide) (Nat.le_of_ble_eq_true rfl) rfl rfl (Nat.le_of_ble_eq_true rfl) rfl (k_areParts _ _ _ _) (fun r h1 hq => ?_)
  obtain ⟨rfl, rfl⟩ := hq
  refine XW.if_neB 14 9 dX4_colour_6 (by decide) rfl (fun c_6 => ?_) (fun c_6 => ?_)
  · refine XW.aload_n 15 dX4_colour_14 rfl rfl ?_
    refine XW.getf 18 (v := .ref 54) f4_7 dX4_colour_15 rfl rfl rfl ?_
    refine XW.iconst 19 dX4_colour_18 (v := 0) (by decide) rfl ?_
    refine XW.iald 20 0 dX4_colour_19 rfl rfl (by omega) (by decide) rfl ?_
    refine XW.bipush 22 dX4_colour_20 (v := 20) (by decide) rfl ?_
    refine XW.icmp_neN 30 25 c 20 dX4_colour_22 (by decide) rfl hc rfl (by omega) (by omega) (fun c_22 => ?_) (fun c_22 => ?_)
    · refine XW.aload_n 31 dX4_colour_30 rfl rfl ?_
      refine XW.callV 34 (vs := []) (rest := []) (mcr := 0) (msr := 0) c4_74 dX4_colour_31 rfl rfl (by decide) (Nat.le_of_ble_eq_true rfl) rfl rfl (Nat.le_of_ble_eq_true rfl) rfl (k_remembers hst st5) (fun r h1 hq => ?_)
      obtain ⟨rfl, Y, rm, rfl⟩ := hq
      have miY : MI (Y.2.1 54) c l := by rw [rm.N]; exact mi
      obtain ⟨hcY, c20Y, hlY, l8Y, okY, hfY, hdiY, hfbY⟩ := id miY
      refine XW.aload_n 35 dX4_colour_34 rfl rfl ?_
      refine XW.iload_n 36 dX4_colour_35 rfl rfl ?_
      refine XW.iload_n 37 dX4_colour_36 rfl rfl ?_
      refine XW.iload_n 38 dX4_colour_37 rfl rfl ?_
      refine XW.callV 41 (vs := [.int x, .int y, .int z]) (rest := []) (mcr := 0) (msr := 0) c4_77 dX4_colour_38 rfl rfl (by decide) (Nat.le_of_ble_eq_true rfl) rfl rfl (Nat.le_of_ble_eq_true rfl) rfl (k_comes (Z := Y) (c := c) _ _ _ hcY (by omega)) (fun r h1 hq => ?_)
      obtain ⟨rfl, rfl⟩ := hq
      exact XW.iret dX4_colour_41 rfl (⟨rfl, Y, rm, rfl⟩)
    · omega
  · rw [e] at c_6; cases c_6
set_option maxHeartbeats 400000 in
set_option maxRecDepth 100000 in
theorem u_paints_bad {Z : xZ} {c l : Nat} (mi : MI (Z.2.1 54) c l) {st : Nat} (hst : Z.1 53 3 = nI st) (st5 : st ≤ 5) (x y z v : Int32) (e : (isC x (Z.2.1 54 0) && rgbF y z v) = false) : XC mX4_paints 8 0 0 [.ref 53, .int x, .int y, .int z, .int v] (HP Z) (fun r h' => r = some (.int (-2)) ∧ h' = HP (rmZ Z 0)) := by
  show XW mX4_paints 8 0 0 0 [some (.ref 53), some (.int x), some (.int y), some (.int z), some (.int v)] [] (HP Z) _
  obtain ⟨hc, c20, hl, l8, ok, hf, hdi, hfb⟩ := id mi
  refine XW.aload_n 1 dX4_paints_0 rfl rfl ?_
  refine XW.iload_n 2 dX4_paints_1 rfl rfl ?_
  refine XW.callV 5 (vs := [.int x]) (rest := []) (mcr := 0) (msr := 0) c4_81 dX4_paints_2 rfl rfl (by decide) (Nat.le_of_ble_eq_true rfl) rfl rfl (Nat.le_of_ble_eq_true rfl) rfl (k_isColour mi _) (fun r h1 hq => ?_)
  obtain ⟨rfl, rfl⟩ := hq
  refine XW.if_eqB 18 8 dX4_paints_5 (by decide) rfl (fun c_5 => ?_) (fun c_5 => ?_)
  · refine XW.aload_n 19 dX4_paints_18 rfl rfl ?_
    refine XW.callV 22 (vs := []) (rest := []) (mcr := 0) (msr := 0) c4_68 dX4_paints_19 rfl rfl (by decide) (Nat.le_of_ble_eq_true rfl) rfl rfl (Nat.le_of_ble_eq_true rfl) rfl k_bad (fun r h1 hq => ?_)
    obtain ⟨rfl, rfl⟩ := hq
    refine XW.eqs (st' := [.int (-2)]) rfl rfl rfl ?_
    exact XW.iret dX4_paints_22 rfl (⟨rfl, rfl⟩)
  · refine XW.iload_n 9 dX4_paints_8 rfl rfl ?_
    refine XW.iload_n 10 dX4_paints_9 rfl rfl ?_
    refine XW.iload 12 dX4_paints_10 rfl rfl ?_
    refine XW.callS 15 (vs := [.int y, .int z, .int v]) (rest := []) (mcr := 0) (msr := 0) c4_65 dX4_paints_12 rfl (by decide) (Nat.le_of_ble_eq_true rfl) rfl rfl (Nat.le_of_ble_eq_true rfl) rfl (k_areParts _ _ _ _) (fun r h1 hq => ?_)
    obtain ⟨rfl, rfl⟩ := hq
    refine XW.if_neB 23 18 dX4_paints_15 (by decide) rfl (fun c_15 => ?_) (fun c_15 => ?_)
    · exact absurd e (by rw [c_5, c_15]; decide)
    · refine XW.aload_n 19 dX4_paints_18 rfl rfl ?_
      refine XW.callV 22 (vs := []) (rest := []) (mcr := 0) (msr := 0) c4_68 dX4_paints_19 rfl rfl (by decide) (Nat.le_of_ble_eq_true rfl) rfl rfl (Nat.le_of_ble_eq_true rfl) rfl k_bad (fun r h1 hq => ?_)
      obtain ⟨rfl, rfl⟩ := hq
      refine XW.eqs (st' := [.int (-2)]) rfl rfl rfl ?_
      exact XW.iret dX4_paints_22 rfl (⟨rfl, rfl⟩)
set_option maxHeartbeats 400000 in
set_option maxRecDepth 100000 in
theorem u_paints_ok {Z : xZ} {c l : Nat} (mi : MI (Z.2.1 54) c l) {st : Nat} (hst : Z.1 53 3 = nI st) (st5 : st ≤ 5) (x y z v : Int32) {i : Nat} (hx : x = nI i) (ic : i < c) (e1 : isC x (Z.2.1 54 0) = true) (e2 : rgbF y z v = true) : XC mX4_paints 8 0 0 [.ref 53, .int x, .int y, .int z, .int v] (HP Z) (fun r h' => ∃ Y, RM st Z Y ∧ r = some (.int (otF (Y.2.1 54) (1 + 3 * i) y z v)) ∧ h' = HP (sA Y 54 (up3 (Y.2.1 54) (1 + 3 * i) y z v))) := by
  show XW mX4_paints 8 0 0 0 [some (.ref 53), some (.int x), some (.int y), some (.int z), some (.int v)] [] (HP Z) _
  obtain ⟨hc, c20, hl, l8, ok, hf, hdi, hfb⟩ := id mi
  refine XW.aload_n 1 dX4_paints_0 rfl rfl ?_
  refine XW.iload_n 2 dX4_paints_1 rfl rfl ?_
  refine XW.callV 5 (vs := [.int x]) (rest := []) (mcr := 0) (msr := 0) c4_81 dX4_paints_2 rfl rfl (by decide) (Nat.le_of_ble_eq_true rfl) rfl rfl (Nat.le_of_ble_eq_true rfl) rfl (k_isColour mi _) (fun r h1 hq => ?_)
  obtain ⟨rfl, rfl⟩ := hq
  refine XW.if_eqB 18 8 dX4_paints_5 (by decide) rfl (fun c_5 => ?_) (fun c_5 => ?_)
  · rw [e1] at c_5; cases c_5
  · refine XW.iload_n 9 dX4_paints_8 rfl rfl ?_
    refine XW.iload_n 10 dX4_paints_9 rfl rfl ?_
    refine XW.iload 12 dX4_paints_10 rfl rfl ?_
    refine XW.callS 15 (vs := [.int y, .int z, .int v]) (rest := []) (mcr := 0) (msr := 0) c4_65 dX4_paints_12 rfl (by decide) (Nat.le_of_ble_eq_true rfl) rfl rfl (Nat.le_of_ble_eq_true rfl) rfl (k_areParts _ _ _ _) (fun r h1 hq => ?_)
    obtain ⟨rfl, rfl⟩ := hq
    refine XW.if_neB 23 18 dX4_paints_15 (by decide) rfl (fun c_15 => ?_) (fun c_15 => ?_)
    · refine XW.aload_n 24 dX4_paints_23 rfl rfl ?_
      refine XW.callV 27 (vs := []) (rest := []) (mcr := 0) (msr := 0) c4_74 dX4_paints_24 rfl rfl (by decide) (Nat.le_of_ble_eq_true rfl) rfl rfl (Nat.le_of_ble_eq_true rfl) rfl (k_remembers hst st5) (fun r h1 hq => ?_)
      obtain ⟨rfl, Y, rm, rfl⟩ := hq
      have miY : MI (Y.2.1 54) c l := by rw [rm.N]; exact mi
      obtain ⟨hcY, c20Y, hlY, l8Y, okY, hfY, hdiY, hfbY⟩ := id miY
      refine XW.aload_n 28 dX4_paints_27 rfl rfl ?_
      refine XW.aload_n 29 dX4_paints_28 rfl rfl ?_
      refine XW.iload_n 30 dX4_paints_29 rfl rfl ?_
      refine XW.callV 33 (vs := [.int x]) (rest := [.ref 53]) (mcr := 0) (msr := 0) c4_57 dX4_paints_30 rfl rfl (by decide) (Nat.le_of_ble_eq_true rfl) rfl rfl (Nat.le_of_ble_eq_true rfl) rfl (k_colourAt _) (fun r h1 hq => ?_)
      obtain ⟨rfl, rfl⟩ := hq
      refine XW.iload_n 34 dX4_paints_33 rfl rfl ?_
      refine XW.iload_n 35 dX4_paints_34 rfl rfl ?_
      refine XW.iload 37 dX4_paints_35 rfl rfl ?_
      refine XW.callV 40 (vs := [.int (1 + 3 * x), .int y, .int z, .int v]) (rest := []) (mcr := 0) (msr := 0) c4_61 dX4_paints_37 rfl rfl (by decide) (Nat.le_of_ble_eq_true rfl) rfl rfl (Nat.le_of_ble_eq_true rfl) rfl (k_becomes (Z := Y) (k := 1 + 3 * i) _ _ _ (na (m := 1) rfl (nm (m := 3) rfl hx)) (by omega)) (fun r h1 hq => ?_)
      obtain ⟨rfl, rfl⟩ := hq
      exact XW.iret dX4_paints_40 rfl (⟨Y, rm, rfl, rfl⟩)
    · rw [e2] at c_15; cases c_15
set_option maxHeartbeats 400000 in
set_option maxRecDepth 100000 in
theorem u_ground_bad {Z : xZ} {c l : Nat} (mi : MI (Z.2.1 54) c l) {st : Nat} (hst : Z.1 53 3 = nI st) (st5 : st ≤ 5) (x y z : Int32) (e : rgbF x y z = false) : XC mX4_ground 8 0 0 [.ref 53, .int x, .int y, .int z] (HP Z) (fun r h' => r = some (.int (-2)) ∧ h' = HP (rmZ Z 0)) := by
  show XW mX4_ground 8 0 0 0 [some (.ref 53), some (.int x), some (.int y), some (.int z)] [] (HP Z) _
  obtain ⟨hc, c20, hl, l8, ok, hf, hdi, hfb⟩ := id mi
  refine XW.iload_n 1 dX4_ground_0 rfl rfl ?_
  refine XW.iload_n 2 dX4_ground_1 rfl rfl ?_
  refine XW.iload_n 3 dX4_ground_2 rfl rfl ?_
  refine XW.callS 6 (vs := [.int x, .int y, .int z]) (rest := []) (mcr := 0) (msr := 0) c4_65 dX4_ground_3 rfl (by decide) (Nat.le_of_ble_eq_true rfl) rfl rfl (Nat.le_of_ble_eq_true rfl) rfl (k_areParts _ _ _ _) (fun r h1 hq => ?_)
  obtain ⟨rfl, rfl⟩ := hq
  refine XW.if_neB 14 9 dX4_ground_6 (by decide) rfl (fun c_6 => ?_) (fun c_6 => ?_)
  · rw [e] at c_6; cases c_6
  · refine XW.aload_n 10 dX4_ground_9 rfl rfl ?_
    refine XW.callV 13 (vs := []) (rest := []) (mcr := 0) (msr := 0) c4_68 dX4_ground_10 rfl rfl (by decide) (Nat.le_of_ble_eq_true rfl) rfl rfl (Nat.le_of_ble_eq_true rfl) rfl k_bad (fun r h1 hq => ?_)
    obtain ⟨rfl, rfl⟩ := hq
    refine XW.eqs (st' := [.int (-2)]) rfl rfl rfl ?_
    exact XW.iret dX4_ground_13 rfl (⟨rfl, rfl⟩)
set_option maxHeartbeats 400000 in
set_option maxRecDepth 100000 in
theorem u_ground_ok {Z : xZ} {c l : Nat} (mi : MI (Z.2.1 54) c l) {st : Nat} (hst : Z.1 53 3 = nI st) (st5 : st ≤ 5) (x y z : Int32) (e : rgbF x y z = true) : XC mX4_ground 8 0 0 [.ref 53, .int x, .int y, .int z] (HP Z) (fun r h' => ∃ Y, RM st Z Y ∧ r = some (.int (otF (Y.2.1 54) 117 x y z)) ∧ h' = HP (sA Y 54 (up3 (Y.2.1 54) 117 x y z))) := by
  show XW mX4_ground 8 0 0 0 [some (.ref 53), some (.int x), some (.int y), some (.int z)] [] (HP Z) _
  obtain ⟨hc, c20, hl, l8, ok, hf, hdi, hfb⟩ := id mi
  refine XW.iload_n 1 dX4_ground_0 rfl rfl ?_
  refine XW.iload_n 2 dX4_ground_1 rfl rfl ?_
  refine XW.iload_n 3 dX4_ground_2 rfl rfl ?_
  refine XW.callS 6 (vs := [.int x, .int y, .int z]) (rest := []) (mcr := 0) (msr := 0) c4_65 dX4_ground_3 rfl (by decide) (Nat.le_of_ble_eq_true rfl) rfl rfl (Nat.le_of_ble_eq_true rfl) rfl (k_areParts _ _ _ _) (fun r h1 hq => ?_)
  obtain ⟨rfl, rfl⟩ := hq
  refine XW.if_neB 14 9 dX4_ground_6 (by decide) rfl (fun c_6 => ?_) (fun c_6 => ?_)
  · refine XW.aload_n 15 dX4_ground_14 rfl rfl ?_
    refine XW.callV 18 (vs := []) (rest := []) (mcr := 0) (msr := 0) c4_74 dX4_ground_15 rfl rfl (by decide) (Nat.le_of_ble_eq_true rfl) rfl rfl (Nat.le_of_ble_eq_true rfl) rfl (k_remembers hst st5) (fun r h1 hq => ?_)
    obtain ⟨rfl, Y, rm, rfl⟩ := hq
    have miY : MI (Y.2.1 54) c l := by rw [rm.N]; exact mi
    obtain ⟨hcY, c20Y, hlY, l8Y, okY, hfY, hdiY, hfbY⟩ := id miY
    refine XW.aload_n 19 dX4_ground_18 rfl rfl ?_
    refine XW.bipush 21 dX4_ground_19 (v := 117) (by decide) rfl ?_
    refine XW.iload_n 22 dX4_ground_21 rfl rfl ?_
    refine XW.iload_n 23 dX4_ground_22 rfl rfl ?_
    refine XW.iload_n 24 dX4_ground_23 rfl rfl ?_
    refine XW.callV 27 (vs := [.int 117, .int x, .int y, .int z]) (rest := []) (mcr := 0) (msr := 0) c4_61 dX4_ground_24 rfl rfl (by decide) (Nat.le_of_ble_eq_true rfl) rfl rfl (Nat.le_of_ble_eq_true rfl) rfl (k_becomes (Z := Y) (k := 117) _ _ _ rfl (by omega)) (fun r h1 hq => ?_)
    obtain ⟨rfl, rfl⟩ := hq
    exact XW.iret dX4_ground_27 rfl (⟨Y, rm, rfl, rfl⟩)
  · rw [e] at c_6; cases c_6
set_option maxHeartbeats 400000 in
set_option maxRecDepth 100000 in
theorem u_eye_bad {Z : xZ} {c l : Nat} (mi : MI (Z.2.1 54) c l) {st : Nat} (hst : Z.1 53 3 = nI st) (st5 : st ≤ 5) (x y z : Int32) (e : (inF x 0 3 && (inF y 0 12 && ofEyeF y z)) = false) : XC mX4_eye 8 0 0 [.ref 53, .int x, .int y, .int z] (HP Z) (fun r h' => r = some (.int (-2)) ∧ h' = HP (rmZ Z 0)) := by
  show XW mX4_eye 8 0 0 0 [some (.ref 53), some (.int x), some (.int y), some (.int z)] [] (HP Z) _
  obtain ⟨hc, c20, hl, l8, ok, hf, hdi, hfb⟩ := id mi
  refine XW.iload_n 1 dX4_eye_0 rfl rfl ?_
  refine XW.callS 4 (vs := [.int x]) (rest := []) (mcr := 0) (msr := 0) c4_84 dX4_eye_1 rfl (by decide) (Nat.le_of_ble_eq_true rfl) rfl rfl (Nat.le_of_ble_eq_true rfl) rfl (k_isEye _ _) (fun r h1 hq => ?_)
  obtain ⟨rfl, rfl⟩ := hq
  refine XW.if_eqB 25 7 dX4_eye_4 (by decide) rfl (fun c_4 => ?_) (fun c_4 => ?_)
  · refine XW.aload_n 26 dX4_eye_25 rfl rfl ?_
    refine XW.callV 29 (vs := []) (rest := []) (mcr := 0) (msr := 0) c4_68 dX4_eye_26 rfl rfl (by decide) (Nat.le_of_ble_eq_true rfl) rfl rfl (Nat.le_of_ble_eq_true rfl) rfl k_bad (fun r h1 hq => ?_)
    obtain ⟨rfl, rfl⟩ := hq
    refine XW.eqs (st' := [.int (-2)]) rfl rfl rfl ?_
    exact XW.iret dX4_eye_29 rfl (⟨rfl, rfl⟩)
  · refine XW.iload_n 8 dX4_eye_7 rfl rfl ?_
    refine XW.iconst 9 dX4_eye_8 (v := 0) (by decide) rfl ?_
    refine XW.bipush 11 dX4_eye_9 (v := 12) (by decide) rfl ?_
    refine XW.callS 14 (vs := [.int y, .int 0, .int 12]) (rest := []) (mcr := 0) (msr := 0) c4_49 dX4_eye_11 rfl (by decide) (Nat.le_of_ble_eq_true rfl) rfl rfl (Nat.le_of_ble_eq_true rfl) rfl (c_in_ _ _ _ _) (fun r h1 hq => ?_)
    obtain ⟨rfl, rfl⟩ := hq
    refine XW.if_eqB 25 17 dX4_eye_14 (by decide) rfl (fun c_14 => ?_) (fun c_14 => ?_)
    · refine XW.aload_n 26 dX4_eye_25 rfl rfl ?_
      refine XW.callV 29 (vs := []) (rest := []) (mcr := 0) (msr := 0) c4_68 dX4_eye_26 rfl rfl (by decide) (Nat.le_of_ble_eq_true rfl) rfl rfl (Nat.le_of_ble_eq_true rfl) rfl k_bad (fun r h1 hq => ?_)
      obtain ⟨rfl, rfl⟩ := hq
      refine XW.eqs (st' := [.int (-2)]) rfl rfl rfl ?_
      exact XW.iret dX4_eye_29 rfl (⟨rfl, rfl⟩)
    · refine XW.iload_n 18 dX4_eye_17 rfl rfl ?_
      refine XW.iload_n 19 dX4_eye_18 rfl rfl ?_
      refine XW.callS 22 (vs := [.int y, .int z]) (rest := []) (mcr := 0) (msr := 0) c4_87 dX4_eye_19 rfl (by decide) (Nat.le_of_ble_eq_true rfl) rfl rfl (Nat.le_of_ble_eq_true rfl) rfl (k_isOfEye _ _ _) (fun r h1 hq => ?_)
      obtain ⟨rfl, rfl⟩ := hq
      refine XW.if_neB 30 25 dX4_eye_22 (by decide) rfl (fun c_22 => ?_) (fun c_22 => ?_)
      · exact absurd e (by rw [c_4, c_14, c_22]; decide)
      · refine XW.aload_n 26 dX4_eye_25 rfl rfl ?_
        refine XW.callV 29 (vs := []) (rest := []) (mcr := 0) (msr := 0) c4_68 dX4_eye_26 rfl rfl (by decide) (Nat.le_of_ble_eq_true rfl) rfl rfl (Nat.le_of_ble_eq_true rfl) rfl k_bad (fun r h1 hq => ?_)
        obtain ⟨rfl, rfl⟩ := hq
        refine XW.eqs (st' := [.int (-2)]) rfl rfl rfl ?_
        exact XW.iret dX4_eye_29 rfl (⟨rfl, rfl⟩)
set_option maxHeartbeats 400000 in
set_option maxRecDepth 100000 in
theorem u_eye_ok {Z : xZ} {c l : Nat} (mi : MI (Z.2.1 54) c l) {st : Nat} (hst : Z.1 53 3 = nI st) (st5 : st ≤ 5) (x y z : Int32) {e k : Nat} (hx : x = nI e) (hy : y = nI k) (e4 : e < 4) (k13 : k < 13) (e1 : inF x 0 3 = true) (e2 : inF y 0 12 = true) (e3 : ofEyeF y z = true) : XC mX4_eye 8 0 0 [.ref 53, .int x, .int y, .int z] (HP Z) (fun r h' => ∃ Y, RM st Z Y ∧ r = some (.int (Y.2.1 54 (62 + (13 * e + k)))) ∧ h' = HP (sA Y 54 (upd (Y.2.1 54) (62 + (13 * e + k)) z))) := by
  show XW mX4_eye 8 0 0 0 [some (.ref 53), some (.int x), some (.int y), some (.int z)] [] (HP Z) _
  obtain ⟨hc, c20, hl, l8, ok, hf, hdi, hfb⟩ := id mi
  refine XW.iload_n 1 dX4_eye_0 rfl rfl ?_
  refine XW.callS 4 (vs := [.int x]) (rest := []) (mcr := 0) (msr := 0) c4_84 dX4_eye_1 rfl (by decide) (Nat.le_of_ble_eq_true rfl) rfl rfl (Nat.le_of_ble_eq_true rfl) rfl (k_isEye _ _) (fun r h1 hq => ?_)
  obtain ⟨rfl, rfl⟩ := hq
  refine XW.if_eqB 25 7 dX4_eye_4 (by decide) rfl (fun c_4 => ?_) (fun c_4 => ?_)
  · rw [e1] at c_4; cases c_4
  · refine XW.iload_n 8 dX4_eye_7 rfl rfl ?_
    refine XW.iconst 9 dX4_eye_8 (v := 0) (by decide) rfl ?_
    refine XW.bipush 11 dX4_eye_9 (v := 12) (by decide) rfl ?_
    refine XW.callS 14 (vs := [.int y, .int 0, .int 12]) (rest := []) (mcr := 0) (msr := 0) c4_49 dX4_eye_11 rfl (by decide) (Nat.le_of_ble_eq_true rfl) rfl rfl (Nat.le_of_ble_eq_true rfl) rfl (c_in_ _ _ _ _) (fun r h1 hq => ?_)
    obtain ⟨rfl, rfl⟩ := hq
    refine XW.if_eqB 25 17 dX4_eye_14 (by decide) rfl (fun c_14 => ?_) (fun c_14 => ?_)
    · rw [e2] at c_14; cases c_14
    · refine XW.iload_n 18 dX4_eye_17 rfl rfl ?_
      refine XW.iload_n 19 dX4_eye_18 rfl rfl ?_
      refine XW.callS 22 (vs := [.int y, .int z]) (rest := []) (mcr := 0) (msr := 0) c4_87 dX4_eye_19 rfl (by decide) (Nat.le_of_ble_eq_true rfl) rfl rfl (Nat.le_of_ble_eq_true rfl) rfl (k_isOfEye _ _ _) (fun r h1 hq => ?_)
      obtain ⟨rfl, rfl⟩ := hq
      refine XW.if_neB 30 25 dX4_eye_22 (by decide) rfl (fun c_22 => ?_) (fun c_22 => ?_)
      · refine XW.aload_n 31 dX4_eye_30 rfl rfl ?_
        refine XW.callV 34 (vs := []) (rest := []) (mcr := 0) (msr := 0) c4_74 dX4_eye_31 rfl rfl (by decide) (Nat.le_of_ble_eq_true rfl) rfl rfl (Nat.le_of_ble_eq_true rfl) rfl (k_remembers hst st5) (fun r h1 hq => ?_)
        obtain ⟨rfl, Y, rm, rfl⟩ := hq
        have miY : MI (Y.2.1 54) c l := by rw [rm.N]; exact mi
        obtain ⟨hcY, c20Y, hlY, l8Y, okY, hfY, hdiY, hfbY⟩ := id miY
        refine XW.aload_n 35 dX4_eye_34 rfl rfl ?_
        refine XW.bipush 37 dX4_eye_35 (v := 62) (by decide) rfl ?_
        refine XW.bipush 39 dX4_eye_37 (v := 13) (by decide) rfl ?_
        refine XW.iload_n 40 dX4_eye_39 rfl rfl ?_
        refine XW.imul 41 dX4_eye_40 rfl ?_
        refine XW.iadd 42 dX4_eye_41 rfl ?_
        refine XW.iload_n 43 dX4_eye_42 rfl rfl ?_
        refine XW.iadd 44 dX4_eye_43 rfl ?_
        refine XW.iload_n 45 dX4_eye_44 rfl rfl ?_
        refine XW.callV 48 (vs := [.int ((62 + (13 * x)) + y), .int z]) (rest := []) (mcr := 0) (msr := 0) c4_91 dX4_eye_45 rfl rfl (by decide) (Nat.le_of_ble_eq_true rfl) rfl rfl (Nat.le_of_ble_eq_true rfl) rfl (k_exchanges (Z := Y) (k := 62 + (13 * e + k)) _ (nj (m := (62 + (13 * e)) + k) (na (na rfl (nm rfl hx)) hy) (by omega)) (by omega)) (fun r h1 hq => ?_)
        obtain ⟨rfl, rfl⟩ := hq
        exact XW.iret dX4_eye_48 rfl (⟨Y, rm, rfl, rfl⟩)
      · rw [e3] at c_22; cases c_22
set_option maxHeartbeats 400000 in
set_option maxRecDepth 100000 in
theorem u_sets_bad {Z : xZ} {c l : Nat} (mi : MI (Z.2.1 54) c l) {st : Nat} (hst : Z.1 53 3 = nI st) (st5 : st ≤ 5) (x y : Int32) (e : (inF x 0 2 && inF y 0 255) = false) : XC mX4_sets 8 0 0 [.ref 53, .int x, .int y] (HP Z) (fun r h' => r = some (.int (-2)) ∧ h' = HP (rmZ Z 0)) := by
  show XW mX4_sets 8 0 0 0 [some (.ref 53), some (.int x), some (.int y)] [] (HP Z) _
  obtain ⟨hc, c20, hl, l8, ok, hf, hdi, hfb⟩ := id mi
  refine XW.iload_n 1 dX4_sets_0 rfl rfl ?_
  refine XW.iconst 2 dX4_sets_1 (v := 0) (by decide) rfl ?_
  refine XW.iconst 3 dX4_sets_2 (v := 2) (by decide) rfl ?_
  refine XW.callS 6 (vs := [.int x, .int 0, .int 2]) (rest := []) (mcr := 0) (msr := 0) c4_49 dX4_sets_3 rfl (by decide) (Nat.le_of_ble_eq_true rfl) rfl rfl (Nat.le_of_ble_eq_true rfl) rfl (c_in_ _ _ _ _) (fun r h1 hq => ?_)
  obtain ⟨rfl, rfl⟩ := hq
  refine XW.if_eqB 16 9 dX4_sets_6 (by decide) rfl (fun c_6 => ?_) (fun c_6 => ?_)
  · refine XW.aload_n 17 dX4_sets_16 rfl rfl ?_
    refine XW.callV 20 (vs := []) (rest := []) (mcr := 0) (msr := 0) c4_68 dX4_sets_17 rfl rfl (by decide) (Nat.le_of_ble_eq_true rfl) rfl rfl (Nat.le_of_ble_eq_true rfl) rfl k_bad (fun r h1 hq => ?_)
    obtain ⟨rfl, rfl⟩ := hq
    refine XW.eqs (st' := [.int (-2)]) rfl rfl rfl ?_
    exact XW.iret dX4_sets_20 rfl (⟨rfl, rfl⟩)
  · refine XW.iload_n 10 dX4_sets_9 rfl rfl ?_
    refine XW.callS 13 (vs := [.int y]) (rest := []) (mcr := 0) (msr := 0) c4_53 dX4_sets_10 rfl (by decide) (Nat.le_of_ble_eq_true rfl) rfl rfl (Nat.le_of_ble_eq_true rfl) rfl (k_isPart _ _) (fun r h1 hq => ?_)
    obtain ⟨rfl, rfl⟩ := hq
    refine XW.if_neB 21 16 dX4_sets_13 (by decide) rfl (fun c_13 => ?_) (fun c_13 => ?_)
    · exact absurd e (by rw [c_6, c_13]; decide)
    · refine XW.aload_n 17 dX4_sets_16 rfl rfl ?_
      refine XW.callV 20 (vs := []) (rest := []) (mcr := 0) (msr := 0) c4_68 dX4_sets_17 rfl rfl (by decide) (Nat.le_of_ble_eq_true rfl) rfl rfl (Nat.le_of_ble_eq_true rfl) rfl k_bad (fun r h1 hq => ?_)
      obtain ⟨rfl, rfl⟩ := hq
      refine XW.eqs (st' := [.int (-2)]) rfl rfl rfl ?_
      exact XW.iret dX4_sets_20 rfl (⟨rfl, rfl⟩)
set_option maxHeartbeats 400000 in
set_option maxRecDepth 100000 in
theorem u_sets_ok {Z : xZ} {c l : Nat} (mi : MI (Z.2.1 54) c l) {st : Nat} (hst : Z.1 53 3 = nI st) (st5 : st ≤ 5) (x y : Int32) {k : Nat} (hx : x = nI k) (k3 : k < 3) (e1 : inF x 0 2 = true) (e2 : inF y 0 255 = true) : XC mX4_sets 8 0 0 [.ref 53, .int x, .int y] (HP Z) (fun r h' => ∃ Y, RM st Z Y ∧ r = some (.int (Y.2.1 54 (114 + k))) ∧ h' = HP (sA Y 54 (upd (Y.2.1 54) (114 + k) y))) := by
  show XW mX4_sets 8 0 0 0 [some (.ref 53), some (.int x), some (.int y)] [] (HP Z) _
  obtain ⟨hc, c20, hl, l8, ok, hf, hdi, hfb⟩ := id mi
  refine XW.iload_n 1 dX4_sets_0 rfl rfl ?_
  refine XW.iconst 2 dX4_sets_1 (v := 0) (by decide) rfl ?_
  refine XW.iconst 3 dX4_sets_2 (v := 2) (by decide) rfl ?_
  refine XW.callS 6 (vs := [.int x, .int 0, .int 2]) (rest := []) (mcr := 0) (msr := 0) c4_49 dX4_sets_3 rfl (by decide) (Nat.le_of_ble_eq_true rfl) rfl rfl (Nat.le_of_ble_eq_true rfl) rfl (c_in_ _ _ _ _) (fun r h1 hq => ?_)
  obtain ⟨rfl, rfl⟩ := hq
  refine XW.if_eqB 16 9 dX4_sets_6 (by decide) rfl (fun c_6 => ?_) (fun c_6 => ?_)
  · rw [e1] at c_6; cases c_6
  · refine XW.iload_n 10 dX4_sets_9 rfl rfl ?_
    refine XW.callS 13 (vs := [.int y]) (rest := []) (mcr := 0) (msr := 0) c4_53 dX4_sets_10 rfl (by decide) (Nat.le_of_ble_eq_true rfl) rfl rfl (Nat.le_of_ble_eq_true rfl) rfl (k_isPart _ _) (fun r h1 hq => ?_)
    obtain ⟨rfl, rfl⟩ := hq
    refine XW.if_neB 21 16 dX4_sets_13 (by decide) rfl (fun c_13 => ?_) (fun c_13 => ?_)
    · refine XW.aload_n 22 dX4_sets_21 rfl rfl ?_
      refine XW.callV 25 (vs := []) (rest := []) (mcr := 0) (msr := 0) c4_74 dX4_sets_22 rfl rfl (by decide) (Nat.le_of_ble_eq_true rfl) rfl rfl (Nat.le_of_ble_eq_true rfl) rfl (k_remembers hst st5) (fun r h1 hq => ?_)
      obtain ⟨rfl, Y, rm, rfl⟩ := hq
      have miY : MI (Y.2.1 54) c l := by rw [rm.N]; exact mi
      obtain ⟨hcY, c20Y, hlY, l8Y, okY, hfY, hdiY, hfbY⟩ := id miY
      refine XW.aload_n 26 dX4_sets_25 rfl rfl ?_
      refine XW.bipush 28 dX4_sets_26 (v := 114) (by decide) rfl ?_
      refine XW.iload_n 29 dX4_sets_28 rfl rfl ?_
      refine XW.iadd 30 dX4_sets_29 rfl ?_
      refine XW.iload_n 31 dX4_sets_30 rfl rfl ?_
      refine XW.callV 34 (vs := [.int (114 + x), .int y]) (rest := []) (mcr := 0) (msr := 0) c4_91 dX4_sets_31 rfl rfl (by decide) (Nat.le_of_ble_eq_true rfl) rfl rfl (Nat.le_of_ble_eq_true rfl) rfl (k_exchanges (Z := Y) (k := 114 + k) _ (nj (m := 114 + k) (na rfl hx) (by omega)) (by omega)) (fun r h1 hq => ?_)
      obtain ⟨rfl, rfl⟩ := hq
      exact XW.iret dX4_sets_34 rfl (⟨Y, rm, rfl, rfl⟩)
    · rw [e2] at c_13; cases c_13
set_option maxHeartbeats 400000 in
set_option maxRecDepth 100000 in
theorem u_fixes_bad {Z : xZ} {c l : Nat} (mi : MI (Z.2.1 54) c l) {st : Nat} (hst : Z.1 53 3 = nI st) (st5 : st ≤ 5) (x y : Int32) (e : (isC x (Z.2.1 54 0) && inF y 0 1) = false) : XC mX4_fixes 8 0 0 [.ref 53, .int x, .int y] (HP Z) (fun r h' => r = some (.int (-2)) ∧ h' = HP (rmZ Z 0)) := by
  show XW mX4_fixes 8 0 0 0 [some (.ref 53), some (.int x), some (.int y)] [] (HP Z) _
  obtain ⟨hc, c20, hl, l8, ok, hf, hdi, hfb⟩ := id mi
  refine XW.aload_n 1 dX4_fixes_0 rfl rfl ?_
  refine XW.iload_n 2 dX4_fixes_1 rfl rfl ?_
  refine XW.callV 5 (vs := [.int x]) (rest := []) (mcr := 0) (msr := 0) c4_81 dX4_fixes_2 rfl rfl (by decide) (Nat.le_of_ble_eq_true rfl) rfl rfl (Nat.le_of_ble_eq_true rfl) rfl (k_isColour mi _) (fun r h1 hq => ?_)
  obtain ⟨rfl, rfl⟩ := hq
  refine XW.if_eqB 17 8 dX4_fixes_5 (by decide) rfl (fun c_5 => ?_) (fun c_5 => ?_)
  · refine XW.aload_n 18 dX4_fixes_17 rfl rfl ?_
    refine XW.callV 21 (vs := []) (rest := []) (mcr := 0) (msr := 0) c4_68 dX4_fixes_18 rfl rfl (by decide) (Nat.le_of_ble_eq_true rfl) rfl rfl (Nat.le_of_ble_eq_true rfl) rfl k_bad (fun r h1 hq => ?_)
    obtain ⟨rfl, rfl⟩ := hq
    refine XW.eqs (st' := [.int (-2)]) rfl rfl rfl ?_
    exact XW.iret dX4_fixes_21 rfl (⟨rfl, rfl⟩)
  · refine XW.iload_n 9 dX4_fixes_8 rfl rfl ?_
    refine XW.iconst 10 dX4_fixes_9 (v := 0) (by decide) rfl ?_
    refine XW.iconst 11 dX4_fixes_10 (v := 1) (by decide) rfl ?_
    refine XW.callS 14 (vs := [.int y, .int 0, .int 1]) (rest := []) (mcr := 0) (msr := 0) c4_49 dX4_fixes_11 rfl (by decide) (Nat.le_of_ble_eq_true rfl) rfl rfl (Nat.le_of_ble_eq_true rfl) rfl (c_in_ _ _ _ _) (fun r h1 hq => ?_)
    obtain ⟨rfl, rfl⟩ := hq
    refine XW.if_neB 22 17 dX4_fixes_14 (by decide) rfl (fun c_14 => ?_) (fun c_14 => ?_)
    · exact absurd e (by rw [c_5, c_14]; decide)
    · refine XW.aload_n 18 dX4_fixes_17 rfl rfl ?_
      refine XW.callV 21 (vs := []) (rest := []) (mcr := 0) (msr := 0) c4_68 dX4_fixes_18 rfl rfl (by decide) (Nat.le_of_ble_eq_true rfl) rfl rfl (Nat.le_of_ble_eq_true rfl) rfl k_bad (fun r h1 hq => ?_)
      obtain ⟨rfl, rfl⟩ := hq
      refine XW.eqs (st' := [.int (-2)]) rfl rfl rfl ?_
      exact XW.iret dX4_fixes_21 rfl (⟨rfl, rfl⟩)
set_option maxHeartbeats 400000 in
set_option maxRecDepth 100000 in
theorem u_fixes_ok {Z : xZ} {c l : Nat} (mi : MI (Z.2.1 54) c l) {st : Nat} (hst : Z.1 53 3 = nI st) (st5 : st ≤ 5) (x y : Int32) (e1 : isC x (Z.2.1 54 0) = true) (e2 : inF y 0 1 = true) : XC mX4_fixes 8 0 0 [.ref 53, .int x, .int y] (HP Z) (fun r h' => ∃ Y, RM st Z Y ∧ r = some (.int (biF ((Y.2.1 54 61 &&& ((1 <<< (x &&& 31)) ^^^ (-1))) ||| (y <<< (x &&& 31))) 20)) ∧ h' = HP (sA Y 54 (upd (Y.2.1 54) 61 ((Y.2.1 54 61 &&& ((1 <<< (x &&& 31)) ^^^ (-1))) ||| (y <<< (x &&& 31)))))) := by
  show XW mX4_fixes 8 0 0 0 [some (.ref 53), some (.int x), some (.int y)] [] (HP Z) _
  obtain ⟨hc, c20, hl, l8, ok, hf, hdi, hfb⟩ := id mi
  refine XW.aload_n 1 dX4_fixes_0 rfl rfl ?_
  refine XW.iload_n 2 dX4_fixes_1 rfl rfl ?_
  refine XW.callV 5 (vs := [.int x]) (rest := []) (mcr := 0) (msr := 0) c4_81 dX4_fixes_2 rfl rfl (by decide) (Nat.le_of_ble_eq_true rfl) rfl rfl (Nat.le_of_ble_eq_true rfl) rfl (k_isColour mi _) (fun r h1 hq => ?_)
  obtain ⟨rfl, rfl⟩ := hq
  refine XW.if_eqB 17 8 dX4_fixes_5 (by decide) rfl (fun c_5 => ?_) (fun c_5 => ?_)
  · rw [e1] at c_5; cases c_5
  · refine XW.iload_n 9 dX4_fixes_8 rfl rfl ?_
    refine XW.iconst 10 dX4_fixes_9 (v := 0) (by decide) rfl ?_
    refine XW.iconst 11 dX4_fixes_10 (v := 1) (by decide) rfl ?_
    refine XW.callS 14 (vs := [.int y, .int 0, .int 1]) (rest := []) (mcr := 0) (msr := 0) c4_49 dX4_fixes_11 rfl (by decide) (Nat.le_of_ble_eq_true rfl) rfl rfl (Nat.le_of_ble_eq_true rfl) rfl (c_in_ _ _ _ _) (fun r h1 hq => ?_)
    obtain ⟨rfl, rfl⟩ := hq
    refine XW.if_neB 22 17 dX4_fixes_14 (by decide) rfl (fun c_14 => ?_) (fun c_14 => ?_)
    · refine XW.aload_n 23 dX4_fixes_22 rfl rfl ?_
      refine XW.callV 26 (vs := []) (rest := []) (mcr := 0) (msr := 0) c4_74 dX4_fixes_23 rfl rfl (by decide) (Nat.le_of_ble_eq_true rfl) rfl rfl (Nat.le_of_ble_eq_true rfl) rfl (k_remembers hst st5) (fun r h1 hq => ?_)
      obtain ⟨rfl, Y, rm, rfl⟩ := hq
      have miY : MI (Y.2.1 54) c l := by rw [rm.N]; exact mi
      obtain ⟨hcY, c20Y, hlY, l8Y, okY, hfY, hdiY, hfbY⟩ := id miY
      refine XW.aload_n 27 dX4_fixes_26 rfl rfl ?_
      refine XW.iload_n 28 dX4_fixes_27 rfl rfl ?_
      refine XW.iload_n 29 dX4_fixes_28 rfl rfl ?_
      refine XW.callV 32 (vs := [.int x, .int y]) (rest := []) (mcr := 0) (msr := 0) c4_98 dX4_fixes_29 rfl rfl (by decide) (Nat.le_of_ble_eq_true rfl) rfl rfl (Nat.le_of_ble_eq_true rfl) rfl (k_fixesOne (Z := Y) _ _) (fun r h1 hq => ?_)
      obtain ⟨rfl, rfl⟩ := hq
      exact XW.iret dX4_fixes_32 rfl (⟨Y, rm, rfl, rfl⟩)
    · rw [e2] at c_14; cases c_14
set_option maxHeartbeats 400000 in
set_option maxRecDepth 100000 in
theorem u_fills_bad {Z : xZ} {c l : Nat} (mi : MI (Z.2.1 54) c l) {st : Nat} (hst : Z.1 53 3 = nI st) (st5 : st ≤ 5) (x : Int32) (e : inF x 1 8 = false) : XC mX4_fills 8 0 0 [.ref 53, .int x] (HP Z) (fun r h' => r = some (.int (-2)) ∧ h' = HP (rmZ Z 0)) := by
  show XW mX4_fills 8 0 0 0 [some (.ref 53), some (.int x)] [] (HP Z) _
  obtain ⟨hc, c20, hl, l8, ok, hf, hdi, hfb⟩ := id mi
  refine XW.iload_n 1 dX4_fills_0 rfl rfl ?_
  refine XW.iconst 2 dX4_fills_1 (v := 1) (by decide) rfl ?_
  refine XW.bipush 4 dX4_fills_2 (v := 8) (by decide) rfl ?_
  refine XW.callS 7 (vs := [.int x, .int 1, .int 8]) (rest := []) (mcr := 0) (msr := 0) c4_49 dX4_fills_4 rfl (by decide) (Nat.le_of_ble_eq_true rfl) rfl rfl (Nat.le_of_ble_eq_true rfl) rfl (c_in_ _ _ _ _) (fun r h1 hq => ?_)
  obtain ⟨rfl, rfl⟩ := hq
  refine XW.if_neB 15 10 dX4_fills_7 (by decide) rfl (fun c_7 => ?_) (fun c_7 => ?_)
  · rw [e] at c_7; cases c_7
  · refine XW.aload_n 11 dX4_fills_10 rfl rfl ?_
    refine XW.callV 14 (vs := []) (rest := []) (mcr := 0) (msr := 0) c4_68 dX4_fills_11 rfl rfl (by decide) (Nat.le_of_ble_eq_true rfl) rfl rfl (Nat.le_of_ble_eq_true rfl) rfl k_bad (fun r h1 hq => ?_)
    obtain ⟨rfl, rfl⟩ := hq
    refine XW.eqs (st' := [.int (-2)]) rfl rfl rfl ?_
    exact XW.iret dX4_fills_14 rfl (⟨rfl, rfl⟩)
set_option maxHeartbeats 400000 in
set_option maxRecDepth 100000 in
theorem u_fills_no {Z : xZ} {c l : Nat} (mi : MI (Z.2.1 54) c l) {st : Nat} (hst : Z.1 53 3 = nI st) (st5 : st ≤ 5) (x : Int32) (e : inF x 1 8 = true) (e2 : decide (biF (Z.2.1 54 61) 20 ≤ x) = false) : XC mX4_fills 8 0 0 [.ref 53, .int x] (HP Z) (fun r h' => r = some (.int (-3)) ∧ h' = HP (rmZ Z 1)) := by
  show XW mX4_fills 8 0 0 0 [some (.ref 53), some (.int x)] [] (HP Z) _
  obtain ⟨hc, c20, hl, l8, ok, hf, hdi, hfb⟩ := id mi
  refine XW.iload_n 1 dX4_fills_0 rfl rfl ?_
  refine XW.iconst 2 dX4_fills_1 (v := 1) (by decide) rfl ?_
  refine XW.bipush 4 dX4_fills_2 (v := 8) (by decide) rfl ?_
  refine XW.callS 7 (vs := [.int x, .int 1, .int 8]) (rest := []) (mcr := 0) (msr := 0) c4_49 dX4_fills_4 rfl (by decide) (Nat.le_of_ble_eq_true rfl) rfl rfl (Nat.le_of_ble_eq_true rfl) rfl (c_in_ _ _ _ _) (fun r h1 hq => ?_)
  obtain ⟨rfl, rfl⟩ := hq
  refine XW.if_neB 15 10 dX4_fills_7 (by decide) rfl (fun c_7 => ?_) (fun c_7 => ?_)
  · refine XW.aload_n 16 dX4_fills_15 rfl rfl ?_
    refine XW.iload_n 17 dX4_fills_16 rfl rfl ?_
    refine XW.callV 20 (vs := [.int x]) (rest := []) (mcr := 0) (msr := 0) c4_155 dX4_fills_17 rfl rfl (by decide) (Nat.le_of_ble_eq_true rfl) rfl rfl (Nat.le_of_ble_eq_true rfl) rfl (k_canFill mi _) (fun r h1 hq => ?_)
    obtain ⟨rfl, rfl⟩ := hq
    refine XW.if_neB 28 23 dX4_fills_20 (by decide) rfl (fun c_20 => ?_) (fun c_20 => ?_)
    · rw [e2] at c_20; cases c_20
    · refine XW.aload_n 24 dX4_fills_23 rfl rfl ?_
      refine XW.callV 27 (vs := []) (rest := []) (mcr := 0) (msr := 0) c4_45 dX4_fills_24 rfl rfl (by decide) (Nat.le_of_ble_eq_true rfl) rfl rfl (Nat.le_of_ble_eq_true rfl) rfl k_no (fun r h1 hq => ?_)
      obtain ⟨rfl, rfl⟩ := hq
      refine XW.eqs (st' := [.int (-3)]) rfl rfl rfl ?_
      exact XW.iret dX4_fills_27 rfl (⟨rfl, rfl⟩)
  · rw [e] at c_7; cases c_7
set_option maxHeartbeats 400000 in
set_option maxRecDepth 100000 in
theorem u_fills_ok {Z : xZ} {c l : Nat} (mi : MI (Z.2.1 54) c l) {st : Nat} (hst : Z.1 53 3 = nI st) (st5 : st ≤ 5) (x : Int32) {n : Nat} (hx : x = nI n) (n8 : n ≤ 8) (n1 : 1 ≤ n) (hfx : (fxR (Z.2.1 54 61) (mP (Z.2.1 54)) c).2 ≤ 8) (e : inF x 1 8 = true) (e2 : decide (biF (Z.2.1 54 61) 20 ≤ x) = true) : XC mX4_fills 8 0 0 [.ref 53, .int x] (HP Z) (fun r h' => ∃ Y G, RM st Z Y ∧ r = some (.int (nI (fillF (apG (nE (Y.2.1 54)) (nR (Y.2.1 54))) (nR (Y.2.1 54)) (fbF (nR (Y.2.1 54)) (nG (Y.2.1 54)) (nL (Y.2.1 54)) c) (Y.2.1 54 61) (mP (Y.2.1 54)) c n).2)) ∧ h' = HP (sA (sF (sI Y 53 8 (fbF (nR (Y.2.1 54)) (nG (Y.2.1 54)) (nL (Y.2.1 54)) c)) 59 G) 54 (rwN (Y.2.1 54) ((fillF (apG (nE (Y.2.1 54)) (nR (Y.2.1 54))) (nR (Y.2.1 54)) (fbF (nR (Y.2.1 54)) (nG (Y.2.1 54)) (nL (Y.2.1 54)) c) (Y.2.1 54 61) (mP (Y.2.1 54)) c n).1) ((fillF (apG (nE (Y.2.1 54)) (nR (Y.2.1 54))) (nR (Y.2.1 54)) (fbF (nR (Y.2.1 54)) (nG (Y.2.1 54)) (nL (Y.2.1 54)) c) (Y.2.1 54 61) (mP (Y.2.1 54)) c n).2)))) := by
  show XW mX4_fills 8 0 0 0 [some (.ref 53), some (.int x)] [] (HP Z) _
  obtain ⟨hc, c20, hl, l8, ok, hf, hdi, hfb⟩ := id mi
  refine XW.iload_n 1 dX4_fills_0 rfl rfl ?_
  refine XW.iconst 2 dX4_fills_1 (v := 1) (by decide) rfl ?_
  refine XW.bipush 4 dX4_fills_2 (v := 8) (by decide) rfl ?_
  refine XW.callS 7 (vs := [.int x, .int 1, .int 8]) (rest := []) (mcr := 0) (msr := 0) c4_49 dX4_fills_4 rfl (by decide) (Nat.le_of_ble_eq_true rfl) rfl rfl (Nat.le_of_ble_eq_true rfl) rfl (c_in_ _ _ _ _) (fun r h1 hq => ?_)
  obtain ⟨rfl, rfl⟩ := hq
  refine XW.if_neB 15 10 dX4_fills_7 (by decide) rfl (fun c_7 => ?_) (fun c_7 => ?_)
  · refine XW.aload_n 16 dX4_fills_15 rfl rfl ?_
    refine XW.iload_n 17 dX4_fills_16 rfl rfl ?_
    refine XW.callV 20 (vs := [.int x]) (rest := []) (mcr := 0) (msr := 0) c4_155 dX4_fills_17 rfl rfl (by decide) (Nat.le_of_ble_eq_true rfl) rfl rfl (Nat.le_of_ble_eq_true rfl) rfl (k_canFill mi _) (fun r h1 hq => ?_)
    obtain ⟨rfl, rfl⟩ := hq
    refine XW.if_neB 28 23 dX4_fills_20 (by decide) rfl (fun c_20 => ?_) (fun c_20 => ?_)
    · refine XW.aload_n 29 dX4_fills_28 rfl rfl ?_
      refine XW.callV 32 (vs := []) (rest := []) (mcr := 0) (msr := 0) c4_74 dX4_fills_29 rfl rfl (by decide) (Nat.le_of_ble_eq_true rfl) rfl rfl (Nat.le_of_ble_eq_true rfl) rfl (k_remembers hst st5) (fun r h1 hq => ?_)
      obtain ⟨rfl, Y, rm, rfl⟩ := hq
      have miY : MI (Y.2.1 54) c l := by rw [rm.N]; exact mi
      obtain ⟨hcY, c20Y, hlY, l8Y, okY, hfY, hdiY, hfbY⟩ := id miY
      refine XW.aload_n 33 dX4_fills_32 rfl rfl ?_
      refine XW.iload_n 34 dX4_fills_33 rfl rfl ?_
      refine XW.callV 37 (vs := [.int x]) (rest := []) (mcr := 0) (msr := 0) c4_158 dX4_fills_34 rfl rfl (by decide) (Nat.le_of_ble_eq_true rfl) rfl rfl (Nat.le_of_ble_eq_true rfl) rfl (k_fillsFor (Z := Y) miY hx n8 n1 (by rw [rm.N]; exact hfx)) (fun r h1 hq => ?_)
      obtain ⟨rfl, G, rfl⟩ := hq
      exact XW.iret dX4_fills_37 rfl (⟨Y, G, rm, rfl, rfl⟩)
    · rw [e2] at c_20; cases c_20
  · rw [e] at c_7; cases c_7
set_option maxHeartbeats 400000 in
set_option maxRecDepth 100000 in
theorem u_swaps {Z : xZ} {c l : Nat} (mi : MI (Z.2.1 54) c l) {st : Nat} (hst : Z.1 53 3 = nI st) (st5 : st ≤ 5)  : XC mX4_swaps 8 0 0 [.ref 53] (HP Z) (fun r h' => ∃ Y G S, RM st Z Y ∧ r = some (.int (nI (saF (apG (nE (Y.2.1 54)) (nR (Y.2.1 54))) (fbF (nR (Y.2.1 54)) (nG (Y.2.1 54)) (nL (Y.2.1 54)) c) (Y.2.1 54 61) l c 60 0 (mP (Y.2.1 54))).1)) ∧ h' = HP (sA (sA (sF (sI Y 53 8 (fbF (nR (Y.2.1 54)) (nG (Y.2.1 54)) (nL (Y.2.1 54)) c)) 59 G) 60 S) 54 (rwN (Y.2.1 54) ((saF (apG (nE (Y.2.1 54)) (nR (Y.2.1 54))) (fbF (nR (Y.2.1 54)) (nG (Y.2.1 54)) (nL (Y.2.1 54)) c) (Y.2.1 54 61) l c 60 0 (mP (Y.2.1 54))).2) l))) := by
  show XW mX4_swaps 8 0 0 0 [some (.ref 53)] [] (HP Z) _
  obtain ⟨hc, c20, hl, l8, ok, hf, hdi, hfb⟩ := id mi
  refine XW.aload_n 1 dX4_swaps_0 rfl rfl ?_
  refine XW.callV 4 (vs := []) (rest := []) (mcr := 0) (msr := 0) c4_74 dX4_swaps_1 rfl rfl (by decide) (Nat.le_of_ble_eq_true rfl) rfl rfl (Nat.le_of_ble_eq_true rfl) rfl (k_remembers hst st5) (fun r h1 hq => ?_)
  obtain ⟨rfl, Y, rm, rfl⟩ := hq
  have miY : MI (Y.2.1 54) c l := by rw [rm.N]; exact mi
  obtain ⟨hcY, c20Y, hlY, l8Y, okY, hfY, hdiY, hfbY⟩ := id miY
  refine XW.aload_n 5 dX4_swaps_4 rfl rfl ?_
  refine XW.callV 8 (vs := []) (rest := []) (mcr := 0) (msr := 0) c4_171 dX4_swaps_5 rfl rfl (by decide) (Nat.le_of_ble_eq_true rfl) rfl rfl (Nat.le_of_ble_eq_true rfl) rfl (k_swapsAll (Z := Y) miY) (fun r h1 hq => ?_)
  obtain ⟨rfl, G, S, rfl⟩ := hq
  exact XW.iret dX4_swaps_8 rfl (⟨Y, G, S, rm, rfl, rfl⟩)
set_option maxHeartbeats 400000 in
set_option maxRecDepth 100000 in
theorem u_type_bad {Z : xZ} {len : Nat} (hb : Z.1 53 6 = nI len) (l120 : len ≤ 120) (x : Int32) (e : inF x 0 127 = false) : XC mX4_type 8 0 0 [.ref 53, .int x] (HP Z) (fun r h' => r = some (.int (-2)) ∧ h' = HP (rmZ Z 0)) := by
  show XW mX4_type 8 0 0 0 [some (.ref 53), some (.int x)] [] (HP Z) _
  refine XW.iload_n 1 dX4_type_0 rfl rfl ?_
  refine XW.iconst 2 dX4_type_1 (v := 0) (by decide) rfl ?_
  refine XW.bipush 4 dX4_type_2 (v := 127) (by decide) rfl ?_
  refine XW.callS 7 (vs := [.int x, .int 0, .int 127]) (rest := []) (mcr := 0) (msr := 0) c4_49 dX4_type_4 rfl (by decide) (Nat.le_of_ble_eq_true rfl) rfl rfl (Nat.le_of_ble_eq_true rfl) rfl (c_in_ _ _ _ _) (fun r h1 hq => ?_)
  obtain ⟨rfl, rfl⟩ := hq
  refine XW.if_neB 15 10 dX4_type_7 (by decide) rfl (fun c_7 => ?_) (fun c_7 => ?_)
  · rw [e] at c_7; cases c_7
  · refine XW.aload_n 11 dX4_type_10 rfl rfl ?_
    refine XW.callV 14 (vs := []) (rest := []) (mcr := 0) (msr := 0) c4_68 dX4_type_11 rfl rfl (by decide) (Nat.le_of_ble_eq_true rfl) rfl rfl (Nat.le_of_ble_eq_true rfl) rfl k_bad (fun r h1 hq => ?_)
    obtain ⟨rfl, rfl⟩ := hq
    refine XW.eqs (st' := [.int (-2)]) rfl rfl rfl ?_
    exact XW.iret dX4_type_14 rfl (⟨rfl, rfl⟩)
set_option maxHeartbeats 400000 in
set_option maxRecDepth 100000 in
theorem u_type_full {Z : xZ} {len : Nat} (hb : Z.1 53 6 = nI len) (l120 : len ≤ 120) (x : Int32) (e : inF x 0 127 = true) (l12 : len = 120) : XC mX4_type 8 0 0 [.ref 53, .int x] (HP Z) (fun r h' => r = some (.int (-4)) ∧ h' = HP (rmZ Z 2)) := by
  show XW mX4_type 8 0 0 0 [some (.ref 53), some (.int x)] [] (HP Z) _
  refine XW.iload_n 1 dX4_type_0 rfl rfl ?_
  refine XW.iconst 2 dX4_type_1 (v := 0) (by decide) rfl ?_
  refine XW.bipush 4 dX4_type_2 (v := 127) (by decide) rfl ?_
  refine XW.callS 7 (vs := [.int x, .int 0, .int 127]) (rest := []) (mcr := 0) (msr := 0) c4_49 dX4_type_4 rfl (by decide) (Nat.le_of_ble_eq_true rfl) rfl rfl (Nat.le_of_ble_eq_true rfl) rfl (c_in_ _ _ _ _) (fun r h1 hq => ?_)
  obtain ⟨rfl, rfl⟩ := hq
  refine XW.if_neB 15 10 dX4_type_7 (by decide) rfl (fun c_7 => ?_) (fun c_7 => ?_)
  · refine XW.aload_n 16 dX4_type_15 rfl rfl ?_
    refine XW.getf 19 (v := .int (Z.1 53 6)) f4_198 dX4_type_16 rfl rfl rfl ?_
    refine XW.bipush 21 dX4_type_19 (v := 120) (by decide) rfl ?_
    refine XW.icmp_neN 29 24 len 120 dX4_type_21 (by decide) rfl hb rfl (by omega) (by omega) (fun c_21 => ?_) (fun c_21 => ?_)
    · omega
    · refine XW.aload_n 25 dX4_type_24 rfl rfl ?_
      refine XW.callV 28 (vs := []) (rest := []) (mcr := 0) (msr := 0) c4_71 dX4_type_25 rfl rfl (by decide) (Nat.le_of_ble_eq_true rfl) rfl rfl (Nat.le_of_ble_eq_true rfl) rfl k_full (fun r h1 hq => ?_)
      obtain ⟨rfl, rfl⟩ := hq
      refine XW.eqs (st' := [.int (-4)]) rfl rfl rfl ?_
      exact XW.iret dX4_type_28 rfl (⟨rfl, rfl⟩)
  · rw [e] at c_7; cases c_7
set_option maxHeartbeats 400000 in
set_option maxRecDepth 100000 in
theorem u_type_ok {Z : xZ} {len : Nat} (hb : Z.1 53 6 = nI len) (l120 : len ≤ 120) (x : Int32) (e : inF x 0 127 = true) (l12 : len < 120) : XC mX4_type 8 0 0 [.ref 53, .int x] (HP Z) (fun r h' => r = some (.int (nI (len + 1))) ∧ h' = HP (sI (sA Z 58 (upd (Z.2.1 58) len x)) 53 6 (nI (len + 1)))) := by
  show XW mX4_type 8 0 0 0 [some (.ref 53), some (.int x)] [] (HP Z) _
  refine XW.iload_n 1 dX4_type_0 rfl rfl ?_
  refine XW.iconst 2 dX4_type_1 (v := 0) (by decide) rfl ?_
  refine XW.bipush 4 dX4_type_2 (v := 127) (by decide) rfl ?_
  refine XW.callS 7 (vs := [.int x, .int 0, .int 127]) (rest := []) (mcr := 0) (msr := 0) c4_49 dX4_type_4 rfl (by decide) (Nat.le_of_ble_eq_true rfl) rfl rfl (Nat.le_of_ble_eq_true rfl) rfl (c_in_ _ _ _ _) (fun r h1 hq => ?_)
  obtain ⟨rfl, rfl⟩ := hq
  refine XW.if_neB 15 10 dX4_type_7 (by decide) rfl (fun c_7 => ?_) (fun c_7 => ?_)
  · refine XW.aload_n 16 dX4_type_15 rfl rfl ?_
    refine XW.getf 19 (v := .int (Z.1 53 6)) f4_198 dX4_type_16 rfl rfl rfl ?_
    refine XW.bipush 21 dX4_type_19 (v := 120) (by decide) rfl ?_
    refine XW.icmp_neN 29 24 len 120 dX4_type_21 (by decide) rfl hb rfl (by omega) (by omega) (fun c_21 => ?_) (fun c_21 => ?_)
    · refine XW.aload_n 30 dX4_type_29 rfl rfl ?_
      refine XW.getf 33 (v := .ref 58) f4_22 dX4_type_30 rfl rfl rfl ?_
      refine XW.aload_n 34 dX4_type_33 rfl rfl ?_
      refine XW.getf 37 (v := .int (Z.1 53 6)) f4_198 dX4_type_34 rfl rfl rfl ?_
      refine XW.iload_n 38 dX4_type_37 rfl rfl ?_
      refine XW.iast 39 (h' := HP (sA Z 58 (upd (Z.2.1 58) len x))) len dX4_type_38 rfl hb (by omega) (by decide) rfl rfl ?_
      refine XW.aload_n 40 dX4_type_39 rfl rfl ?_
      refine XW.dup 41 dX4_type_40 rfl rfl ?_
      refine XW.getf 44 (v := .int (Z.1 53 6)) f4_198 dX4_type_41 rfl rfl rfl ?_
      refine XW.iconst 45 dX4_type_44 (v := 1) (by decide) rfl ?_
      refine XW.iadd 46 dX4_type_45 rfl ?_
      refine XW.putf 49 (h' := HP (sI (sA Z 58 (upd (Z.2.1 58) len x)) 53 6 ((Z.1 53 6) + 1))) (p4_198 _) dX4_type_46 rfl (Nat.le_of_ble_eq_true rfl) (xfit_i _) rfl rfl ?_
      refine XW.aload_n 50 dX4_type_49 rfl rfl ?_
      refine XW.getf 53 (v := .int ((Z.1 53 6) + 1)) f4_198 dX4_type_50 rfl rfl rfl ?_
      exact XW.iret dX4_type_53 rfl (⟨pE (na (n := 1) hb rfl), by rw [show Z.1 53 6 + 1 = nI (len + 1) from na (n := 1) hb rfl]⟩)
    · omega
  · rw [e] at c_7; cases c_7
set_option maxHeartbeats 400000 in
set_option maxRecDepth 100000 in
theorem u_clear {Z : xZ} {len : Nat} (hb : Z.1 53 6 = nI len) (l120 : len ≤ 120) : XC mX4_clear 8 0 0 [.ref 53] (HP Z) (fun r h' => r = some (.int (nI len)) ∧ h' = HP (sI Z 53 6 0)) := by
  show XW mX4_clear 8 0 0 0 [some (.ref 53), none] [] (HP Z) _
  refine XW.aload_n 1 dX4_clear_0 rfl rfl ?_
  refine XW.getf 4 (v := .int (Z.1 53 6)) f4_198 dX4_clear_1 rfl rfl rfl ?_
  refine XW.istore_n 5 (L' := [some (.ref 53), some (.int (Z.1 53 6))]) dX4_clear_4 (by decide) rfl rfl rfl ?_
  refine XW.aload_n 6 dX4_clear_5 rfl rfl ?_
  refine XW.iconst 7 dX4_clear_6 (v := 0) (by decide) rfl ?_
  refine XW.putf 10 (h' := HP (sI Z 53 6 0)) (p4_198 _) dX4_clear_7 rfl (Nat.le_of_ble_eq_true rfl) (xfit_i _) rfl rfl ?_
  refine XW.iload_n 11 dX4_clear_10 rfl rfl ?_
  exact XW.iret dX4_clear_11 rfl (⟨pE hb, rfl⟩)
