/-! The class: its calls -/
def CI (Z : xZ) (c l st len : Nat) (kp : Nat → Nat) : Prop := Z.1 1 0 = nI c ∧ c ≤ 20 ∧ Z.1 1 7 = nI l ∧ l ≤ 8 ∧ okS (Z.2.1 2) (Z.2.1 3) (Z.2.1 4) (Z.2.1 5) ∧ rowOK (Z.2.1 6) l c ∧ rowDI (Z.2.1 6) l ∧ (∀ j, j < 32 → bt (Z.1 1 5) j = true → j < c) ∧ Z.1 0 2 = nI st ∧ st ≤ 5 ∧ keptIs Z kp ∧ Z.1 45 1 = nI len ∧ len ≤ 120
theorem CI.lv {Z Y : xZ} {c l st len : Nat} {kp : Nat → Nat} (ci : CI Z c l st len kp) (lv : LV st Z Y) : ∃ kp', CI Y c l (if st < 5 then st + 1 else 5) len kp' := by
  obtain ⟨hc, c20, hl, l8, ok, hf, hdi, hfb, hst, st5, hk, hlen, l120⟩ := ci
  obtain ⟨kp', h1, -⟩ := lv.2.2.2.2.2 kp hk
  have e2 := lv.2.1 2 (by omega)
  have e3 := lv.2.1 3 (by omega)
  have e4 := lv.2.1 4 (by omega)
  have e5 := lv.2.1 5 (by omega)
  have e6 := lv.2.1 6 (by omega)
  refine ⟨kp', by rw [lv.1 1 0 (by omega)]; exact hc, c20, by rw [lv.1 1 7 (by omega)]; exact hl, l8, by rw [e2, e3, e4, e5]; exact ok, by rw [e6]; exact hf, by rw [e6]; exact hdi, by rw [lv.1 1 5 (by omega)]; exact hfb, lv.2.2.2.2.1, by split <;> omega, h1, by rw [lv.1 45 1 (by omega)]; exact hlen, l120⟩
theorem wcF_b {x y z col : Int32} (e : rgbF x y z = false) : wcF x y z col = -2 := by unfold wcF; rw [if_neg (by rw [e]; decide)]
theorem wcF_f {x y z col : Int32} (e : rgbF x y z = true) (h : ¬ col < 20) : wcF x y z col = -4 := by unfold wcF; rw [if_pos e, if_neg h]
theorem wcF_o {x y z col : Int32} (e : rgbF x y z = true) (h : col < 20) : wcF x y z col = 0 := by unfold wcF; rw [if_pos e, if_pos h]
theorem nI_lt20 {c : Nat} (h : c < 20) : nI c < 20 := by rw [show (20 : Int32) = nI 20 from rfl, nI_ltI (by omega) (by omega)]; exact h
theorem nI_nlt20 : ¬ nI 20 < 20 := by decide
set_option maxHeartbeats 400000 in
set_option maxRecDepth 100000 in
theorem t_colour_bad {Z : xZ} {c l st len : Nat} {kp : Nat → Nat} (ci : CI Z c l st len kp) (x y z : Int32) (e : rgbF x y z = false) : XC mX3_colour 8 0 0 [.ref 0, .int x, .int y, .int z] (HP Z) (fun r h' => r = some (.int (-2)) ∧ h' = HP (rfZ Z 0)) := by
  show XW mX3_colour 8 0 0 0 [some (.ref 0), some (.int x), some (.int y), some (.int z), none] [] (HP Z) _
  obtain ⟨hc, c20, hl, l8, ok, hf, hdi, hfb, hst, st5, hk, hlen, l120⟩ := id ci
  refine XW.aload_n 1 dX3_colour_0 rfl rfl ?_
  refine XW.iload_n 2 dX3_colour_1 rfl rfl ?_
  refine XW.iload_n 3 dX3_colour_2 rfl rfl ?_
  refine XW.iload_n 4 dX3_colour_3 rfl rfl ?_
  refine XW.callV 7 (vs := [.int x, .int y, .int z]) (rest := []) (mcr := 0) (msr := 0) c3_42 dX3_colour_4 rfl rfl (by decide) (Nat.le_of_ble_eq_true rfl) rfl rfl (Nat.le_of_ble_eq_true rfl) rfl (c_whyNoColour _ _ _) (fun r h1 hq => ?_)
  obtain ⟨rfl, rfl⟩ := hq
  refine XW.eqs (st' := [.int (-2)]) rfl (by rw [wcF_b e]; rfl) rfl ?_
  refine XW.istore 9 (L' := [some (.ref 0), some (.int x), some (.int y), some (.int z), some (.int (-2))]) dX3_colour_7 (by decide) rfl rfl rfl ?_
  refine XW.iload 11 dX3_colour_9 rfl rfl ?_
  refine XW.if_eq 21 14 dX3_colour_11 (by decide) rfl (fun c_11 => ?_) (fun c_11 => ?_)
  · exact absurd c_11 (by decide)
  · refine XW.aload_n 15 dX3_colour_14 rfl rfl ?_
    refine XW.iload 17 dX3_colour_15 rfl rfl ?_
    refine XW.callV 20 (vs := [.int (-2)]) (rest := []) (mcr := 0) (msr := 0) c3_46 dX3_colour_17 rfl rfl (by decide) (Nat.le_of_ble_eq_true rfl) rfl rfl (Nat.le_of_ble_eq_true rfl) rfl c_refuse0 (fun r h1 hq => ?_)
    obtain ⟨rfl, rfl⟩ := hq
    refine XW.eqs (h' := HP (rfZ Z 0)) rfl rfl rfl ?_
    refine XW.eqs (st' := [.int (-2)]) rfl rfl rfl ?_
    exact XW.iret dX3_colour_20 rfl (⟨rfl, rfl⟩)
set_option maxHeartbeats 400000 in
set_option maxRecDepth 100000 in
theorem t_colour_full {Z : xZ} {c l st len : Nat} {kp : Nat → Nat} (ci : CI Z c l st len kp) (x y z : Int32) (e : rgbF x y z = true) (e20 : c = 20) : XC mX3_colour 8 0 0 [.ref 0, .int x, .int y, .int z] (HP Z) (fun r h' => r = some (.int (-4)) ∧ h' = HP (rfZ Z 2)) := by
  show XW mX3_colour 8 0 0 0 [some (.ref 0), some (.int x), some (.int y), some (.int z), none] [] (HP Z) _
  obtain ⟨hc, c20, hl, l8, ok, hf, hdi, hfb, hst, st5, hk, hlen, l120⟩ := id ci
  refine XW.aload_n 1 dX3_colour_0 rfl rfl ?_
  refine XW.iload_n 2 dX3_colour_1 rfl rfl ?_
  refine XW.iload_n 3 dX3_colour_2 rfl rfl ?_
  refine XW.iload_n 4 dX3_colour_3 rfl rfl ?_
  refine XW.callV 7 (vs := [.int x, .int y, .int z]) (rest := []) (mcr := 0) (msr := 0) c3_42 dX3_colour_4 rfl rfl (by decide) (Nat.le_of_ble_eq_true rfl) rfl rfl (Nat.le_of_ble_eq_true rfl) rfl (c_whyNoColour _ _ _) (fun r h1 hq => ?_)
  obtain ⟨rfl, rfl⟩ := hq
  refine XW.eqs (st' := [.int (-4)]) rfl (by rw [wcF_f e (by rw [hc, e20]; exact nI_nlt20)]; rfl) rfl ?_
  refine XW.istore 9 (L' := [some (.ref 0), some (.int x), some (.int y), some (.int z), some (.int (-4))]) dX3_colour_7 (by decide) rfl rfl rfl ?_
  refine XW.iload 11 dX3_colour_9 rfl rfl ?_
  refine XW.if_eq 21 14 dX3_colour_11 (by decide) rfl (fun c_11 => ?_) (fun c_11 => ?_)
  · exact absurd c_11 (by decide)
  · refine XW.aload_n 15 dX3_colour_14 rfl rfl ?_
    refine XW.iload 17 dX3_colour_15 rfl rfl ?_
    refine XW.callV 20 (vs := [.int (-4)]) (rest := []) (mcr := 0) (msr := 0) c3_46 dX3_colour_17 rfl rfl (by decide) (Nat.le_of_ble_eq_true rfl) rfl rfl (Nat.le_of_ble_eq_true rfl) rfl c_refuse2 (fun r h1 hq => ?_)
    obtain ⟨rfl, rfl⟩ := hq
    refine XW.eqs (h' := HP (rfZ Z 2)) rfl rfl rfl ?_
    refine XW.eqs (st' := [.int (-4)]) rfl rfl rfl ?_
    exact XW.iret dX3_colour_20 rfl (⟨rfl, rfl⟩)
set_option maxHeartbeats 400000 in
set_option maxRecDepth 100000 in
theorem t_colour_ok {Z : xZ} {c l st len : Nat} {kp : Nat → Nat} (ci : CI Z c l st len kp) (x y z : Int32) (e : rgbF x y z = true) (c19 : c < 20) : XC mX3_colour 8 0 0 [.ref 0, .int x, .int y, .int z] (HP Z) (fun r h' => r = some (.int (nI c)) ∧ ∃ Y, LV st Z Y ∧ h' = HP (sI (sA Y 2 (up3 (Y.2.1 2) (3 * c) x y z)) 1 0 (nI (c + 1)))) := by
  show XW mX3_colour 8 0 0 0 [some (.ref 0), some (.int x), some (.int y), some (.int z), none] [] (HP Z) _
  obtain ⟨hc, c20, hl, l8, ok, hf, hdi, hfb, hst, st5, hk, hlen, l120⟩ := id ci
  refine XW.aload_n 1 dX3_colour_0 rfl rfl ?_
  refine XW.iload_n 2 dX3_colour_1 rfl rfl ?_
  refine XW.iload_n 3 dX3_colour_2 rfl rfl ?_
  refine XW.iload_n 4 dX3_colour_3 rfl rfl ?_
  refine XW.callV 7 (vs := [.int x, .int y, .int z]) (rest := []) (mcr := 0) (msr := 0) c3_42 dX3_colour_4 rfl rfl (by decide) (Nat.le_of_ble_eq_true rfl) rfl rfl (Nat.le_of_ble_eq_true rfl) rfl (c_whyNoColour _ _ _) (fun r h1 hq => ?_)
  obtain ⟨rfl, rfl⟩ := hq
  refine XW.eqs (st' := [.int 0]) rfl (by rw [wcF_o e (by rw [hc]; exact nI_lt20 c19)]; rfl) rfl ?_
  refine XW.istore 9 (L' := [some (.ref 0), some (.int x), some (.int y), some (.int z), some (.int 0)]) dX3_colour_7 (by decide) rfl rfl rfl ?_
  refine XW.iload 11 dX3_colour_9 rfl rfl ?_
  refine XW.if_eq 21 14 dX3_colour_11 (by decide) rfl (fun c_11 => ?_) (fun c_11 => ?_)
  · refine XW.aload_n 22 dX3_colour_21 rfl rfl ?_
    refine XW.callV 25 (vs := []) (rest := []) (mcr := 0) (msr := 0) c3_50 dX3_colour_22 rfl rfl (by decide) (Nat.le_of_ble_eq_true rfl) rfl rfl (Nat.le_of_ble_eq_true rfl) rfl (c_leave hst st5 hk) (fun r h1 hq => ?_)
    obtain ⟨rfl, Y, lv, rfl⟩ := hq
    obtain ⟨kq, hcY, c20Y, hlY, l8Y, okY, hfY, hdiY, hfbY, hstY, st5Y, hkY, hlenY, l120Y⟩ := ci.lv lv
    refine XW.aload_n 26 dX3_colour_25 rfl rfl ?_
    refine XW.getf 29 (v := .ref 1) f3_10 dX3_colour_26 rfl rfl rfl ?_
    refine XW.iload_n 30 dX3_colour_29 rfl rfl ?_
    refine XW.iload_n 31 dX3_colour_30 rfl rfl ?_
    refine XW.iload_n 32 dX3_colour_31 rfl rfl ?_
    refine XW.callV 35 (vs := [.int x, .int y, .int z]) (rest := []) (mcr := 0) (msr := 0) c3_53 dX3_colour_32 rfl rfl (by decide) (Nat.le_of_ble_eq_true rfl) rfl rfl (Nat.le_of_ble_eq_true rfl) rfl (c_addColour x y z hcY (by omega)) (fun r h1 hq => ?_)
    obtain ⟨rfl, rfl⟩ := hq
    refine XW.eqs (st' := [.int (Y.1 1 0)]) rfl rfl rfl ?_
    exact XW.iret dX3_colour_35 rfl (⟨pE hcY, Y, lv, by rw [show Y.1 1 0 + 1 = nI (c + 1) from na hcY rfl]⟩)
  · exact absurd rfl c_11
set_option maxHeartbeats 400000 in
set_option maxRecDepth 100000 in
theorem t_paints_bad {Z : xZ} {c l st len : Nat} {kp : Nat → Nat} (ci : CI Z c l st len kp) (x y z v : Int32) (e : (isC x (Z.1 1 0) && rgbF y z v) = false) : XC mX3_paints 8 0 0 [.ref 0, .int x, .int y, .int z, .int v] (HP Z) (fun r h' => r = some (.int (-2)) ∧ h' = HP (rfZ Z 0)) := by
  show XW mX3_paints 8 0 0 0 [some (.ref 0), some (.int x), some (.int y), some (.int z), some (.int v)] [] (HP Z) _
  obtain ⟨hc, c20, hl, l8, ok, hf, hdi, hfb, hst, st5, hk, hlen, l120⟩ := id ci
  refine XW.aload_n 1 dX3_paints_0 rfl rfl ?_
  refine XW.iload_n 2 dX3_paints_1 rfl rfl ?_
  refine XW.callV 5 (vs := [.int x]) (rest := []) (mcr := 0) (msr := 0) c3_56 dX3_paints_2 rfl rfl (by decide) (Nat.le_of_ble_eq_true rfl) rfl rfl (Nat.le_of_ble_eq_true rfl) rfl (c_isColour _) (fun r h1 hq => ?_)
  obtain ⟨rfl, rfl⟩ := hq
  refine XW.if_eqB 18 8 dX3_paints_5 (by decide) rfl (fun c_5 => ?_) (fun c_5 => ?_)
  · refine XW.aload_n 19 dX3_paints_18 rfl rfl ?_
    refine XW.bipush 21 dX3_paints_19 (v := -2) (by decide) rfl ?_
    refine XW.callV 24 (vs := [.int (-2)]) (rest := []) (mcr := 0) (msr := 0) c3_46 dX3_paints_21 rfl rfl (by decide) (Nat.le_of_ble_eq_true rfl) rfl rfl (Nat.le_of_ble_eq_true rfl) rfl c_refuse0 (fun r h1 hq => ?_)
    obtain ⟨rfl, rfl⟩ := hq
    refine XW.eqs (h' := HP (rfZ Z 0)) rfl rfl rfl ?_
    refine XW.eqs (st' := [.int (-2)]) rfl rfl rfl ?_
    exact XW.iret dX3_paints_24 rfl (⟨rfl, rfl⟩)
  · refine XW.iload_n 9 dX3_paints_8 rfl rfl ?_
    refine XW.iload_n 10 dX3_paints_9 rfl rfl ?_
    refine XW.iload 12 dX3_paints_10 rfl rfl ?_
    refine XW.callS 15 (vs := [.int y, .int z, .int v]) (rest := []) (mcr := 0) (msr := 0) c3_60 dX3_paints_12 rfl (by decide) (Nat.le_of_ble_eq_true rfl) rfl rfl (Nat.le_of_ble_eq_true rfl) rfl (c_isRgb _ _ _ _) (fun r h1 hq => ?_)
    obtain ⟨rfl, rfl⟩ := hq
    refine XW.if_neB 25 18 dX3_paints_15 (by decide) rfl (fun c_15 => ?_) (fun c_15 => ?_)
    · exact absurd e (by rw [c_5, c_15]; decide)
    · refine XW.aload_n 19 dX3_paints_18 rfl rfl ?_
      refine XW.bipush 21 dX3_paints_19 (v := -2) (by decide) rfl ?_
      refine XW.callV 24 (vs := [.int (-2)]) (rest := []) (mcr := 0) (msr := 0) c3_46 dX3_paints_21 rfl rfl (by decide) (Nat.le_of_ble_eq_true rfl) rfl rfl (Nat.le_of_ble_eq_true rfl) rfl c_refuse0 (fun r h1 hq => ?_)
      obtain ⟨rfl, rfl⟩ := hq
      refine XW.eqs (h' := HP (rfZ Z 0)) rfl rfl rfl ?_
      refine XW.eqs (st' := [.int (-2)]) rfl rfl rfl ?_
      exact XW.iret dX3_paints_24 rfl (⟨rfl, rfl⟩)
set_option maxHeartbeats 400000 in
set_option maxRecDepth 100000 in
theorem t_paints_ok {Z : xZ} {c l st len : Nat} {kp : Nat → Nat} (ci : CI Z c l st len kp) (x y z v : Int32) {i : Nat} (hx : x = nI i) (ic : i < c) (e1 : isC x (Z.1 1 0) = true) (e2 : rgbF y z v = true) : XC mX3_paints 8 0 0 [.ref 0, .int x, .int y, .int z, .int v] (HP Z) (fun r h' => ∃ Y, LV st Z Y ∧ r = some (.int (otF (Y.2.1 2) (3 * i) y z v)) ∧ h' = HP (sA Y 2 (up3 (Y.2.1 2) (3 * i) y z v))) := by
  show XW mX3_paints 8 0 0 0 [some (.ref 0), some (.int x), some (.int y), some (.int z), some (.int v)] [] (HP Z) _
  obtain ⟨hc, c20, hl, l8, ok, hf, hdi, hfb, hst, st5, hk, hlen, l120⟩ := id ci
  refine XW.aload_n 1 dX3_paints_0 rfl rfl ?_
  refine XW.iload_n 2 dX3_paints_1 rfl rfl ?_
  refine XW.callV 5 (vs := [.int x]) (rest := []) (mcr := 0) (msr := 0) c3_56 dX3_paints_2 rfl rfl (by decide) (Nat.le_of_ble_eq_true rfl) rfl rfl (Nat.le_of_ble_eq_true rfl) rfl (c_isColour _) (fun r h1 hq => ?_)
  obtain ⟨rfl, rfl⟩ := hq
  refine XW.if_eqB 18 8 dX3_paints_5 (by decide) rfl (fun c_5 => ?_) (fun c_5 => ?_)
  · rw [e1] at c_5; cases c_5
  · refine XW.iload_n 9 dX3_paints_8 rfl rfl ?_
    refine XW.iload_n 10 dX3_paints_9 rfl rfl ?_
    refine XW.iload 12 dX3_paints_10 rfl rfl ?_
    refine XW.callS 15 (vs := [.int y, .int z, .int v]) (rest := []) (mcr := 0) (msr := 0) c3_60 dX3_paints_12 rfl (by decide) (Nat.le_of_ble_eq_true rfl) rfl rfl (Nat.le_of_ble_eq_true rfl) rfl (c_isRgb _ _ _ _) (fun r h1 hq => ?_)
    obtain ⟨rfl, rfl⟩ := hq
    refine XW.if_neB 25 18 dX3_paints_15 (by decide) rfl (fun c_15 => ?_) (fun c_15 => ?_)
    · refine XW.aload_n 26 dX3_paints_25 rfl rfl ?_
      refine XW.callV 29 (vs := []) (rest := []) (mcr := 0) (msr := 0) c3_50 dX3_paints_26 rfl rfl (by decide) (Nat.le_of_ble_eq_true rfl) rfl rfl (Nat.le_of_ble_eq_true rfl) rfl (c_leave hst st5 hk) (fun r h1 hq => ?_)
      obtain ⟨rfl, Y, lv, rfl⟩ := hq
      obtain ⟨kq, hcY, c20Y, hlY, l8Y, okY, hfY, hdiY, hfbY, hstY, st5Y, hkY, hlenY, l120Y⟩ := ci.lv lv
      refine XW.aload_n 30 dX3_paints_29 rfl rfl ?_
      refine XW.getf 33 (v := .ref 1) f3_10 dX3_paints_30 rfl rfl rfl ?_
      refine XW.getf 36 (v := .ref 2) f3_64 dX3_paints_33 rfl rfl rfl ?_
      refine XW.iconst 37 dX3_paints_36 (v := 3) (by decide) rfl ?_
      refine XW.iload_n 38 dX3_paints_37 rfl rfl ?_
      refine XW.imul 39 dX3_paints_38 rfl ?_
      refine XW.iload_n 40 dX3_paints_39 rfl rfl ?_
      refine XW.iload_n 41 dX3_paints_40 rfl rfl ?_
      refine XW.iload 43 dX3_paints_41 rfl rfl ?_
      refine XW.callS 46 (vs := [.ref 2, .int (3 * x), .int y, .int z, .int v]) (rest := []) (mcr := 0) (msr := 0) c3_67 dX3_paints_43 rfl (by decide) (Nat.le_of_ble_eq_true rfl) rfl rfl (Nat.le_of_ble_eq_true rfl) rfl (c_putRgb2 (k := 3 * i) _ _ _ (nm rfl hx) (by omega)) (fun r h1 hq => ?_)
      obtain ⟨rfl, rfl⟩ := hq
      refine XW.eqs (st' := [.int (otF (Y.2.1 2) (3 * i) y z v)]) rfl rfl rfl ?_
      exact XW.iret dX3_paints_46 rfl (⟨Y, lv, rfl, rfl⟩)
    · rw [e2] at c_15; cases c_15
set_option maxHeartbeats 400000 in
set_option maxRecDepth 100000 in
theorem t_ground_bad {Z : xZ} {c l st len : Nat} {kp : Nat → Nat} (ci : CI Z c l st len kp) (x y z : Int32) (e : rgbF x y z = false) : XC mX3_ground 8 0 0 [.ref 0, .int x, .int y, .int z] (HP Z) (fun r h' => r = some (.int (-2)) ∧ h' = HP (rfZ Z 0)) := by
  show XW mX3_ground 8 0 0 0 [some (.ref 0), some (.int x), some (.int y), some (.int z)] [] (HP Z) _
  obtain ⟨hc, c20, hl, l8, ok, hf, hdi, hfb, hst, st5, hk, hlen, l120⟩ := id ci
  refine XW.iload_n 1 dX3_ground_0 rfl rfl ?_
  refine XW.iload_n 2 dX3_ground_1 rfl rfl ?_
  refine XW.iload_n 3 dX3_ground_2 rfl rfl ?_
  refine XW.callS 6 (vs := [.int x, .int y, .int z]) (rest := []) (mcr := 0) (msr := 0) c3_60 dX3_ground_3 rfl (by decide) (Nat.le_of_ble_eq_true rfl) rfl rfl (Nat.le_of_ble_eq_true rfl) rfl (c_isRgb _ _ _ _) (fun r h1 hq => ?_)
  obtain ⟨rfl, rfl⟩ := hq
  refine XW.if_neB 16 9 dX3_ground_6 (by decide) rfl (fun c_6 => ?_) (fun c_6 => ?_)
  · rw [e] at c_6; cases c_6
  · refine XW.aload_n 10 dX3_ground_9 rfl rfl ?_
    refine XW.bipush 12 dX3_ground_10 (v := -2) (by decide) rfl ?_
    refine XW.callV 15 (vs := [.int (-2)]) (rest := []) (mcr := 0) (msr := 0) c3_46 dX3_ground_12 rfl rfl (by decide) (Nat.le_of_ble_eq_true rfl) rfl rfl (Nat.le_of_ble_eq_true rfl) rfl c_refuse0 (fun r h1 hq => ?_)
    obtain ⟨rfl, rfl⟩ := hq
    refine XW.eqs (h' := HP (rfZ Z 0)) rfl rfl rfl ?_
    refine XW.eqs (st' := [.int (-2)]) rfl rfl rfl ?_
    exact XW.iret dX3_ground_15 rfl (⟨rfl, rfl⟩)
set_option maxHeartbeats 400000 in
set_option maxRecDepth 100000 in
theorem t_ground_ok {Z : xZ} {c l st len : Nat} {kp : Nat → Nat} (ci : CI Z c l st len kp) (x y z : Int32) (e : rgbF x y z = true) : XC mX3_ground 8 0 0 [.ref 0, .int x, .int y, .int z] (HP Z) (fun r h' => ∃ Y, LV st Z Y ∧ r = some (.int (otF (Y.2.1 3) 0 x y z)) ∧ h' = HP (sA Y 3 (up3 (Y.2.1 3) 0 x y z))) := by
  show XW mX3_ground 8 0 0 0 [some (.ref 0), some (.int x), some (.int y), some (.int z)] [] (HP Z) _
  obtain ⟨hc, c20, hl, l8, ok, hf, hdi, hfb, hst, st5, hk, hlen, l120⟩ := id ci
  refine XW.iload_n 1 dX3_ground_0 rfl rfl ?_
  refine XW.iload_n 2 dX3_ground_1 rfl rfl ?_
  refine XW.iload_n 3 dX3_ground_2 rfl rfl ?_
  refine XW.callS 6 (vs := [.int x, .int y, .int z]) (rest := []) (mcr := 0) (msr := 0) c3_60 dX3_ground_3 rfl (by decide) (Nat.le_of_ble_eq_true rfl) rfl rfl (Nat.le_of_ble_eq_true rfl) rfl (c_isRgb _ _ _ _) (fun r h1 hq => ?_)
  obtain ⟨rfl, rfl⟩ := hq
  refine XW.if_neB 16 9 dX3_ground_6 (by decide) rfl (fun c_6 => ?_) (fun c_6 => ?_)
  · refine XW.aload_n 17 dX3_ground_16 rfl rfl ?_
    refine XW.callV 20 (vs := []) (rest := []) (mcr := 0) (msr := 0) c3_50 dX3_ground_17 rfl rfl (by decide) (Nat.le_of_ble_eq_true rfl) rfl rfl (Nat.le_of_ble_eq_true rfl) rfl (c_leave hst st5 hk) (fun r h1 hq => ?_)
    obtain ⟨rfl, Y, lv, rfl⟩ := hq
    obtain ⟨kq, hcY, c20Y, hlY, l8Y, okY, hfY, hdiY, hfbY, hstY, st5Y, hkY, hlenY, l120Y⟩ := ci.lv lv
    refine XW.aload_n 21 dX3_ground_20 rfl rfl ?_
    refine XW.getf 24 (v := .ref 1) f3_10 dX3_ground_21 rfl rfl rfl ?_
    refine XW.getf 27 (v := .ref 3) f3_71 dX3_ground_24 rfl rfl rfl ?_
    refine XW.iconst 28 dX3_ground_27 (v := 0) (by decide) rfl ?_
    refine XW.iload_n 29 dX3_ground_28 rfl rfl ?_
    refine XW.iload_n 30 dX3_ground_29 rfl rfl ?_
    refine XW.iload_n 31 dX3_ground_30 rfl rfl ?_
    refine XW.callS 34 (vs := [.ref 3, .int 0, .int x, .int y, .int z]) (rest := []) (mcr := 0) (msr := 0) c3_67 dX3_ground_31 rfl (by decide) (Nat.le_of_ble_eq_true rfl) rfl rfl (Nat.le_of_ble_eq_true rfl) rfl (c_putRgb3 (k := 0) _ _ _ rfl (by omega)) (fun r h1 hq => ?_)
    obtain ⟨rfl, rfl⟩ := hq
    refine XW.eqs (st' := [.int (otF (Y.2.1 3) 0 x y z)]) rfl rfl rfl ?_
    exact XW.iret dX3_ground_34 rfl (⟨Y, lv, rfl, rfl⟩)
  · rw [e] at c_6; cases c_6
set_option maxHeartbeats 400000 in
set_option maxRecDepth 100000 in
theorem t_eye_bad {Z : xZ} {c l st len : Nat} {kp : Nat → Nat} (ci : CI Z c l st len kp) (x y z : Int32) (e : (inF x 0 3 && eyeNumF y z) = false) : XC mX3_eye 8 0 0 [.ref 0, .int x, .int y, .int z] (HP Z) (fun r h' => r = some (.int (-2)) ∧ h' = HP (rfZ Z 0)) := by
  show XW mX3_eye 8 0 0 0 [some (.ref 0), some (.int x), some (.int y), some (.int z), none, none] [] (HP Z) _
  obtain ⟨hc, c20, hl, l8, ok, hf, hdi, hfb, hst, st5, hk, hlen, l120⟩ := id ci
  refine XW.iload_n 1 dX3_eye_0 rfl rfl ?_
  refine XW.callS 4 (vs := [.int x]) (rest := []) (mcr := 0) (msr := 0) c3_74 dX3_eye_1 rfl (by decide) (Nat.le_of_ble_eq_true rfl) rfl rfl (Nat.le_of_ble_eq_true rfl) rfl (c_isEye _ _) (fun r h1 hq => ?_)
  obtain ⟨rfl, rfl⟩ := hq
  refine XW.if_eqB 15 7 dX3_eye_4 (by decide) rfl (fun c_4 => ?_) (fun c_4 => ?_)
  · refine XW.aload_n 16 dX3_eye_15 rfl rfl ?_
    refine XW.bipush 18 dX3_eye_16 (v := -2) (by decide) rfl ?_
    refine XW.callV 21 (vs := [.int (-2)]) (rest := []) (mcr := 0) (msr := 0) c3_46 dX3_eye_18 rfl rfl (by decide) (Nat.le_of_ble_eq_true rfl) rfl rfl (Nat.le_of_ble_eq_true rfl) rfl c_refuse0 (fun r h1 hq => ?_)
    obtain ⟨rfl, rfl⟩ := hq
    refine XW.eqs (h' := HP (rfZ Z 0)) rfl rfl rfl ?_
    refine XW.eqs (st' := [.int (-2)]) rfl rfl rfl ?_
    exact XW.iret dX3_eye_21 rfl (⟨rfl, rfl⟩)
  · refine XW.iload_n 8 dX3_eye_7 rfl rfl ?_
    refine XW.iload_n 9 dX3_eye_8 rfl rfl ?_
    refine XW.callS 12 (vs := [.int y, .int z]) (rest := []) (mcr := 0) (msr := 0) c3_77 dX3_eye_9 rfl (by decide) (Nat.le_of_ble_eq_true rfl) rfl rfl (Nat.le_of_ble_eq_true rfl) rfl (c_isEyeNumber _ _ _) (fun r h1 hq => ?_)
    obtain ⟨rfl, rfl⟩ := hq
    refine XW.if_neB 22 15 dX3_eye_12 (by decide) rfl (fun c_12 => ?_) (fun c_12 => ?_)
    · exact absurd e (by rw [c_4, c_12]; decide)
    · refine XW.aload_n 16 dX3_eye_15 rfl rfl ?_
      refine XW.bipush 18 dX3_eye_16 (v := -2) (by decide) rfl ?_
      refine XW.callV 21 (vs := [.int (-2)]) (rest := []) (mcr := 0) (msr := 0) c3_46 dX3_eye_18 rfl rfl (by decide) (Nat.le_of_ble_eq_true rfl) rfl rfl (Nat.le_of_ble_eq_true rfl) rfl c_refuse0 (fun r h1 hq => ?_)
      obtain ⟨rfl, rfl⟩ := hq
      refine XW.eqs (h' := HP (rfZ Z 0)) rfl rfl rfl ?_
      refine XW.eqs (st' := [.int (-2)]) rfl rfl rfl ?_
      exact XW.iret dX3_eye_21 rfl (⟨rfl, rfl⟩)
set_option maxHeartbeats 400000 in
set_option maxRecDepth 100000 in
theorem t_eye_ok {Z : xZ} {c l st len : Nat} {kp : Nat → Nat} (ci : CI Z c l st len kp) (x y z : Int32) {e k : Nat} (hx : x = nI e) (hy : y = nI k) (e4 : e < 4) (k13 : k < 13) (e1 : inF x 0 3 = true) (e2 : eyeNumF y z = true) : XC mX3_eye 8 0 0 [.ref 0, .int x, .int y, .int z] (HP Z) (fun r h' => ∃ Y, LV st Z Y ∧ r = some (.int (Y.2.1 4 (13 * e + k))) ∧ h' = HP (sA Y 4 (upd (Y.2.1 4) (13 * e + k) z))) := by
  show XW mX3_eye 8 0 0 0 [some (.ref 0), some (.int x), some (.int y), some (.int z), none, none] [] (HP Z) _
  obtain ⟨hc, c20, hl, l8, ok, hf, hdi, hfb, hst, st5, hk, hlen, l120⟩ := id ci
  refine XW.iload_n 1 dX3_eye_0 rfl rfl ?_
  refine XW.callS 4 (vs := [.int x]) (rest := []) (mcr := 0) (msr := 0) c3_74 dX3_eye_1 rfl (by decide) (Nat.le_of_ble_eq_true rfl) rfl rfl (Nat.le_of_ble_eq_true rfl) rfl (c_isEye _ _) (fun r h1 hq => ?_)
  obtain ⟨rfl, rfl⟩ := hq
  refine XW.if_eqB 15 7 dX3_eye_4 (by decide) rfl (fun c_4 => ?_) (fun c_4 => ?_)
  · rw [e1] at c_4; cases c_4
  · refine XW.iload_n 8 dX3_eye_7 rfl rfl ?_
    refine XW.iload_n 9 dX3_eye_8 rfl rfl ?_
    refine XW.callS 12 (vs := [.int y, .int z]) (rest := []) (mcr := 0) (msr := 0) c3_77 dX3_eye_9 rfl (by decide) (Nat.le_of_ble_eq_true rfl) rfl rfl (Nat.le_of_ble_eq_true rfl) rfl (c_isEyeNumber _ _ _) (fun r h1 hq => ?_)
    obtain ⟨rfl, rfl⟩ := hq
    refine XW.if_neB 22 15 dX3_eye_12 (by decide) rfl (fun c_12 => ?_) (fun c_12 => ?_)
    · refine XW.aload_n 23 dX3_eye_22 rfl rfl ?_
      refine XW.callV 26 (vs := []) (rest := []) (mcr := 0) (msr := 0) c3_50 dX3_eye_23 rfl rfl (by decide) (Nat.le_of_ble_eq_true rfl) rfl rfl (Nat.le_of_ble_eq_true rfl) rfl (c_leave hst st5 hk) (fun r h1 hq => ?_)
      obtain ⟨rfl, Y, lv, rfl⟩ := hq
      obtain ⟨kq, hcY, c20Y, hlY, l8Y, okY, hfY, hdiY, hfbY, hstY, st5Y, hkY, hlenY, l120Y⟩ := ci.lv lv
      refine XW.bipush 28 dX3_eye_26 (v := 13) (by decide) rfl ?_
      refine XW.iload_n 29 dX3_eye_28 rfl rfl ?_
      refine XW.imul 30 dX3_eye_29 rfl ?_
      refine XW.iload_n 31 dX3_eye_30 rfl rfl ?_
      refine XW.iadd 32 dX3_eye_31 rfl ?_
      refine XW.istore 34 (L' := [some (.ref 0), some (.int x), some (.int y), some (.int z), some (.int ((13 * x) + y)), none]) dX3_eye_32 (by decide) rfl rfl rfl ?_
      refine XW.aload_n 35 dX3_eye_34 rfl rfl ?_
      refine XW.getf 38 (v := .ref 1) f3_10 dX3_eye_35 rfl rfl rfl ?_
      refine XW.getf 41 (v := .ref 4) f3_81 dX3_eye_38 rfl rfl rfl ?_
      refine XW.iload 43 dX3_eye_41 rfl rfl ?_
      refine XW.iald 44 ((13 * e) + k) dX3_eye_43 rfl (na (nm rfl hx) hy) (by omega) (by decide) rfl ?_
      refine XW.istore 46 (L' := [some (.ref 0), some (.int x), some (.int y), some (.int z), some (.int ((13 * x) + y)), some (.int (Y.2.1 4 ((13 * e) + k)))]) dX3_eye_44 (by decide) rfl rfl rfl ?_
      refine XW.aload_n 47 dX3_eye_46 rfl rfl ?_
      refine XW.getf 50 (v := .ref 1) f3_10 dX3_eye_47 rfl rfl rfl ?_
      refine XW.getf 53 (v := .ref 4) f3_81 dX3_eye_50 rfl rfl rfl ?_
      refine XW.iload 55 dX3_eye_53 rfl rfl ?_
      refine XW.iload_n 56 dX3_eye_55 rfl rfl ?_
      refine XW.iast 57 (h' := HP (sA Y 4 (upd (Y.2.1 4) ((13 * e) + k) z))) ((13 * e) + k) dX3_eye_56 rfl (na (nm rfl hx) hy) (by omega) (by decide) rfl rfl ?_
      refine XW.iload 59 dX3_eye_57 rfl rfl ?_
      exact XW.iret dX3_eye_59 rfl (⟨Y, lv, rfl, rfl⟩)
    · rw [e2] at c_12; cases c_12
set_option maxHeartbeats 400000 in
set_option maxRecDepth 100000 in
theorem t_sets_bad {Z : xZ} {c l st len : Nat} {kp : Nat → Nat} (ci : CI Z c l st len kp) (x y : Int32) (e : wlF x y = -2) : XC mX3_sets 8 0 0 [.ref 0, .int x, .int y] (HP Z) (fun r h' => r = some (.int (-2)) ∧ h' = HP (rfZ Z 0)) := by
  show XW mX3_sets 8 0 0 0 [some (.ref 0), some (.int x), some (.int y), none] [] (HP Z) _
  obtain ⟨hc, c20, hl, l8, ok, hf, hdi, hfb, hst, st5, hk, hlen, l120⟩ := id ci
  refine XW.aload_n 1 dX3_sets_0 rfl rfl ?_
  refine XW.iload_n 2 dX3_sets_1 rfl rfl ?_
  refine XW.iload_n 3 dX3_sets_2 rfl rfl ?_
  refine XW.callV 6 (vs := [.int x, .int y]) (rest := []) (mcr := 0) (msr := 0) c3_84 dX3_sets_3 rfl rfl (by decide) (Nat.le_of_ble_eq_true rfl) rfl rfl (Nat.le_of_ble_eq_true rfl) rfl (c_whyNoLimit _ _) (fun r h1 hq => ?_)
  obtain ⟨rfl, rfl⟩ := hq
  refine XW.eqs (st' := [.int (-2)]) rfl (by rw [e]; rfl) rfl ?_
  refine XW.istore_n 7 (L' := [some (.ref 0), some (.int x), some (.int y), some (.int (-2))]) dX3_sets_6 (by decide) rfl rfl rfl ?_
  refine XW.iload_n 8 dX3_sets_7 rfl rfl ?_
  refine XW.if_eq 17 11 dX3_sets_8 (by decide) rfl (fun c_8 => ?_) (fun c_8 => ?_)
  · exact absurd c_8 (by decide)
  · refine XW.aload_n 12 dX3_sets_11 rfl rfl ?_
    refine XW.iload_n 13 dX3_sets_12 rfl rfl ?_
    refine XW.callV 16 (vs := [.int (-2)]) (rest := []) (mcr := 0) (msr := 0) c3_46 dX3_sets_13 rfl rfl (by decide) (Nat.le_of_ble_eq_true rfl) rfl rfl (Nat.le_of_ble_eq_true rfl) rfl c_refuse0 (fun r h1 hq => ?_)
    obtain ⟨rfl, rfl⟩ := hq
    refine XW.eqs (h' := HP (rfZ Z 0)) rfl rfl rfl ?_
    refine XW.eqs (st' := [.int (-2)]) rfl rfl rfl ?_
    exact XW.iret dX3_sets_16 rfl (⟨rfl, rfl⟩)
set_option maxHeartbeats 400000 in
set_option maxRecDepth 100000 in
theorem t_sets_ok {Z : xZ} {c l st len : Nat} {kp : Nat → Nat} (ci : CI Z c l st len kp) (x y : Int32) {k : Nat} (hx : x = nI k) (k3 : k < 3) (e : wlF x y = 0) : XC mX3_sets 8 0 0 [.ref 0, .int x, .int y] (HP Z) (fun r h' => ∃ Y, LV st Z Y ∧ r = some (.int (Y.2.1 5 k)) ∧ h' = HP (sA Y 5 (upd (Y.2.1 5) k y))) := by
  show XW mX3_sets 8 0 0 0 [some (.ref 0), some (.int x), some (.int y), none] [] (HP Z) _
  obtain ⟨hc, c20, hl, l8, ok, hf, hdi, hfb, hst, st5, hk, hlen, l120⟩ := id ci
  refine XW.aload_n 1 dX3_sets_0 rfl rfl ?_
  refine XW.iload_n 2 dX3_sets_1 rfl rfl ?_
  refine XW.iload_n 3 dX3_sets_2 rfl rfl ?_
  refine XW.callV 6 (vs := [.int x, .int y]) (rest := []) (mcr := 0) (msr := 0) c3_84 dX3_sets_3 rfl rfl (by decide) (Nat.le_of_ble_eq_true rfl) rfl rfl (Nat.le_of_ble_eq_true rfl) rfl (c_whyNoLimit _ _) (fun r h1 hq => ?_)
  obtain ⟨rfl, rfl⟩ := hq
  refine XW.eqs (st' := [.int 0]) rfl (by rw [e]; rfl) rfl ?_
  refine XW.istore_n 7 (L' := [some (.ref 0), some (.int x), some (.int y), some (.int 0)]) dX3_sets_6 (by decide) rfl rfl rfl ?_
  refine XW.iload_n 8 dX3_sets_7 rfl rfl ?_
  refine XW.if_eq 17 11 dX3_sets_8 (by decide) rfl (fun c_8 => ?_) (fun c_8 => ?_)
  · refine XW.aload_n 18 dX3_sets_17 rfl rfl ?_
    refine XW.callV 21 (vs := []) (rest := []) (mcr := 0) (msr := 0) c3_50 dX3_sets_18 rfl rfl (by decide) (Nat.le_of_ble_eq_true rfl) rfl rfl (Nat.le_of_ble_eq_true rfl) rfl (c_leave hst st5 hk) (fun r h1 hq => ?_)
    obtain ⟨rfl, Y, lv, rfl⟩ := hq
    obtain ⟨kq, hcY, c20Y, hlY, l8Y, okY, hfY, hdiY, hfbY, hstY, st5Y, hkY, hlenY, l120Y⟩ := ci.lv lv
    refine XW.aload_n 22 dX3_sets_21 rfl rfl ?_
    refine XW.getf 25 (v := .ref 1) f3_10 dX3_sets_22 rfl rfl rfl ?_
    refine XW.iload_n 26 dX3_sets_25 rfl rfl ?_
    refine XW.iload_n 27 dX3_sets_26 rfl rfl ?_
    refine XW.callV 30 (vs := [.int x, .int y]) (rest := []) (mcr := 0) (msr := 0) c3_88 dX3_sets_27 rfl rfl (by decide) (Nat.le_of_ble_eq_true rfl) rfl rfl (Nat.le_of_ble_eq_true rfl) rfl (c_setLimit (k := k) _ hx (by omega)) (fun r h1 hq => ?_)
    obtain ⟨rfl, rfl⟩ := hq
    refine XW.eqs (st' := [.int (Y.2.1 5 k)]) rfl rfl rfl ?_
    exact XW.iret dX3_sets_30 rfl (⟨Y, lv, rfl, rfl⟩)
  · exact absurd rfl c_8
set_option maxHeartbeats 400000 in
set_option maxRecDepth 100000 in
theorem t_fixes_bad {Z : xZ} {c l st len : Nat} {kp : Nat → Nat} (ci : CI Z c l st len kp) (x y : Int32) (e : wxF x y (Z.1 1 0) = -2) : XC mX3_fixes 8 0 0 [.ref 0, .int x, .int y] (HP Z) (fun r h' => r = some (.int (-2)) ∧ h' = HP (rfZ Z 0)) := by
  show XW mX3_fixes 8 0 0 0 [some (.ref 0), some (.int x), some (.int y), none] [] (HP Z) _
  obtain ⟨hc, c20, hl, l8, ok, hf, hdi, hfb, hst, st5, hk, hlen, l120⟩ := id ci
  refine XW.aload_n 1 dX3_fixes_0 rfl rfl ?_
  refine XW.iload_n 2 dX3_fixes_1 rfl rfl ?_
  refine XW.iload_n 3 dX3_fixes_2 rfl rfl ?_
  refine XW.callV 6 (vs := [.int x, .int y]) (rest := []) (mcr := 0) (msr := 0) c3_91 dX3_fixes_3 rfl rfl (by decide) (Nat.le_of_ble_eq_true rfl) rfl rfl (Nat.le_of_ble_eq_true rfl) rfl (c_whyNotFixed _ _) (fun r h1 hq => ?_)
  obtain ⟨rfl, rfl⟩ := hq
  refine XW.eqs (st' := [.int (-2)]) rfl (by rw [e]; rfl) rfl ?_
  refine XW.istore_n 7 (L' := [some (.ref 0), some (.int x), some (.int y), some (.int (-2))]) dX3_fixes_6 (by decide) rfl rfl rfl ?_
  refine XW.iload_n 8 dX3_fixes_7 rfl rfl ?_
  refine XW.if_eq 17 11 dX3_fixes_8 (by decide) rfl (fun c_8 => ?_) (fun c_8 => ?_)
  · exact absurd c_8 (by decide)
  · refine XW.aload_n 12 dX3_fixes_11 rfl rfl ?_
    refine XW.iload_n 13 dX3_fixes_12 rfl rfl ?_
    refine XW.callV 16 (vs := [.int (-2)]) (rest := []) (mcr := 0) (msr := 0) c3_46 dX3_fixes_13 rfl rfl (by decide) (Nat.le_of_ble_eq_true rfl) rfl rfl (Nat.le_of_ble_eq_true rfl) rfl c_refuse0 (fun r h1 hq => ?_)
    obtain ⟨rfl, rfl⟩ := hq
    refine XW.eqs (h' := HP (rfZ Z 0)) rfl rfl rfl ?_
    refine XW.eqs (st' := [.int (-2)]) rfl rfl rfl ?_
    exact XW.iret dX3_fixes_16 rfl (⟨rfl, rfl⟩)
set_option maxHeartbeats 400000 in
set_option maxRecDepth 100000 in
theorem t_fixes_ok {Z : xZ} {c l st len : Nat} {kp : Nat → Nat} (ci : CI Z c l st len kp) (x y : Int32) (e : wxF x y (Z.1 1 0) = 0) : XC mX3_fixes 8 0 0 [.ref 0, .int x, .int y] (HP Z) (fun r h' => ∃ Y, LV st Z Y ∧ r = some (.int (bcF (fxF (Y.1 1 5) x y))) ∧ h' = HP (sI Y 1 5 (fxF (Y.1 1 5) x y))) := by
  show XW mX3_fixes 8 0 0 0 [some (.ref 0), some (.int x), some (.int y), none] [] (HP Z) _
  obtain ⟨hc, c20, hl, l8, ok, hf, hdi, hfb, hst, st5, hk, hlen, l120⟩ := id ci
  refine XW.aload_n 1 dX3_fixes_0 rfl rfl ?_
  refine XW.iload_n 2 dX3_fixes_1 rfl rfl ?_
  refine XW.iload_n 3 dX3_fixes_2 rfl rfl ?_
  refine XW.callV 6 (vs := [.int x, .int y]) (rest := []) (mcr := 0) (msr := 0) c3_91 dX3_fixes_3 rfl rfl (by decide) (Nat.le_of_ble_eq_true rfl) rfl rfl (Nat.le_of_ble_eq_true rfl) rfl (c_whyNotFixed _ _) (fun r h1 hq => ?_)
  obtain ⟨rfl, rfl⟩ := hq
  refine XW.eqs (st' := [.int 0]) rfl (by rw [e]; rfl) rfl ?_
  refine XW.istore_n 7 (L' := [some (.ref 0), some (.int x), some (.int y), some (.int 0)]) dX3_fixes_6 (by decide) rfl rfl rfl ?_
  refine XW.iload_n 8 dX3_fixes_7 rfl rfl ?_
  refine XW.if_eq 17 11 dX3_fixes_8 (by decide) rfl (fun c_8 => ?_) (fun c_8 => ?_)
  · refine XW.aload_n 18 dX3_fixes_17 rfl rfl ?_
    refine XW.callV 21 (vs := []) (rest := []) (mcr := 0) (msr := 0) c3_50 dX3_fixes_18 rfl rfl (by decide) (Nat.le_of_ble_eq_true rfl) rfl rfl (Nat.le_of_ble_eq_true rfl) rfl (c_leave hst st5 hk) (fun r h1 hq => ?_)
    obtain ⟨rfl, Y, lv, rfl⟩ := hq
    obtain ⟨kq, hcY, c20Y, hlY, l8Y, okY, hfY, hdiY, hfbY, hstY, st5Y, hkY, hlenY, l120Y⟩ := ci.lv lv
    refine XW.aload_n 22 dX3_fixes_21 rfl rfl ?_
    refine XW.getf 25 (v := .ref 1) f3_10 dX3_fixes_22 rfl rfl rfl ?_
    refine XW.iload_n 26 dX3_fixes_25 rfl rfl ?_
    refine XW.iload_n 27 dX3_fixes_26 rfl rfl ?_
    refine XW.callV 30 (vs := [.int x, .int y]) (rest := []) (mcr := 0) (msr := 0) c3_94 dX3_fixes_27 rfl rfl (by decide) (Nat.le_of_ble_eq_true rfl) rfl rfl (Nat.le_of_ble_eq_true rfl) rfl (c_setFixed _ _) (fun r h1 hq => ?_)
    obtain ⟨rfl, rfl⟩ := hq
    refine XW.eqs (st' := [.int (bcF (fxF (Y.1 1 5) x y))]) rfl rfl rfl ?_
    exact XW.iret dX3_fixes_30 rfl (⟨Y, lv, rfl, rfl⟩)
  · exact absurd rfl c_8
set_option maxHeartbeats 400000 in
set_option maxRecDepth 100000 in
theorem t_fills_bad {Z : xZ} {c l st len : Nat} {kp : Nat → Nat} (ci : CI Z c l st len kp) (x : Int32) (e : wfF x (Z.1 1 5) = -2) : XC mX3_fills 8 0 0 [.ref 0, .int x] (HP Z) (fun r h' => r = some (.int (-2)) ∧ h' = HP (rfZ Z 0)) := by
  show XW mX3_fills 8 0 0 0 [some (.ref 0), some (.int x), none] [] (HP Z) _
  obtain ⟨hc, c20, hl, l8, ok, hf, hdi, hfb, hst, st5, hk, hlen, l120⟩ := id ci
  refine XW.aload_n 1 dX3_fills_0 rfl rfl ?_
  refine XW.iload_n 2 dX3_fills_1 rfl rfl ?_
  refine XW.callV 5 (vs := [.int x]) (rest := []) (mcr := 0) (msr := 0) c3_132 dX3_fills_2 rfl rfl (by decide) (Nat.le_of_ble_eq_true rfl) rfl rfl (Nat.le_of_ble_eq_true rfl) rfl (c_whyNoFilling _) (fun r h1 hq => ?_)
  obtain ⟨rfl, rfl⟩ := hq
  refine XW.eqs (st' := [.int (-2)]) rfl (by rw [e]; rfl) rfl ?_
  refine XW.istore_n 6 (L' := [some (.ref 0), some (.int x), some (.int (-2))]) dX3_fills_5 (by decide) rfl rfl rfl ?_
  refine XW.iload_n 7 dX3_fills_6 rfl rfl ?_
  refine XW.if_eq 16 10 dX3_fills_7 (by decide) rfl (fun c_7 => ?_) (fun c_7 => ?_)
  · exact absurd c_7 (by decide)
  · refine XW.aload_n 11 dX3_fills_10 rfl rfl ?_
    refine XW.iload_n 12 dX3_fills_11 rfl rfl ?_
    refine XW.callV 15 (vs := [.int (-2)]) (rest := []) (mcr := 0) (msr := 0) c3_46 dX3_fills_12 rfl rfl (by decide) (Nat.le_of_ble_eq_true rfl) rfl rfl (Nat.le_of_ble_eq_true rfl) rfl c_refuse0 (fun r h1 hq => ?_)
    obtain ⟨rfl, rfl⟩ := hq
    refine XW.eqs (h' := HP (rfZ Z 0)) rfl rfl rfl ?_
    refine XW.eqs (st' := [.int (-2)]) rfl rfl rfl ?_
    exact XW.iret dX3_fills_15 rfl (⟨rfl, rfl⟩)
set_option maxHeartbeats 400000 in
set_option maxRecDepth 100000 in
theorem t_fills_no {Z : xZ} {c l st len : Nat} {kp : Nat → Nat} (ci : CI Z c l st len kp) (x : Int32) (e : wfF x (Z.1 1 5) = -3) : XC mX3_fills 8 0 0 [.ref 0, .int x] (HP Z) (fun r h' => r = some (.int (-3)) ∧ h' = HP (rfZ Z 1)) := by
  show XW mX3_fills 8 0 0 0 [some (.ref 0), some (.int x), none] [] (HP Z) _
  obtain ⟨hc, c20, hl, l8, ok, hf, hdi, hfb, hst, st5, hk, hlen, l120⟩ := id ci
  refine XW.aload_n 1 dX3_fills_0 rfl rfl ?_
  refine XW.iload_n 2 dX3_fills_1 rfl rfl ?_
  refine XW.callV 5 (vs := [.int x]) (rest := []) (mcr := 0) (msr := 0) c3_132 dX3_fills_2 rfl rfl (by decide) (Nat.le_of_ble_eq_true rfl) rfl rfl (Nat.le_of_ble_eq_true rfl) rfl (c_whyNoFilling _) (fun r h1 hq => ?_)
  obtain ⟨rfl, rfl⟩ := hq
  refine XW.eqs (st' := [.int (-3)]) rfl (by rw [e]; rfl) rfl ?_
  refine XW.istore_n 6 (L' := [some (.ref 0), some (.int x), some (.int (-3))]) dX3_fills_5 (by decide) rfl rfl rfl ?_
  refine XW.iload_n 7 dX3_fills_6 rfl rfl ?_
  refine XW.if_eq 16 10 dX3_fills_7 (by decide) rfl (fun c_7 => ?_) (fun c_7 => ?_)
  · exact absurd c_7 (by decide)
  · refine XW.aload_n 11 dX3_fills_10 rfl rfl ?_
    refine XW.iload_n 12 dX3_fills_11 rfl rfl ?_
    refine XW.callV 15 (vs := [.int (-3)]) (rest := []) (mcr := 0) (msr := 0) c3_46 dX3_fills_12 rfl rfl (by decide) (Nat.le_of_ble_eq_true rfl) rfl rfl (Nat.le_of_ble_eq_true rfl) rfl c_refuse1 (fun r h1 hq => ?_)
    obtain ⟨rfl, rfl⟩ := hq
    refine XW.eqs (h' := HP (rfZ Z 1)) rfl rfl rfl ?_
    refine XW.eqs (st' := [.int (-3)]) rfl rfl rfl ?_
    exact XW.iret dX3_fills_15 rfl (⟨rfl, rfl⟩)
set_option maxHeartbeats 400000 in
set_option maxRecDepth 100000 in
theorem t_fills_ok {Z : xZ} {c l st len : Nat} {kp : Nat → Nat} (ci : CI Z c l st len kp) (x : Int32) {n : Nat} (hx : x = nI n) (n8 : n ≤ 8) (hfx : (fxR (Z.1 1 5) (Z.2.1 6) c).2 ≤ 8) (e : wfF x (Z.1 1 5) = 0) : XC mX3_fills 8 0 0 [.ref 0, .int x] (HP Z) (fun r h' => ∃ Y G, LV st Z Y ∧ r = some (.int (nI (fillF (apG (Y.2.1 4) (Y.2.1 2)) (Y.2.1 2) (fbF (Y.2.1 2) (Y.2.1 3) (Y.2.1 5) c) (Y.1 1 5) (Y.2.1 6) c n).2)) ∧ h' = HP (sI (sA (sF Y 51 G) 6 (fillF (apG (Y.2.1 4) (Y.2.1 2)) (Y.2.1 2) (fbF (Y.2.1 2) (Y.2.1 3) (Y.2.1 5) c) (Y.1 1 5) (Y.2.1 6) c n).1) 1 7 (nI (fillF (apG (Y.2.1 4) (Y.2.1 2)) (Y.2.1 2) (fbF (Y.2.1 2) (Y.2.1 3) (Y.2.1 5) c) (Y.1 1 5) (Y.2.1 6) c n).2))) := by
  show XW mX3_fills 8 0 0 0 [some (.ref 0), some (.int x), none] [] (HP Z) _
  obtain ⟨hc, c20, hl, l8, ok, hf, hdi, hfb, hst, st5, hk, hlen, l120⟩ := id ci
  refine XW.aload_n 1 dX3_fills_0 rfl rfl ?_
  refine XW.iload_n 2 dX3_fills_1 rfl rfl ?_
  refine XW.callV 5 (vs := [.int x]) (rest := []) (mcr := 0) (msr := 0) c3_132 dX3_fills_2 rfl rfl (by decide) (Nat.le_of_ble_eq_true rfl) rfl rfl (Nat.le_of_ble_eq_true rfl) rfl (c_whyNoFilling _) (fun r h1 hq => ?_)
  obtain ⟨rfl, rfl⟩ := hq
  refine XW.eqs (st' := [.int 0]) rfl (by rw [e]; rfl) rfl ?_
  refine XW.istore_n 6 (L' := [some (.ref 0), some (.int x), some (.int 0)]) dX3_fills_5 (by decide) rfl rfl rfl ?_
  refine XW.iload_n 7 dX3_fills_6 rfl rfl ?_
  refine XW.if_eq 16 10 dX3_fills_7 (by decide) rfl (fun c_7 => ?_) (fun c_7 => ?_)
  · refine XW.aload_n 17 dX3_fills_16 rfl rfl ?_
    refine XW.callV 20 (vs := []) (rest := []) (mcr := 0) (msr := 0) c3_50 dX3_fills_17 rfl rfl (by decide) (Nat.le_of_ble_eq_true rfl) rfl rfl (Nat.le_of_ble_eq_true rfl) rfl (c_leave hst st5 hk) (fun r h1 hq => ?_)
    obtain ⟨rfl, Y, lv, rfl⟩ := hq
    obtain ⟨kq, hcY, c20Y, hlY, l8Y, okY, hfY, hdiY, hfbY, hstY, st5Y, hkY, hlenY, l120Y⟩ := ci.lv lv
    refine XW.aload_n 21 dX3_fills_20 rfl rfl ?_
    refine XW.getf 24 (v := .ref 50) f3_38 dX3_fills_21 rfl rfl rfl ?_
    refine XW.aload_n 25 dX3_fills_24 rfl rfl ?_
    refine XW.getf 28 (v := .ref 1) f3_10 dX3_fills_25 rfl rfl rfl ?_
    refine XW.iload_n 29 dX3_fills_28 rfl rfl ?_
    refine XW.callV 32 (vs := [.ref 1, .int x]) (rest := []) (mcr := 0) (msr := 0) c3_135 dX3_fills_29 rfl rfl (by decide) (Nat.le_of_ble_eq_true rfl) rfl rfl (Nat.le_of_ble_eq_true rfl) rfl (c_fill (n := n) hx n8 hcY c20 (by rw [lv.1 1 5 (by omega), lv.2.1 6 (by omega)]; exact hfx) okY) (fun r h1 hq => ?_)
    obtain ⟨rfl, G, hG, rfl⟩ := hq
    generalize eF : fillF (apG (Y.2.1 4) (Y.2.1 2)) (Y.2.1 2) (fbF (Y.2.1 2) (Y.2.1 3) (Y.2.1 5) c) (Y.1 1 5) (Y.2.1 6) c n = ff
    refine XW.eqs (h' := HP (sI (sA (sF Y 51 G) 6 ff.1) 1 7 (nI ff.2))) rfl rfl rfl ?_
    refine XW.aload_n 33 dX3_fills_32 rfl rfl ?_
    refine XW.getf 36 (v := .ref 1) f3_10 dX3_fills_33 rfl rfl rfl ?_
    refine XW.getf 39 (v := .int (nI ff.2)) f3_139 dX3_fills_36 rfl rfl rfl ?_
    exact XW.iret dX3_fills_39 rfl (⟨Y, G, lv, by rw [eF], by rw [eF]⟩)
  · exact absurd rfl c_7
set_option maxHeartbeats 400000 in
set_option maxRecDepth 100000 in
theorem t_swaps {Z : xZ} {c l st len : Nat} {kp : Nat → Nat} (ci : CI Z c l st len kp)  : XC mX3_swaps 8 0 0 [.ref 0] (HP Z) (fun r h' => ∃ Y G, LV st Z Y ∧ r = some (.int (nI (saF (apG (Y.2.1 4) (Y.2.1 2)) (fbF (Y.2.1 2) (Y.2.1 3) (Y.2.1 5) c) (Y.1 1 5) l c 60 0 (Y.2.1 6)).1)) ∧ h' = HP (sA (sF Y 51 G) 6 (saF (apG (Y.2.1 4) (Y.2.1 2)) (fbF (Y.2.1 2) (Y.2.1 3) (Y.2.1 5) c) (Y.1 1 5) l c 60 0 (Y.2.1 6)).2)) := by
  show XW mX3_swaps 8 0 0 0 [some (.ref 0)] [] (HP Z) _
  obtain ⟨hc, c20, hl, l8, ok, hf, hdi, hfb, hst, st5, hk, hlen, l120⟩ := id ci
  refine XW.aload_n 1 dX3_swaps_0 rfl rfl ?_
  refine XW.callV 4 (vs := []) (rest := []) (mcr := 0) (msr := 0) c3_50 dX3_swaps_1 rfl rfl (by decide) (Nat.le_of_ble_eq_true rfl) rfl rfl (Nat.le_of_ble_eq_true rfl) rfl (c_leave hst st5 hk) (fun r h1 hq => ?_)
  obtain ⟨rfl, Y, lv, rfl⟩ := hq
  obtain ⟨kq, hcY, c20Y, hlY, l8Y, okY, hfY, hdiY, hfbY, hstY, st5Y, hkY, hlenY, l120Y⟩ := ci.lv lv
  refine XW.aload_n 5 dX3_swaps_4 rfl rfl ?_
  refine XW.getf 8 (v := .ref 50) f3_38 dX3_swaps_5 rfl rfl rfl ?_
  refine XW.aload_n 9 dX3_swaps_8 rfl rfl ?_
  refine XW.getf 12 (v := .ref 1) f3_10 dX3_swaps_9 rfl rfl rfl ?_
  refine XW.callV 15 (vs := [.ref 1]) (rest := []) (mcr := 0) (msr := 0) c3_142 dX3_swaps_12 rfl rfl (by decide) (Nat.le_of_ble_eq_true rfl) rfl rfl (Nat.le_of_ble_eq_true rfl) rfl (c_swapAll hcY c20 hlY l8 hfY hdiY okY) (fun r h1 hq => ?_)
  obtain ⟨rfl, G, hG, rfl⟩ := hq
  generalize eF : saF (apG (Y.2.1 4) (Y.2.1 2)) (fbF (Y.2.1 2) (Y.2.1 3) (Y.2.1 5) c) (Y.1 1 5) l c 60 0 (Y.2.1 6) = sw
  refine XW.eqs (st' := [.int (nI sw.1)]) (h' := HP (sA (sF Y 51 G) 6 sw.2)) rfl rfl rfl ?_
  refine XW.eqs (st' := [.int (nI sw.1)]) rfl rfl rfl ?_
  exact XW.iret dX3_swaps_15 rfl (⟨Y, G, lv, by rw [eF], by rw [eF]⟩)
