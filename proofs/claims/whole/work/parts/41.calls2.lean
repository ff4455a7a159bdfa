/-! The class: its calls that read -/
set_option maxHeartbeats 400000 in
set_option maxRecDepth 100000 in
theorem t_of_bad {Z : xZ} {c l st len : Nat} {kp : Nat → Nat} (ci : CI Z c l st len kp) (x y : Int32) (e : (isC x (Z.1 1 0) && inF y 0 5) = false) : XC mX3_of 8 0 0 [.ref 0, .int x, .int y] (HP Z) (fun r h' => r = some (.int (-2)) ∧ h' = HP (rfZ Z 0)) := by
  show XW mX3_of 8 0 0 0 [some (.ref 0), some (.int x), some (.int y)] [] (HP Z) _
  obtain ⟨hc, c20, hl, l8, ok, hf, hdi, hfb, hst, st5, hk, hlen, l120⟩ := id ci
  refine XW.aload_n 1 dX3_of_0 rfl rfl ?_
  refine XW.iload_n 2 dX3_of_1 rfl rfl ?_
  refine XW.callV 5 (vs := [.int x]) (rest := []) (mcr := 0) (msr := 0) c3_56 dX3_of_2 rfl rfl (by decide) (Nat.le_of_ble_eq_true rfl) rfl rfl (Nat.le_of_ble_eq_true rfl) rfl (c_isColour _) (fun r h1 hq => ?_)
  obtain ⟨rfl, rfl⟩ := hq
  refine XW.if_eqB 17 8 dX3_of_5 (by decide) rfl (fun c_5 => ?_) (fun c_5 => ?_)
  · refine XW.aload_n 18 dX3_of_17 rfl rfl ?_
    refine XW.bipush 20 dX3_of_18 (v := -2) (by decide) rfl ?_
    refine XW.callV 23 (vs := [.int (-2)]) (rest := []) (mcr := 0) (msr := 0) c3_46 dX3_of_20 rfl rfl (by decide) (Nat.le_of_ble_eq_true rfl) rfl rfl (Nat.le_of_ble_eq_true rfl) rfl c_refuse0 (fun r h1 hq => ?_)
    obtain ⟨rfl, rfl⟩ := hq
    refine XW.eqs (h' := HP (rfZ Z 0)) rfl rfl rfl ?_
    refine XW.eqs (st' := [.int (-2)]) rfl rfl rfl ?_
    exact XW.iret dX3_of_23 rfl (⟨rfl, rfl⟩)
  · refine XW.iload_n 9 dX3_of_8 rfl rfl ?_
    refine XW.iconst 10 dX3_of_9 (v := 0) (by decide) rfl ?_
    refine XW.iconst 11 dX3_of_10 (v := 5) (by decide) rfl ?_
    refine XW.callS 14 (vs := [.int y, .int 0, .int 5]) (rest := []) (mcr := 0) (msr := 0) c3_97 dX3_of_11 rfl (by decide) (Nat.le_of_ble_eq_true rfl) rfl rfl (Nat.le_of_ble_eq_true rfl) rfl (c_isWithin _ _ _ _) (fun r h1 hq => ?_)
    obtain ⟨rfl, rfl⟩ := hq
    refine XW.if_neB 24 17 dX3_of_14 (by decide) rfl (fun c_14 => ?_) (fun c_14 => ?_)
    · exact absurd e (by rw [c_5, c_14]; decide)
    · refine XW.aload_n 18 dX3_of_17 rfl rfl ?_
      refine XW.bipush 20 dX3_of_18 (v := -2) (by decide) rfl ?_
      refine XW.callV 23 (vs := [.int (-2)]) (rest := []) (mcr := 0) (msr := 0) c3_46 dX3_of_20 rfl rfl (by decide) (Nat.le_of_ble_eq_true rfl) rfl rfl (Nat.le_of_ble_eq_true rfl) rfl c_refuse0 (fun r h1 hq => ?_)
      obtain ⟨rfl, rfl⟩ := hq
      refine XW.eqs (h' := HP (rfZ Z 0)) rfl rfl rfl ?_
      refine XW.eqs (st' := [.int (-2)]) rfl rfl rfl ?_
      exact XW.iret dX3_of_23 rfl (⟨rfl, rfl⟩)
set_option maxHeartbeats 400000 in
set_option maxRecDepth 100000 in
theorem t_of_0 {Z : xZ} {c l st len : Nat} {kp : Nat → Nat} (ci : CI Z c l st len kp) (x : Int32) {i : Nat} (hx : x = nI i) (ic : i < c) (e1 : isC x (Z.1 1 0) = true) : XC mX3_of 8 0 0 [.ref 0, .int x, .int 0] (HP Z) (fun r h' => r = some (.int (Z.2.1 2 (3 * i))) ∧ h' = HP Z) := by
  show XW mX3_of 8 0 0 0 [some (.ref 0), some (.int x), some (.int 0)] [] (HP Z) _
  obtain ⟨hc, c20, hl, l8, ok, hf, hdi, hfb, hst, st5, hk, hlen, l120⟩ := id ci
  refine XW.aload_n 1 dX3_of_0 rfl rfl ?_
  refine XW.iload_n 2 dX3_of_1 rfl rfl ?_
  refine XW.callV 5 (vs := [.int x]) (rest := []) (mcr := 0) (msr := 0) c3_56 dX3_of_2 rfl rfl (by decide) (Nat.le_of_ble_eq_true rfl) rfl rfl (Nat.le_of_ble_eq_true rfl) rfl (c_isColour _) (fun r h1 hq => ?_)
  obtain ⟨rfl, rfl⟩ := hq
  refine XW.if_eqB 17 8 dX3_of_5 (by decide) rfl (fun c_5 => ?_) (fun c_5 => ?_)
  · rw [e1] at c_5; cases c_5
  · refine XW.iload_n 9 dX3_of_8 rfl rfl ?_
    refine XW.iconst 10 dX3_of_9 (v := 0) (by decide) rfl ?_
    refine XW.iconst 11 dX3_of_10 (v := 5) (by decide) rfl ?_
    refine XW.callS 14 (vs := [.int 0, .int 0, .int 5]) (rest := []) (mcr := 0) (msr := 0) c3_97 dX3_of_11 rfl (by decide) (Nat.le_of_ble_eq_true rfl) rfl rfl (Nat.le_of_ble_eq_true rfl) rfl (c_isWithin _ _ _ _) (fun r h1 hq => ?_)
    obtain ⟨rfl, rfl⟩ := hq
    refine XW.if_neB 24 17 dX3_of_14 (by decide) rfl (fun c_14 => ?_) (fun c_14 => ?_)
    · refine XW.iload_n 25 dX3_of_24 rfl rfl ?_
      refine XW.tableOut 95 dX3_of_25 (by decide) (by decide) ?_
      refine XW.aload_n 96 dX3_of_95 rfl rfl ?_
      refine XW.getf 99 (v := .ref 1) f3_10 dX3_of_96 rfl rfl rfl ?_
      refine XW.getf 102 (v := .ref 2) f3_64 dX3_of_99 rfl rfl rfl ?_
      refine XW.iconst 103 dX3_of_102 (v := 3) (by decide) rfl ?_
      refine XW.iload_n 104 dX3_of_103 rfl rfl ?_
      refine XW.imul 105 dX3_of_104 rfl ?_
      refine XW.iload_n 106 dX3_of_105 rfl rfl ?_
      refine XW.iadd 107 dX3_of_106 rfl ?_
      refine XW.iald 108 ((3 * i) + 0) dX3_of_107 rfl (na (nm rfl hx) rfl) (by omega) (by decide) rfl ?_
      exact XW.iret dX3_of_108 rfl (⟨rfl, rfl⟩)
    · exact absurd c_14 (by decide)
set_option maxHeartbeats 400000 in
set_option maxRecDepth 100000 in
theorem t_of_1 {Z : xZ} {c l st len : Nat} {kp : Nat → Nat} (ci : CI Z c l st len kp) (x : Int32) {i : Nat} (hx : x = nI i) (ic : i < c) (e1 : isC x (Z.1 1 0) = true) : XC mX3_of 8 0 0 [.ref 0, .int x, .int 1] (HP Z) (fun r h' => r = some (.int (Z.2.1 2 (3 * i + 1))) ∧ h' = HP Z) := by
  show XW mX3_of 8 0 0 0 [some (.ref 0), some (.int x), some (.int 1)] [] (HP Z) _
  obtain ⟨hc, c20, hl, l8, ok, hf, hdi, hfb, hst, st5, hk, hlen, l120⟩ := id ci
  refine XW.aload_n 1 dX3_of_0 rfl rfl ?_
  refine XW.iload_n 2 dX3_of_1 rfl rfl ?_
  refine XW.callV 5 (vs := [.int x]) (rest := []) (mcr := 0) (msr := 0) c3_56 dX3_of_2 rfl rfl (by decide) (Nat.le_of_ble_eq_true rfl) rfl rfl (Nat.le_of_ble_eq_true rfl) rfl (c_isColour _) (fun r h1 hq => ?_)
  obtain ⟨rfl, rfl⟩ := hq
  refine XW.if_eqB 17 8 dX3_of_5 (by decide) rfl (fun c_5 => ?_) (fun c_5 => ?_)
  · rw [e1] at c_5; cases c_5
  · refine XW.iload_n 9 dX3_of_8 rfl rfl ?_
    refine XW.iconst 10 dX3_of_9 (v := 0) (by decide) rfl ?_
    refine XW.iconst 11 dX3_of_10 (v := 5) (by decide) rfl ?_
    refine XW.callS 14 (vs := [.int 1, .int 0, .int 5]) (rest := []) (mcr := 0) (msr := 0) c3_97 dX3_of_11 rfl (by decide) (Nat.le_of_ble_eq_true rfl) rfl rfl (Nat.le_of_ble_eq_true rfl) rfl (c_isWithin _ _ _ _) (fun r h1 hq => ?_)
    obtain ⟨rfl, rfl⟩ := hq
    refine XW.if_neB 24 17 dX3_of_14 (by decide) rfl (fun c_14 => ?_) (fun c_14 => ?_)
    · refine XW.iload_n 25 dX3_of_24 rfl rfl ?_
      refine XW.tableOut 95 dX3_of_25 (by decide) (by decide) ?_
      refine XW.aload_n 96 dX3_of_95 rfl rfl ?_
      refine XW.getf 99 (v := .ref 1) f3_10 dX3_of_96 rfl rfl rfl ?_
      refine XW.getf 102 (v := .ref 2) f3_64 dX3_of_99 rfl rfl rfl ?_
      refine XW.iconst 103 dX3_of_102 (v := 3) (by decide) rfl ?_
      refine XW.iload_n 104 dX3_of_103 rfl rfl ?_
      refine XW.imul 105 dX3_of_104 rfl ?_
      refine XW.iload_n 106 dX3_of_105 rfl rfl ?_
      refine XW.iadd 107 dX3_of_106 rfl ?_
      refine XW.iald 108 ((3 * i) + 1) dX3_of_107 rfl (na (nm rfl hx) rfl) (by omega) (by decide) rfl ?_
      exact XW.iret dX3_of_108 rfl (⟨rfl, rfl⟩)
    · exact absurd c_14 (by decide)
set_option maxHeartbeats 400000 in
set_option maxRecDepth 100000 in
theorem t_of_2 {Z : xZ} {c l st len : Nat} {kp : Nat → Nat} (ci : CI Z c l st len kp) (x : Int32) {i : Nat} (hx : x = nI i) (ic : i < c) (e1 : isC x (Z.1 1 0) = true) : XC mX3_of 8 0 0 [.ref 0, .int x, .int 2] (HP Z) (fun r h' => r = some (.int (Z.2.1 2 (3 * i + 2))) ∧ h' = HP Z) := by
  show XW mX3_of 8 0 0 0 [some (.ref 0), some (.int x), some (.int 2)] [] (HP Z) _
  obtain ⟨hc, c20, hl, l8, ok, hf, hdi, hfb, hst, st5, hk, hlen, l120⟩ := id ci
  refine XW.aload_n 1 dX3_of_0 rfl rfl ?_
  refine XW.iload_n 2 dX3_of_1 rfl rfl ?_
  refine XW.callV 5 (vs := [.int x]) (rest := []) (mcr := 0) (msr := 0) c3_56 dX3_of_2 rfl rfl (by decide) (Nat.le_of_ble_eq_true rfl) rfl rfl (Nat.le_of_ble_eq_true rfl) rfl (c_isColour _) (fun r h1 hq => ?_)
  obtain ⟨rfl, rfl⟩ := hq
  refine XW.if_eqB 17 8 dX3_of_5 (by decide) rfl (fun c_5 => ?_) (fun c_5 => ?_)
  · rw [e1] at c_5; cases c_5
  · refine XW.iload_n 9 dX3_of_8 rfl rfl ?_
    refine XW.iconst 10 dX3_of_9 (v := 0) (by decide) rfl ?_
    refine XW.iconst 11 dX3_of_10 (v := 5) (by decide) rfl ?_
    refine XW.callS 14 (vs := [.int 2, .int 0, .int 5]) (rest := []) (mcr := 0) (msr := 0) c3_97 dX3_of_11 rfl (by decide) (Nat.le_of_ble_eq_true rfl) rfl rfl (Nat.le_of_ble_eq_true rfl) rfl (c_isWithin _ _ _ _) (fun r h1 hq => ?_)
    obtain ⟨rfl, rfl⟩ := hq
    refine XW.if_neB 24 17 dX3_of_14 (by decide) rfl (fun c_14 => ?_) (fun c_14 => ?_)
    · refine XW.iload_n 25 dX3_of_24 rfl rfl ?_
      refine XW.tableOut 95 dX3_of_25 (by decide) (by decide) ?_
      refine XW.aload_n 96 dX3_of_95 rfl rfl ?_
      refine XW.getf 99 (v := .ref 1) f3_10 dX3_of_96 rfl rfl rfl ?_
      refine XW.getf 102 (v := .ref 2) f3_64 dX3_of_99 rfl rfl rfl ?_
      refine XW.iconst 103 dX3_of_102 (v := 3) (by decide) rfl ?_
      refine XW.iload_n 104 dX3_of_103 rfl rfl ?_
      refine XW.imul 105 dX3_of_104 rfl ?_
      refine XW.iload_n 106 dX3_of_105 rfl rfl ?_
      refine XW.iadd 107 dX3_of_106 rfl ?_
      refine XW.iald 108 ((3 * i) + 2) dX3_of_107 rfl (na (nm rfl hx) rfl) (by omega) (by decide) rfl ?_
      exact XW.iret dX3_of_108 rfl (⟨rfl, rfl⟩)
    · exact absurd c_14 (by decide)
set_option maxHeartbeats 400000 in
set_option maxRecDepth 100000 in
theorem t_of_3 {Z : xZ} {c l st len : Nat} {kp : Nat → Nat} (ci : CI Z c l st len kp) (x : Int32) {i : Nat} (hx : x = nI i) (ic : i < c) (e1 : isC x (Z.1 1 0) = true) : XC mX3_of 8 0 0 [.ref 0, .int x, .int 3] (HP Z) (fun r h' => r = some (.int (b2i (bitB (Z.1 1 5) x))) ∧ h' = HP Z) := by
  show XW mX3_of 8 0 0 0 [some (.ref 0), some (.int x), some (.int 3)] [] (HP Z) _
  obtain ⟨hc, c20, hl, l8, ok, hf, hdi, hfb, hst, st5, hk, hlen, l120⟩ := id ci
  refine XW.aload_n 1 dX3_of_0 rfl rfl ?_
  refine XW.iload_n 2 dX3_of_1 rfl rfl ?_
  refine XW.callV 5 (vs := [.int x]) (rest := []) (mcr := 0) (msr := 0) c3_56 dX3_of_2 rfl rfl (by decide) (Nat.le_of_ble_eq_true rfl) rfl rfl (Nat.le_of_ble_eq_true rfl) rfl (c_isColour _) (fun r h1 hq => ?_)
  obtain ⟨rfl, rfl⟩ := hq
  refine XW.if_eqB 17 8 dX3_of_5 (by decide) rfl (fun c_5 => ?_) (fun c_5 => ?_)
  · rw [e1] at c_5; cases c_5
  · refine XW.iload_n 9 dX3_of_8 rfl rfl ?_
    refine XW.iconst 10 dX3_of_9 (v := 0) (by decide) rfl ?_
    refine XW.iconst 11 dX3_of_10 (v := 5) (by decide) rfl ?_
    refine XW.callS 14 (vs := [.int 3, .int 0, .int 5]) (rest := []) (mcr := 0) (msr := 0) c3_97 dX3_of_11 rfl (by decide) (Nat.le_of_ble_eq_true rfl) rfl rfl (Nat.le_of_ble_eq_true rfl) rfl (c_isWithin _ _ _ _) (fun r h1 hq => ?_)
    obtain ⟨rfl, rfl⟩ := hq
    refine XW.if_neB 24 17 dX3_of_14 (by decide) rfl (fun c_14 => ?_) (fun c_14 => ?_)
    · refine XW.iload_n 25 dX3_of_24 rfl rfl ?_
      refine XW.tableIn 52 dX3_of_25 (by decide) (by decide) rfl (by decide) ?_
      refine XW.aload_n 53 dX3_of_52 rfl rfl ?_
      refine XW.getf 56 (v := .ref 1) f3_10 dX3_of_53 rfl rfl rfl ?_
      refine XW.iload_n 57 dX3_of_56 rfl rfl ?_
      refine XW.callV 60 (vs := [.int x]) (rest := []) (mcr := 0) (msr := 0) c3_100 dX3_of_57 rfl rfl (by decide) (Nat.le_of_ble_eq_true rfl) rfl rfl (Nat.le_of_ble_eq_true rfl) rfl (c_isFixed _) (fun r h1 hq => ?_)
      obtain ⟨rfl, rfl⟩ := hq
      refine XW.if_eqB 67 63 dX3_of_60 (by decide) rfl (fun c_60 => ?_) (fun c_60 => ?_)
      · refine XW.iconst 68 dX3_of_67 (v := 0) (by decide) rfl ?_
        exact XW.iret dX3_of_68 rfl (⟨pF c_60, rfl⟩)
      · refine XW.iconst 64 dX3_of_63 (v := 1) (by decide) rfl ?_
        refine XW.goto 68 dX3_of_64 (by decide) ?_
        exact XW.iret dX3_of_68 rfl (⟨pT c_60, rfl⟩)
    · exact absurd c_14 (by decide)
set_option maxHeartbeats 400000 in
set_option maxRecDepth 100000 in
theorem t_of_4 {Z : xZ} {c l st len : Nat} {kp : Nat → Nat} (ci : CI Z c l st len kp) (x : Int32) {i : Nat} (hx : x = nI i) (ic : i < c) (e1 : isC x (Z.1 1 0) = true) : XC mX3_of 8 0 0 [.ref 0, .int x, .int 4] (HP Z) (fun r h' => r = some (.int (b2i (fitC (Z.2.1 2) (Z.2.1 3) (Z.2.1 5) i))) ∧ h' = HP Z) := by
  show XW mX3_of 8 0 0 0 [some (.ref 0), some (.int x), some (.int 4)] [] (HP Z) _
  obtain ⟨hc, c20, hl, l8, ok, hf, hdi, hfb, hst, st5, hk, hlen, l120⟩ := id ci
  refine XW.aload_n 1 dX3_of_0 rfl rfl ?_
  refine XW.iload_n 2 dX3_of_1 rfl rfl ?_
  refine XW.callV 5 (vs := [.int x]) (rest := []) (mcr := 0) (msr := 0) c3_56 dX3_of_2 rfl rfl (by decide) (Nat.le_of_ble_eq_true rfl) rfl rfl (Nat.le_of_ble_eq_true rfl) rfl (c_isColour _) (fun r h1 hq => ?_)
  obtain ⟨rfl, rfl⟩ := hq
  refine XW.if_eqB 17 8 dX3_of_5 (by decide) rfl (fun c_5 => ?_) (fun c_5 => ?_)
  · rw [e1] at c_5; cases c_5
  · refine XW.iload_n 9 dX3_of_8 rfl rfl ?_
    refine XW.iconst 10 dX3_of_9 (v := 0) (by decide) rfl ?_
    refine XW.iconst 11 dX3_of_10 (v := 5) (by decide) rfl ?_
    refine XW.callS 14 (vs := [.int 4, .int 0, .int 5]) (rest := []) (mcr := 0) (msr := 0) c3_97 dX3_of_11 rfl (by decide) (Nat.le_of_ble_eq_true rfl) rfl rfl (Nat.le_of_ble_eq_true rfl) rfl (c_isWithin _ _ _ _) (fun r h1 hq => ?_)
    obtain ⟨rfl, rfl⟩ := hq
    refine XW.if_neB 24 17 dX3_of_14 (by decide) rfl (fun c_14 => ?_) (fun c_14 => ?_)
    · refine XW.iload_n 25 dX3_of_24 rfl rfl ?_
      refine XW.tableIn 69 dX3_of_25 (by decide) (by decide) rfl (by decide) ?_
      refine XW.aload_n 70 dX3_of_69 rfl rfl ?_
      refine XW.getf 73 (v := .ref 1) f3_10 dX3_of_70 rfl rfl rfl ?_
      refine XW.iload_n 74 dX3_of_73 rfl rfl ?_
      refine XW.callV 77 (vs := [.int x]) (rest := []) (mcr := 0) (msr := 0) c3_103 dX3_of_74 rfl rfl (by decide) (Nat.le_of_ble_eq_true rfl) rfl rfl (Nat.le_of_ble_eq_true rfl) rfl (c_isFit (i := i) hx (by omega) ok) (fun r h1 hq => ?_)
      obtain ⟨rfl, rfl⟩ := hq
      refine XW.if_eqB 84 80 dX3_of_77 (by decide) rfl (fun c_77 => ?_) (fun c_77 => ?_)
      · refine XW.iconst 85 dX3_of_84 (v := 0) (by decide) rfl ?_
        exact XW.iret dX3_of_85 rfl (⟨pF c_77, rfl⟩)
      · refine XW.iconst 81 dX3_of_80 (v := 1) (by decide) rfl ?_
        refine XW.goto 85 dX3_of_81 (by decide) ?_
        exact XW.iret dX3_of_85 rfl (⟨pT c_77, rfl⟩)
    · exact absurd c_14 (by decide)
set_option maxHeartbeats 400000 in
set_option maxRecDepth 100000 in
theorem t_of_5 {Z : xZ} {c l st len : Nat} {kp : Nat → Nat} (ci : CI Z c l st len kp) (x : Int32) {i : Nat} (hx : x = nI i) (ic : i < c) (e1 : isC x (Z.1 1 0) = true) : XC mX3_of 8 0 0 [.ref 0, .int x, .int 5] (HP Z) (fun r h' => r = some (.int (plF (Z.2.1 6) x l 0)) ∧ h' = HP Z) := by
  show XW mX3_of 8 0 0 0 [some (.ref 0), some (.int x), some (.int 5)] [] (HP Z) _
  obtain ⟨hc, c20, hl, l8, ok, hf, hdi, hfb, hst, st5, hk, hlen, l120⟩ := id ci
  refine XW.aload_n 1 dX3_of_0 rfl rfl ?_
  refine XW.iload_n 2 dX3_of_1 rfl rfl ?_
  refine XW.callV 5 (vs := [.int x]) (rest := []) (mcr := 0) (msr := 0) c3_56 dX3_of_2 rfl rfl (by decide) (Nat.le_of_ble_eq_true rfl) rfl rfl (Nat.le_of_ble_eq_true rfl) rfl (c_isColour _) (fun r h1 hq => ?_)
  obtain ⟨rfl, rfl⟩ := hq
  refine XW.if_eqB 17 8 dX3_of_5 (by decide) rfl (fun c_5 => ?_) (fun c_5 => ?_)
  · rw [e1] at c_5; cases c_5
  · refine XW.iload_n 9 dX3_of_8 rfl rfl ?_
    refine XW.iconst 10 dX3_of_9 (v := 0) (by decide) rfl ?_
    refine XW.iconst 11 dX3_of_10 (v := 5) (by decide) rfl ?_
    refine XW.callS 14 (vs := [.int 5, .int 0, .int 5]) (rest := []) (mcr := 0) (msr := 0) c3_97 dX3_of_11 rfl (by decide) (Nat.le_of_ble_eq_true rfl) rfl rfl (Nat.le_of_ble_eq_true rfl) rfl (c_isWithin _ _ _ _) (fun r h1 hq => ?_)
    obtain ⟨rfl, rfl⟩ := hq
    refine XW.if_neB 24 17 dX3_of_14 (by decide) rfl (fun c_14 => ?_) (fun c_14 => ?_)
    · refine XW.iload_n 25 dX3_of_24 rfl rfl ?_
      refine XW.tableIn 86 dX3_of_25 (by decide) (by decide) rfl (by decide) ?_
      refine XW.aload_n 87 dX3_of_86 rfl rfl ?_
      refine XW.getf 90 (v := .ref 1) f3_10 dX3_of_87 rfl rfl rfl ?_
      refine XW.iload_n 91 dX3_of_90 rfl rfl ?_
      refine XW.callV 94 (vs := [.int x]) (rest := []) (mcr := 0) (msr := 0) c3_106 dX3_of_91 rfl rfl (by decide) (Nat.le_of_ble_eq_true rfl) rfl rfl (Nat.le_of_ble_eq_true rfl) rfl (c_placeOf _ hl l8) (fun r h1 hq => ?_)
      obtain ⟨rfl, rfl⟩ := hq
      exact XW.iret dX3_of_94 rfl (⟨rfl, rfl⟩)
    · exact absurd c_14 (by decide)
set_option maxHeartbeats 400000 in
set_option maxRecDepth 100000 in
theorem t_look_bad {Z : xZ} {c l st len : Nat} {kp : Nat → Nat} (ci : CI Z c l st len kp) (x y : Int32) (e : (inF x 0 3 && inF y 0 12) = false) : XC mX3_look 8 0 0 [.ref 0, .int x, .int y] (HP Z) (fun r h' => r = some (.int (-2)) ∧ h' = HP (rfZ Z 0)) := by
  show XW mX3_look 8 0 0 0 [some (.ref 0), some (.int x), some (.int y)] [] (HP Z) _
  obtain ⟨hc, c20, hl, l8, ok, hf, hdi, hfb, hst, st5, hk, hlen, l120⟩ := id ci
  refine XW.iload_n 1 dX3_look_0 rfl rfl ?_
  refine XW.callS 4 (vs := [.int x]) (rest := []) (mcr := 0) (msr := 0) c3_74 dX3_look_1 rfl (by decide) (Nat.le_of_ble_eq_true rfl) rfl rfl (Nat.le_of_ble_eq_true rfl) rfl (c_isEye _ _) (fun r h1 hq => ?_)
  obtain ⟨rfl, rfl⟩ := hq
  refine XW.if_eqB 17 7 dX3_look_4 (by decide) rfl (fun c_4 => ?_) (fun c_4 => ?_)
  · refine XW.aload_n 18 dX3_look_17 rfl rfl ?_
    refine XW.bipush 20 dX3_look_18 (v := -2) (by decide) rfl ?_
    refine XW.callV 23 (vs := [.int (-2)]) (rest := []) (mcr := 0) (msr := 0) c3_46 dX3_look_20 rfl rfl (by decide) (Nat.le_of_ble_eq_true rfl) rfl rfl (Nat.le_of_ble_eq_true rfl) rfl c_refuse0 (fun r h1 hq => ?_)
    obtain ⟨rfl, rfl⟩ := hq
    refine XW.eqs (h' := HP (rfZ Z 0)) rfl rfl rfl ?_
    refine XW.eqs (st' := [.int (-2)]) rfl rfl rfl ?_
    exact XW.iret dX3_look_23 rfl (⟨rfl, rfl⟩)
  · refine XW.iload_n 8 dX3_look_7 rfl rfl ?_
    refine XW.iconst 9 dX3_look_8 (v := 0) (by decide) rfl ?_
    refine XW.bipush 11 dX3_look_9 (v := 12) (by decide) rfl ?_
    refine XW.callS 14 (vs := [.int y, .int 0, .int 12]) (rest := []) (mcr := 0) (msr := 0) c3_97 dX3_look_11 rfl (by decide) (Nat.le_of_ble_eq_true rfl) rfl rfl (Nat.le_of_ble_eq_true rfl) rfl (c_isWithin _ _ _ _) (fun r h1 hq => ?_)
    obtain ⟨rfl, rfl⟩ := hq
    refine XW.if_neB 24 17 dX3_look_14 (by decide) rfl (fun c_14 => ?_) (fun c_14 => ?_)
    · exact absurd e (by rw [c_4, c_14]; decide)
    · refine XW.aload_n 18 dX3_look_17 rfl rfl ?_
      refine XW.bipush 20 dX3_look_18 (v := -2) (by decide) rfl ?_
      refine XW.callV 23 (vs := [.int (-2)]) (rest := []) (mcr := 0) (msr := 0) c3_46 dX3_look_20 rfl rfl (by decide) (Nat.le_of_ble_eq_true rfl) rfl rfl (Nat.le_of_ble_eq_true rfl) rfl c_refuse0 (fun r h1 hq => ?_)
      obtain ⟨rfl, rfl⟩ := hq
      refine XW.eqs (h' := HP (rfZ Z 0)) rfl rfl rfl ?_
      refine XW.eqs (st' := [.int (-2)]) rfl rfl rfl ?_
      exact XW.iret dX3_look_23 rfl (⟨rfl, rfl⟩)
set_option maxHeartbeats 400000 in
set_option maxRecDepth 100000 in
theorem t_look_ok {Z : xZ} {c l st len : Nat} {kp : Nat → Nat} (ci : CI Z c l st len kp) (x y : Int32) {e k : Nat} (hx : x = nI e) (hy : y = nI k) (e4 : e < 4) (k13 : k < 13) (e1 : inF x 0 3 = true) (e2 : inF y 0 12 = true) : XC mX3_look 8 0 0 [.ref 0, .int x, .int y] (HP Z) (fun r h' => r = some (.int (Z.2.1 4 (13 * e + k))) ∧ h' = HP Z) := by
  show XW mX3_look 8 0 0 0 [some (.ref 0), some (.int x), some (.int y)] [] (HP Z) _
  obtain ⟨hc, c20, hl, l8, ok, hf, hdi, hfb, hst, st5, hk, hlen, l120⟩ := id ci
  refine XW.iload_n 1 dX3_look_0 rfl rfl ?_
  refine XW.callS 4 (vs := [.int x]) (rest := []) (mcr := 0) (msr := 0) c3_74 dX3_look_1 rfl (by decide) (Nat.le_of_ble_eq_true rfl) rfl rfl (Nat.le_of_ble_eq_true rfl) rfl (c_isEye _ _) (fun r h1 hq => ?_)
  obtain ⟨rfl, rfl⟩ := hq
  refine XW.if_eqB 17 7 dX3_look_4 (by decide) rfl (fun c_4 => ?_) (fun c_4 => ?_)
  · rw [e1] at c_4; cases c_4
  · refine XW.iload_n 8 dX3_look_7 rfl rfl ?_
    refine XW.iconst 9 dX3_look_8 (v := 0) (by decide) rfl ?_
    refine XW.bipush 11 dX3_look_9 (v := 12) (by decide) rfl ?_
    refine XW.callS 14 (vs := [.int y, .int 0, .int 12]) (rest := []) (mcr := 0) (msr := 0) c3_97 dX3_look_11 rfl (by decide) (Nat.le_of_ble_eq_true rfl) rfl rfl (Nat.le_of_ble_eq_true rfl) rfl (c_isWithin _ _ _ _) (fun r h1 hq => ?_)
    obtain ⟨rfl, rfl⟩ := hq
    refine XW.if_neB 24 17 dX3_look_14 (by decide) rfl (fun c_14 => ?_) (fun c_14 => ?_)
    · refine XW.aload_n 25 dX3_look_24 rfl rfl ?_
      refine XW.getf 28 (v := .ref 1) f3_10 dX3_look_25 rfl rfl rfl ?_
      refine XW.getf 31 (v := .ref 4) f3_81 dX3_look_28 rfl rfl rfl ?_
      refine XW.bipush 33 dX3_look_31 (v := 13) (by decide) rfl ?_
      refine XW.iload_n 34 dX3_look_33 rfl rfl ?_
      refine XW.imul 35 dX3_look_34 rfl ?_
      refine XW.iload_n 36 dX3_look_35 rfl rfl ?_
      refine XW.iadd 37 dX3_look_36 rfl ?_
      refine XW.iald 38 ((13 * e) + k) dX3_look_37 rfl (na (nm rfl hx) hy) (by omega) (by decide) rfl ?_
      exact XW.iret dX3_look_38 rfl (⟨rfl, rfl⟩)
    · rw [e2] at c_14; cases c_14
set_option maxHeartbeats 400000 in
set_option maxRecDepth 100000 in
theorem t_light_bad {Z : xZ} {c l st len : Nat} {kp : Nat → Nat} (ci : CI Z c l st len kp) (x : Int32) (e : isC x (Z.1 1 0) = false) : XC mX3_light 8 0 0 [.ref 0, .int x] (HP Z) (fun r h' => r = some (.int (-2)) ∧ h' = HP (rfZ Z 0)) := by
  show XW mX3_light 8 0 0 0 [some (.ref 0), some (.int x)] [] (HP Z) _
  obtain ⟨hc, c20, hl, l8, ok, hf, hdi, hfb, hst, st5, hk, hlen, l120⟩ := id ci
  refine XW.aload_n 1 dX3_light_0 rfl rfl ?_
  refine XW.iload_n 2 dX3_light_1 rfl rfl ?_
  refine XW.callV 5 (vs := [.int x]) (rest := []) (mcr := 0) (msr := 0) c3_56 dX3_light_2 rfl rfl (by decide) (Nat.le_of_ble_eq_true rfl) rfl rfl (Nat.le_of_ble_eq_true rfl) rfl (c_isColour _) (fun r h1 hq => ?_)
  obtain ⟨rfl, rfl⟩ := hq
  refine XW.if_neB 15 8 dX3_light_5 (by decide) rfl (fun c_5 => ?_) (fun c_5 => ?_)
  · rw [e] at c_5; cases c_5
  · refine XW.aload_n 9 dX3_light_8 rfl rfl ?_
    refine XW.bipush 11 dX3_light_9 (v := -2) (by decide) rfl ?_
    refine XW.callV 14 (vs := [.int (-2)]) (rest := []) (mcr := 0) (msr := 0) c3_46 dX3_light_11 rfl rfl (by decide) (Nat.le_of_ble_eq_true rfl) rfl rfl (Nat.le_of_ble_eq_true rfl) rfl c_refuse0 (fun r h1 hq => ?_)
    obtain ⟨rfl, rfl⟩ := hq
    refine XW.eqs (h' := HP (rfZ Z 0)) rfl rfl rfl ?_
    refine XW.eqs (st' := [.int (-2)]) rfl rfl rfl ?_
    exact XW.iret dX3_light_14 rfl (⟨rfl, rfl⟩)
set_option maxHeartbeats 400000 in
set_option maxRecDepth 100000 in
theorem t_light_ok {Z : xZ} {c l st len : Nat} {kp : Nat → Nat} (ci : CI Z c l st len kp) (x : Int32) {i : Nat} (hx : x = nI i) (ic : i < c) (e1 : isC x (Z.1 1 0) = true) : XC mX3_light 8 0 0 [.ref 0, .int x] (HP Z) (fun r h' => r = some (.int (lightC (Z.2.1 2) (3 * i)).toInt32) ∧ h' = HP Z) := by
  show XW mX3_light 8 0 0 0 [some (.ref 0), some (.int x)] [] (HP Z) _
  obtain ⟨hc, c20, hl, l8, ok, hf, hdi, hfb, hst, st5, hk, hlen, l120⟩ := id ci
  refine XW.aload_n 1 dX3_light_0 rfl rfl ?_
  refine XW.iload_n 2 dX3_light_1 rfl rfl ?_
  refine XW.callV 5 (vs := [.int x]) (rest := []) (mcr := 0) (msr := 0) c3_56 dX3_light_2 rfl rfl (by decide) (Nat.le_of_ble_eq_true rfl) rfl rfl (Nat.le_of_ble_eq_true rfl) rfl (c_isColour _) (fun r h1 hq => ?_)
  obtain ⟨rfl, rfl⟩ := hq
  refine XW.if_neB 15 8 dX3_light_5 (by decide) rfl (fun c_5 => ?_) (fun c_5 => ?_)
  · refine XW.aload_n 16 dX3_light_15 rfl rfl ?_
    refine XW.getf 19 (v := .ref 1) f3_10 dX3_light_16 rfl rfl rfl ?_
    refine XW.iload_n 20 dX3_light_19 rfl rfl ?_
    refine XW.callV 23 (vs := [.int x]) (rest := []) (mcr := 0) (msr := 0) c3_109 dX3_light_20 rfl rfl (by decide) (Nat.le_of_ble_eq_true rfl) rfl rfl (Nat.le_of_ble_eq_true rfl) rfl (c_lightOf (i := i) hx (by omega) ok) (fun r h1 hq => ?_)
    obtain ⟨rfl, rfl⟩ := hq
    refine XW.callS 26 (vs := [.float (lightC (Z.2.1 2) (3 * i))]) (rest := []) (mcr := 0) (msr := 0) c3_113 dX3_light_23 rfl (by decide) (Nat.le_of_ble_eq_true rfl) rfl rfl (Nat.le_of_ble_eq_true rfl) rfl (c_bitsOf _ _ (okB_light ok (by omega))) (fun r h1 hq => ?_)
    obtain ⟨rfl, rfl⟩ := hq
    exact XW.iret dX3_light_26 rfl (⟨rfl, rfl⟩)
  · rw [e1] at c_5; cases c_5
set_option maxHeartbeats 400000 in
set_option maxRecDepth 100000 in
theorem t_seen_bad {Z : xZ} {c l st len : Nat} {kp : Nat → Nat} (ci : CI Z c l st len kp) (x y z : Int32) (e : (inF x 0 3 && (isC y (Z.1 1 0) && inF z 0 2)) = false) : XC mX3_seen 8 0 0 [.ref 0, .int x, .int y, .int z] (HP Z) (fun r h' => r = some (.int (-2)) ∧ h' = HP (rfZ Z 0)) := by
  show XW mX3_seen 8 0 0 0 [some (.ref 0), some (.int x), some (.int y), some (.int z)] [] (HP Z) _
  obtain ⟨hc, c20, hl, l8, ok, hf, hdi, hfb, hst, st5, hk, hlen, l120⟩ := id ci
  refine XW.iload_n 1 dX3_seen_0 rfl rfl ?_
  refine XW.callS 4 (vs := [.int x]) (rest := []) (mcr := 0) (msr := 0) c3_74 dX3_seen_1 rfl (by decide) (Nat.le_of_ble_eq_true rfl) rfl rfl (Nat.le_of_ble_eq_true rfl) rfl (c_isEye _ _) (fun r h1 hq => ?_)
  obtain ⟨rfl, rfl⟩ := hq
  refine XW.if_eqB 24 7 dX3_seen_4 (by decide) rfl (fun c_4 => ?_) (fun c_4 => ?_)
  · refine XW.aload_n 25 dX3_seen_24 rfl rfl ?_
    refine XW.bipush 27 dX3_seen_25 (v := -2) (by decide) rfl ?_
    refine XW.callV 30 (vs := [.int (-2)]) (rest := []) (mcr := 0) (msr := 0) c3_46 dX3_seen_27 rfl rfl (by decide) (Nat.le_of_ble_eq_true rfl) rfl rfl (Nat.le_of_ble_eq_true rfl) rfl c_refuse0 (fun r h1 hq => ?_)
    obtain ⟨rfl, rfl⟩ := hq
    refine XW.eqs (h' := HP (rfZ Z 0)) rfl rfl rfl ?_
    refine XW.eqs (st' := [.int (-2)]) rfl rfl rfl ?_
    exact XW.iret dX3_seen_30 rfl (⟨rfl, rfl⟩)
  · refine XW.aload_n 8 dX3_seen_7 rfl rfl ?_
    refine XW.iload_n 9 dX3_seen_8 rfl rfl ?_
    refine XW.callV 12 (vs := [.int y]) (rest := []) (mcr := 0) (msr := 0) c3_56 dX3_seen_9 rfl rfl (by decide) (Nat.le_of_ble_eq_true rfl) rfl rfl (Nat.le_of_ble_eq_true rfl) rfl (c_isColour _) (fun r h1 hq => ?_)
    obtain ⟨rfl, rfl⟩ := hq
    refine XW.if_eqB 24 15 dX3_seen_12 (by decide) rfl (fun c_12 => ?_) (fun c_12 => ?_)
    · refine XW.aload_n 25 dX3_seen_24 rfl rfl ?_
      refine XW.bipush 27 dX3_seen_25 (v := -2) (by decide) rfl ?_
      refine XW.callV 30 (vs := [.int (-2)]) (rest := []) (mcr := 0) (msr := 0) c3_46 dX3_seen_27 rfl rfl (by decide) (Nat.le_of_ble_eq_true rfl) rfl rfl (Nat.le_of_ble_eq_true rfl) rfl c_refuse0 (fun r h1 hq => ?_)
      obtain ⟨rfl, rfl⟩ := hq
      refine XW.eqs (h' := HP (rfZ Z 0)) rfl rfl rfl ?_
      refine XW.eqs (st' := [.int (-2)]) rfl rfl rfl ?_
      exact XW.iret dX3_seen_30 rfl (⟨rfl, rfl⟩)
    · refine XW.iload_n 16 dX3_seen_15 rfl rfl ?_
      refine XW.iconst 17 dX3_seen_16 (v := 0) (by decide) rfl ?_
      refine XW.iconst 18 dX3_seen_17 (v := 2) (by decide) rfl ?_
      refine XW.callS 21 (vs := [.int z, .int 0, .int 2]) (rest := []) (mcr := 0) (msr := 0) c3_97 dX3_seen_18 rfl (by decide) (Nat.le_of_ble_eq_true rfl) rfl rfl (Nat.le_of_ble_eq_true rfl) rfl (c_isWithin _ _ _ _) (fun r h1 hq => ?_)
      obtain ⟨rfl, rfl⟩ := hq
      refine XW.if_neB 31 24 dX3_seen_21 (by decide) rfl (fun c_21 => ?_) (fun c_21 => ?_)
      · exact absurd e (by rw [c_4, c_12, c_21]; decide)
      · refine XW.aload_n 25 dX3_seen_24 rfl rfl ?_
        refine XW.bipush 27 dX3_seen_25 (v := -2) (by decide) rfl ?_
        refine XW.callV 30 (vs := [.int (-2)]) (rest := []) (mcr := 0) (msr := 0) c3_46 dX3_seen_27 rfl rfl (by decide) (Nat.le_of_ble_eq_true rfl) rfl rfl (Nat.le_of_ble_eq_true rfl) rfl c_refuse0 (fun r h1 hq => ?_)
        obtain ⟨rfl, rfl⟩ := hq
        refine XW.eqs (h' := HP (rfZ Z 0)) rfl rfl rfl ?_
        refine XW.eqs (st' := [.int (-2)]) rfl rfl rfl ?_
        exact XW.iret dX3_seen_30 rfl (⟨rfl, rfl⟩)
set_option maxHeartbeats 400000 in
set_option maxRecDepth 100000 in
theorem t_seen_ok {Z : xZ} {c l st len : Nat} {kp : Nat → Nat} (ci : CI Z c l st len kp) (x y z : Int32) {e i k : Nat} (hx : x = nI e) (hy : y = nI i) (hz : z = nI k) (e4 : e < 4) (ic : i < c) (k3 : k < 3) (e1 : inF x 0 3 = true) (e2 : isC y (Z.1 1 0) = true) (e3 : inF z 0 2 = true) : XC mX3_seen 8 0 0 [.ref 0, .int x, .int y, .int z] (HP Z) (fun r h' => r = some (.int (sawF (Z.2.1 4) (Z.2.1 2) e i k).toInt32) ∧ h' = HP Z) := by
  show XW mX3_seen 8 0 0 0 [some (.ref 0), some (.int x), some (.int y), some (.int z)] [] (HP Z) _
  obtain ⟨hc, c20, hl, l8, ok, hf, hdi, hfb, hst, st5, hk, hlen, l120⟩ := id ci
  refine XW.iload_n 1 dX3_seen_0 rfl rfl ?_
  refine XW.callS 4 (vs := [.int x]) (rest := []) (mcr := 0) (msr := 0) c3_74 dX3_seen_1 rfl (by decide) (Nat.le_of_ble_eq_true rfl) rfl rfl (Nat.le_of_ble_eq_true rfl) rfl (c_isEye _ _) (fun r h1 hq => ?_)
  obtain ⟨rfl, rfl⟩ := hq
  refine XW.if_eqB 24 7 dX3_seen_4 (by decide) rfl (fun c_4 => ?_) (fun c_4 => ?_)
  · rw [e1] at c_4; cases c_4
  · refine XW.aload_n 8 dX3_seen_7 rfl rfl ?_
    refine XW.iload_n 9 dX3_seen_8 rfl rfl ?_
    refine XW.callV 12 (vs := [.int y]) (rest := []) (mcr := 0) (msr := 0) c3_56 dX3_seen_9 rfl rfl (by decide) (Nat.le_of_ble_eq_true rfl) rfl rfl (Nat.le_of_ble_eq_true rfl) rfl (c_isColour _) (fun r h1 hq => ?_)
    obtain ⟨rfl, rfl⟩ := hq
    refine XW.if_eqB 24 15 dX3_seen_12 (by decide) rfl (fun c_12 => ?_) (fun c_12 => ?_)
    · rw [e2] at c_12; cases c_12
    · refine XW.iload_n 16 dX3_seen_15 rfl rfl ?_
      refine XW.iconst 17 dX3_seen_16 (v := 0) (by decide) rfl ?_
      refine XW.iconst 18 dX3_seen_17 (v := 2) (by decide) rfl ?_
      refine XW.callS 21 (vs := [.int z, .int 0, .int 2]) (rest := []) (mcr := 0) (msr := 0) c3_97 dX3_seen_18 rfl (by decide) (Nat.le_of_ble_eq_true rfl) rfl rfl (Nat.le_of_ble_eq_true rfl) rfl (c_isWithin _ _ _ _) (fun r h1 hq => ?_)
      obtain ⟨rfl, rfl⟩ := hq
      refine XW.if_neB 31 24 dX3_seen_21 (by decide) rfl (fun c_21 => ?_) (fun c_21 => ?_)
      · refine XW.aload_n 32 dX3_seen_31 rfl rfl ?_
        refine XW.getf 35 (v := .ref 1) f3_10 dX3_seen_32 rfl rfl rfl ?_
        refine XW.iload_n 36 dX3_seen_35 rfl rfl ?_
        refine XW.iload_n 37 dX3_seen_36 rfl rfl ?_
        refine XW.iload_n 38 dX3_seen_37 rfl rfl ?_
        refine XW.callV 41 (vs := [.int x, .int y, .int z]) (rest := []) (mcr := 0) (msr := 0) c3_117 dX3_seen_38 rfl rfl (by decide) (Nat.le_of_ble_eq_true rfl) rfl rfl (Nat.le_of_ble_eq_true rfl) rfl (c_minusZero (e := e) (i := i) (k := k) hx hy hz (by omega) (by omega) (by omega)) (fun r h1 hq => ?_)
        obtain ⟨rfl, rfl⟩ := hq
        refine XW.if_eqB 49 44 dX3_seen_41 (by decide) rfl (fun c_41 => ?_) (fun c_41 => ?_)
        · refine XW.aload_n 50 dX3_seen_49 rfl rfl ?_
          refine XW.getf 53 (v := .ref 1) f3_10 dX3_seen_50 rfl rfl rfl ?_
          refine XW.iload_n 54 dX3_seen_53 rfl rfl ?_
          refine XW.iload_n 55 dX3_seen_54 rfl rfl ?_
          refine XW.iload_n 56 dX3_seen_55 rfl rfl ?_
          refine XW.callV 59 (vs := [.int x, .int y, .int z]) (rest := []) (mcr := 0) (msr := 0) c3_121 dX3_seen_56 rfl rfl (by decide) (Nat.le_of_ble_eq_true rfl) rfl rfl (Nat.le_of_ble_eq_true rfl) rfl (c_seenBy (e := e) (i := i) (k := k) hx hy hz (by omega) (by omega) (by omega) ok) (fun r h1 hq => ?_)
          obtain ⟨rfl, rfl⟩ := hq
          refine XW.callS 62 (vs := [.float (sawF (Z.2.1 4) (Z.2.1 2) e i k)]) (rest := []) (mcr := 0) (msr := 0) c3_113 dX3_seen_59 rfl (by decide) (Nat.le_of_ble_eq_true rfl) rfl rfl (Nat.le_of_ble_eq_true rfl) rfl (c_bitsOf _ _ ((okB_saw ok (by omega) (by omega) (by omega)).1 c_41)) (fun r h1 hq => ?_)
          obtain ⟨rfl, rfl⟩ := hq
          exact XW.iret dX3_seen_62 rfl (⟨rfl, rfl⟩)
        · refine XW.ldci 46 k3_120 dX3_seen_44 rfl ?_
          refine XW.goto 62 dX3_seen_46 (by decide) ?_
          exact XW.iret dX3_seen_62 rfl (⟨pE (by rw [(okB_saw ok (by omega) (by omega) (by omega)).2 c_41]; decide), rfl⟩)
      · rw [e3] at c_21; cases c_21
set_option maxHeartbeats 400000 in
set_option maxRecDepth 100000 in
theorem t_distance_bad {Z : xZ} {c l st len : Nat} {kp : Nat → Nat} (ci : CI Z c l st len kp) (x y z : Int32) (e : (inF x 0 3 && (isC y (Z.1 1 0) && isC z (Z.1 1 0))) = false) : XC mX3_distance 8 0 0 [.ref 0, .int x, .int y, .int z] (HP Z) (fun r h' => r = some (.int (-2)) ∧ h' = HP (rfZ Z 0)) := by
  show XW mX3_distance 8 0 0 0 [some (.ref 0), some (.int x), some (.int y), some (.int z)] [] (HP Z) _
  obtain ⟨hc, c20, hl, l8, ok, hf, hdi, hfb, hst, st5, hk, hlen, l120⟩ := id ci
  refine XW.iload_n 1 dX3_distance_0 rfl rfl ?_
  refine XW.callS 4 (vs := [.int x]) (rest := []) (mcr := 0) (msr := 0) c3_74 dX3_distance_1 rfl (by decide) (Nat.le_of_ble_eq_true rfl) rfl rfl (Nat.le_of_ble_eq_true rfl) rfl (c_isEye _ _) (fun r h1 hq => ?_)
  obtain ⟨rfl, rfl⟩ := hq
  refine XW.if_eqB 23 7 dX3_distance_4 (by decide) rfl (fun c_4 => ?_) (fun c_4 => ?_)
  · refine XW.aload_n 24 dX3_distance_23 rfl rfl ?_
    refine XW.bipush 26 dX3_distance_24 (v := -2) (by decide) rfl ?_
    refine XW.callV 29 (vs := [.int (-2)]) (rest := []) (mcr := 0) (msr := 0) c3_46 dX3_distance_26 rfl rfl (by decide) (Nat.le_of_ble_eq_true rfl) rfl rfl (Nat.le_of_ble_eq_true rfl) rfl c_refuse0 (fun r h1 hq => ?_)
    obtain ⟨rfl, rfl⟩ := hq
    refine XW.eqs (h' := HP (rfZ Z 0)) rfl rfl rfl ?_
    refine XW.eqs (st' := [.int (-2)]) rfl rfl rfl ?_
    exact XW.iret dX3_distance_29 rfl (⟨rfl, rfl⟩)
  · refine XW.aload_n 8 dX3_distance_7 rfl rfl ?_
    refine XW.iload_n 9 dX3_distance_8 rfl rfl ?_
    refine XW.callV 12 (vs := [.int y]) (rest := []) (mcr := 0) (msr := 0) c3_56 dX3_distance_9 rfl rfl (by decide) (Nat.le_of_ble_eq_true rfl) rfl rfl (Nat.le_of_ble_eq_true rfl) rfl (c_isColour _) (fun r h1 hq => ?_)
    obtain ⟨rfl, rfl⟩ := hq
    refine XW.if_eqB 23 15 dX3_distance_12 (by decide) rfl (fun c_12 => ?_) (fun c_12 => ?_)
    · refine XW.aload_n 24 dX3_distance_23 rfl rfl ?_
      refine XW.bipush 26 dX3_distance_24 (v := -2) (by decide) rfl ?_
      refine XW.callV 29 (vs := [.int (-2)]) (rest := []) (mcr := 0) (msr := 0) c3_46 dX3_distance_26 rfl rfl (by decide) (Nat.le_of_ble_eq_true rfl) rfl rfl (Nat.le_of_ble_eq_true rfl) rfl c_refuse0 (fun r h1 hq => ?_)
      obtain ⟨rfl, rfl⟩ := hq
      refine XW.eqs (h' := HP (rfZ Z 0)) rfl rfl rfl ?_
      refine XW.eqs (st' := [.int (-2)]) rfl rfl rfl ?_
      exact XW.iret dX3_distance_29 rfl (⟨rfl, rfl⟩)
    · refine XW.aload_n 16 dX3_distance_15 rfl rfl ?_
      refine XW.iload_n 17 dX3_distance_16 rfl rfl ?_
      refine XW.callV 20 (vs := [.int z]) (rest := []) (mcr := 0) (msr := 0) c3_56 dX3_distance_17 rfl rfl (by decide) (Nat.le_of_ble_eq_true rfl) rfl rfl (Nat.le_of_ble_eq_true rfl) rfl (c_isColour _) (fun r h1 hq => ?_)
      obtain ⟨rfl, rfl⟩ := hq
      refine XW.if_neB 30 23 dX3_distance_20 (by decide) rfl (fun c_20 => ?_) (fun c_20 => ?_)
      · exact absurd e (by rw [c_4, c_12, c_20]; decide)
      · refine XW.aload_n 24 dX3_distance_23 rfl rfl ?_
        refine XW.bipush 26 dX3_distance_24 (v := -2) (by decide) rfl ?_
        refine XW.callV 29 (vs := [.int (-2)]) (rest := []) (mcr := 0) (msr := 0) c3_46 dX3_distance_26 rfl rfl (by decide) (Nat.le_of_ble_eq_true rfl) rfl rfl (Nat.le_of_ble_eq_true rfl) rfl c_refuse0 (fun r h1 hq => ?_)
        obtain ⟨rfl, rfl⟩ := hq
        refine XW.eqs (h' := HP (rfZ Z 0)) rfl rfl rfl ?_
        refine XW.eqs (st' := [.int (-2)]) rfl rfl rfl ?_
        exact XW.iret dX3_distance_29 rfl (⟨rfl, rfl⟩)
set_option maxHeartbeats 400000 in
set_option maxRecDepth 100000 in
theorem t_distance_ok {Z : xZ} {c l st len : Nat} {kp : Nat → Nat} (ci : CI Z c l st len kp) (x y z : Int32) {e i j : Nat} (hx : x = nI e) (hy : y = nI i) (hz : z = nI j) (e4 : e < 4) (ic : i < c) (jc : j < c) (e1 : inF x 0 3 = true) (e2 : isC y (Z.1 1 0) = true) (e3 : isC z (Z.1 1 0) = true) : XC mX3_distance 8 0 0 [.ref 0, .int x, .int y, .int z] (HP Z) (fun r h' => r = some (.int (distF (Z.2.1 4) (Z.2.1 2) e i j).toInt32) ∧ h' = HP Z) := by
  show XW mX3_distance 8 0 0 0 [some (.ref 0), some (.int x), some (.int y), some (.int z)] [] (HP Z) _
  obtain ⟨hc, c20, hl, l8, ok, hf, hdi, hfb, hst, st5, hk, hlen, l120⟩ := id ci
  refine XW.iload_n 1 dX3_distance_0 rfl rfl ?_
  refine XW.callS 4 (vs := [.int x]) (rest := []) (mcr := 0) (msr := 0) c3_74 dX3_distance_1 rfl (by decide) (Nat.le_of_ble_eq_true rfl) rfl rfl (Nat.le_of_ble_eq_true rfl) rfl (c_isEye _ _) (fun r h1 hq => ?_)
  obtain ⟨rfl, rfl⟩ := hq
  refine XW.if_eqB 23 7 dX3_distance_4 (by decide) rfl (fun c_4 => ?_) (fun c_4 => ?_)
  · rw [e1] at c_4; cases c_4
  · refine XW.aload_n 8 dX3_distance_7 rfl rfl ?_
    refine XW.iload_n 9 dX3_distance_8 rfl rfl ?_
    refine XW.callV 12 (vs := [.int y]) (rest := []) (mcr := 0) (msr := 0) c3_56 dX3_distance_9 rfl rfl (by decide) (Nat.le_of_ble_eq_true rfl) rfl rfl (Nat.le_of_ble_eq_true rfl) rfl (c_isColour _) (fun r h1 hq => ?_)
    obtain ⟨rfl, rfl⟩ := hq
    refine XW.if_eqB 23 15 dX3_distance_12 (by decide) rfl (fun c_12 => ?_) (fun c_12 => ?_)
    · rw [e2] at c_12; cases c_12
    · refine XW.aload_n 16 dX3_distance_15 rfl rfl ?_
      refine XW.iload_n 17 dX3_distance_16 rfl rfl ?_
      refine XW.callV 20 (vs := [.int z]) (rest := []) (mcr := 0) (msr := 0) c3_56 dX3_distance_17 rfl rfl (by decide) (Nat.le_of_ble_eq_true rfl) rfl rfl (Nat.le_of_ble_eq_true rfl) rfl (c_isColour _) (fun r h1 hq => ?_)
      obtain ⟨rfl, rfl⟩ := hq
      refine XW.if_neB 30 23 dX3_distance_20 (by decide) rfl (fun c_20 => ?_) (fun c_20 => ?_)
      · refine XW.aload_n 31 dX3_distance_30 rfl rfl ?_
        refine XW.getf 34 (v := .ref 1) f3_10 dX3_distance_31 rfl rfl rfl ?_
        refine XW.iload_n 35 dX3_distance_34 rfl rfl ?_
        refine XW.iload_n 36 dX3_distance_35 rfl rfl ?_
        refine XW.iload_n 37 dX3_distance_36 rfl rfl ?_
        refine XW.callV 40 (vs := [.int x, .int y, .int z]) (rest := []) (mcr := 0) (msr := 0) c3_125 dX3_distance_37 rfl rfl (by decide) (Nat.le_of_ble_eq_true rfl) rfl rfl (Nat.le_of_ble_eq_true rfl) rfl (c_distanceFor (e := e) (i := i) (j := j) hx hy hz (by omega) (by omega) (by omega) ok) (fun r h1 hq => ?_)
        obtain ⟨rfl, rfl⟩ := hq
        refine XW.callS 43 (vs := [.float (distF (Z.2.1 4) (Z.2.1 2) e i j)]) (rest := []) (mcr := 0) (msr := 0) c3_113 dX3_distance_40 rfl (by decide) (Nat.le_of_ble_eq_true rfl) rfl rfl (Nat.le_of_ble_eq_true rfl) rfl (c_bitsOf _ _ (okB_dist ok (by omega) (by omega) (by omega))) (fun r h1 hq => ?_)
        obtain ⟨rfl, rfl⟩ := hq
        exact XW.iret dX3_distance_43 rfl (⟨rfl, rfl⟩)
      · rw [e3] at c_20; cases c_20
set_option maxHeartbeats 400000 in
set_option maxRecDepth 100000 in
theorem t_apart_bad {Z : xZ} {c l st len : Nat} {kp : Nat → Nat} (ci : CI Z c l st len kp) (x y : Int32) (e : (isC x (Z.1 1 0) && isC y (Z.1 1 0)) = false) : XC mX3_apart 8 0 0 [.ref 0, .int x, .int y] (HP Z) (fun r h' => r = some (.int (-2)) ∧ h' = HP (rfZ Z 0)) := by
  show XW mX3_apart 8 0 0 0 [some (.ref 0), some (.int x), some (.int y)] [] (HP Z) _
  obtain ⟨hc, c20, hl, l8, ok, hf, hdi, hfb, hst, st5, hk, hlen, l120⟩ := id ci
  refine XW.aload_n 1 dX3_apart_0 rfl rfl ?_
  refine XW.iload_n 2 dX3_apart_1 rfl rfl ?_
  refine XW.callV 5 (vs := [.int x]) (rest := []) (mcr := 0) (msr := 0) c3_56 dX3_apart_2 rfl rfl (by decide) (Nat.le_of_ble_eq_true rfl) rfl rfl (Nat.le_of_ble_eq_true rfl) rfl (c_isColour _) (fun r h1 hq => ?_)
  obtain ⟨rfl, rfl⟩ := hq
  refine XW.if_eqB 16 8 dX3_apart_5 (by decide) rfl (fun c_5 => ?_) (fun c_5 => ?_)
  · refine XW.aload_n 17 dX3_apart_16 rfl rfl ?_
    refine XW.bipush 19 dX3_apart_17 (v := -2) (by decide) rfl ?_
    refine XW.callV 22 (vs := [.int (-2)]) (rest := []) (mcr := 0) (msr := 0) c3_46 dX3_apart_19 rfl rfl (by decide) (Nat.le_of_ble_eq_true rfl) rfl rfl (Nat.le_of_ble_eq_true rfl) rfl c_refuse0 (fun r h1 hq => ?_)
    obtain ⟨rfl, rfl⟩ := hq
    refine XW.eqs (h' := HP (rfZ Z 0)) rfl rfl rfl ?_
    refine XW.eqs (st' := [.int (-2)]) rfl rfl rfl ?_
    exact XW.iret dX3_apart_22 rfl (⟨rfl, rfl⟩)
  · refine XW.aload_n 9 dX3_apart_8 rfl rfl ?_
    refine XW.iload_n 10 dX3_apart_9 rfl rfl ?_
    refine XW.callV 13 (vs := [.int y]) (rest := []) (mcr := 0) (msr := 0) c3_56 dX3_apart_10 rfl rfl (by decide) (Nat.le_of_ble_eq_true rfl) rfl rfl (Nat.le_of_ble_eq_true rfl) rfl (c_isColour _) (fun r h1 hq => ?_)
    obtain ⟨rfl, rfl⟩ := hq
    refine XW.if_neB 23 16 dX3_apart_13 (by decide) rfl (fun c_13 => ?_) (fun c_13 => ?_)
    · exact absurd e (by rw [c_5, c_13]; decide)
    · refine XW.aload_n 17 dX3_apart_16 rfl rfl ?_
      refine XW.bipush 19 dX3_apart_17 (v := -2) (by decide) rfl ?_
      refine XW.callV 22 (vs := [.int (-2)]) (rest := []) (mcr := 0) (msr := 0) c3_46 dX3_apart_19 rfl rfl (by decide) (Nat.le_of_ble_eq_true rfl) rfl rfl (Nat.le_of_ble_eq_true rfl) rfl c_refuse0 (fun r h1 hq => ?_)
      obtain ⟨rfl, rfl⟩ := hq
      refine XW.eqs (h' := HP (rfZ Z 0)) rfl rfl rfl ?_
      refine XW.eqs (st' := [.int (-2)]) rfl rfl rfl ?_
      exact XW.iret dX3_apart_22 rfl (⟨rfl, rfl⟩)
set_option maxHeartbeats 400000 in
set_option maxRecDepth 100000 in
theorem t_apart_ok {Z : xZ} {c l st len : Nat} {kp : Nat → Nat} (ci : CI Z c l st len kp) (x y : Int32) {i j : Nat} (hx : x = nI i) (hy : y = nI j) (ic : i < c) (jc : j < c) (e1 : isC x (Z.1 1 0) = true) (e2 : isC y (Z.1 1 0) = true) : XC mX3_apart 8 0 0 [.ref 0, .int x, .int y] (HP Z) (fun r h' => r = some (.int (apartF (Z.2.1 4) (Z.2.1 2) i j).toInt32) ∧ h' = HP Z) := by
  show XW mX3_apart 8 0 0 0 [some (.ref 0), some (.int x), some (.int y)] [] (HP Z) _
  obtain ⟨hc, c20, hl, l8, ok, hf, hdi, hfb, hst, st5, hk, hlen, l120⟩ := id ci
  refine XW.aload_n 1 dX3_apart_0 rfl rfl ?_
  refine XW.iload_n 2 dX3_apart_1 rfl rfl ?_
  refine XW.callV 5 (vs := [.int x]) (rest := []) (mcr := 0) (msr := 0) c3_56 dX3_apart_2 rfl rfl (by decide) (Nat.le_of_ble_eq_true rfl) rfl rfl (Nat.le_of_ble_eq_true rfl) rfl (c_isColour _) (fun r h1 hq => ?_)
  obtain ⟨rfl, rfl⟩ := hq
  refine XW.if_eqB 16 8 dX3_apart_5 (by decide) rfl (fun c_5 => ?_) (fun c_5 => ?_)
  · rw [e1] at c_5; cases c_5
  · refine XW.aload_n 9 dX3_apart_8 rfl rfl ?_
    refine XW.iload_n 10 dX3_apart_9 rfl rfl ?_
    refine XW.callV 13 (vs := [.int y]) (rest := []) (mcr := 0) (msr := 0) c3_56 dX3_apart_10 rfl rfl (by decide) (Nat.le_of_ble_eq_true rfl) rfl rfl (Nat.le_of_ble_eq_true rfl) rfl (c_isColour _) (fun r h1 hq => ?_)
    obtain ⟨rfl, rfl⟩ := hq
    refine XW.if_neB 23 16 dX3_apart_13 (by decide) rfl (fun c_13 => ?_) (fun c_13 => ?_)
    · refine XW.aload_n 24 dX3_apart_23 rfl rfl ?_
      refine XW.getf 27 (v := .ref 1) f3_10 dX3_apart_24 rfl rfl rfl ?_
      refine XW.iload_n 28 dX3_apart_27 rfl rfl ?_
      refine XW.iload_n 29 dX3_apart_28 rfl rfl ?_
      refine XW.callV 32 (vs := [.int x, .int y]) (rest := []) (mcr := 0) (msr := 0) c3_128 dX3_apart_29 rfl rfl (by decide) (Nat.le_of_ble_eq_true rfl) rfl rfl (Nat.le_of_ble_eq_true rfl) rfl (c_apartOf (i := i) (j := j) hx hy (by omega) (by omega) ok) (fun r h1 hq => ?_)
      obtain ⟨rfl, rfl⟩ := hq
      refine XW.callS 35 (vs := [.float (apartF (Z.2.1 4) (Z.2.1 2) i j)]) (rest := []) (mcr := 0) (msr := 0) c3_113 dX3_apart_32 rfl (by decide) (Nat.le_of_ble_eq_true rfl) rfl rfl (Nat.le_of_ble_eq_true rfl) rfl (c_bitsOf _ _ (okB_apS ok (by omega) (by omega) 4 (by omega))) (fun r h1 hq => ?_)
      obtain ⟨rfl, rfl⟩ := hq
      exact XW.iret dX3_apart_35 rfl (⟨rfl, rfl⟩)
    · rw [e2] at c_13; cases c_13
set_option maxHeartbeats 400000 in
set_option maxRecDepth 100000 in
theorem t_palette_bad {Z : xZ} {c l st len : Nat} {kp : Nat → Nat} (ci : CI Z c l st len kp) (x : Int32) (e : x < 0) : XC mX3_palette 8 0 0 [.ref 0, .int x] (HP Z) (fun r h' => r = some (.int (-2)) ∧ h' = HP (rfZ Z 0)) := by
  show XW mX3_palette 8 0 0 0 [some (.ref 0), some (.int x)] [] (HP Z) _
  obtain ⟨hc, c20, hl, l8, ok, hf, hdi, hfb, hst, st5, hk, hlen, l120⟩ := id ci
  refine XW.iload_n 1 dX3_palette_0 rfl rfl ?_
  refine XW.if_ge 11 4 dX3_palette_1 (by decide) rfl (fun c_1 => ?_) (fun c_1 => ?_)
  · exact absurd c_1 (Int32.not_le.mpr e)
  · refine XW.aload_n 5 dX3_palette_4 rfl rfl ?_
    refine XW.bipush 7 dX3_palette_5 (v := -2) (by decide) rfl ?_
    refine XW.callV 10 (vs := [.int (-2)]) (rest := []) (mcr := 0) (msr := 0) c3_46 dX3_palette_7 rfl rfl (by decide) (Nat.le_of_ble_eq_true rfl) rfl rfl (Nat.le_of_ble_eq_true rfl) rfl c_refuse0 (fun r h1 hq => ?_)
    obtain ⟨rfl, rfl⟩ := hq
    refine XW.eqs (h' := HP (rfZ Z 0)) rfl rfl rfl ?_
    refine XW.eqs (st' := [.int (-2)]) rfl rfl rfl ?_
    exact XW.iret dX3_palette_10 rfl (⟨rfl, rfl⟩)
set_option maxHeartbeats 400000 in
set_option maxRecDepth 100000 in
theorem t_palette_ok {Z : xZ} {c l st len : Nat} {kp : Nat → Nat} (ci : CI Z c l st len kp) (x : Int32) {i : Nat} (hx : x = nI i) (i31 : i < 2 ^ 31) (e : ¬ x < 0) : XC mX3_palette 8 0 0 [.ref 0, .int x] (HP Z) (fun r h' => r = some (.int (if i < l then Z.2.1 6 i else -1)) ∧ h' = HP Z) := by
  show XW mX3_palette 8 0 0 0 [some (.ref 0), some (.int x)] [] (HP Z) _
  obtain ⟨hc, c20, hl, l8, ok, hf, hdi, hfb, hst, st5, hk, hlen, l120⟩ := id ci
  refine XW.iload_n 1 dX3_palette_0 rfl rfl ?_
  refine XW.if_ge 11 4 dX3_palette_1 (by decide) rfl (fun c_1 => ?_) (fun c_1 => ?_)
  · refine XW.iload_n 12 dX3_palette_11 rfl rfl ?_
    refine XW.aload_n 13 dX3_palette_12 rfl rfl ?_
    refine XW.getf 16 (v := .ref 1) f3_10 dX3_palette_13 rfl rfl rfl ?_
    refine XW.getf 19 (v := .int (Z.1 1 7)) f3_139 dX3_palette_16 rfl rfl rfl ?_
    refine XW.icmp_geN 34 22 i l dX3_palette_19 (by decide) rfl hx hl (by omega) (by omega) (fun c_19 => ?_) (fun c_19 => ?_)
    · refine XW.iconst 35 dX3_palette_34 (v := -1) (by decide) rfl ?_
      exact XW.iret dX3_palette_35 rfl (⟨by rw [if_neg (by omega)], rfl⟩)
    · refine XW.aload_n 23 dX3_palette_22 rfl rfl ?_
      refine XW.getf 26 (v := .ref 1) f3_10 dX3_palette_23 rfl rfl rfl ?_
      refine XW.getf 29 (v := .ref 6) f3_146 dX3_palette_26 rfl rfl rfl ?_
      refine XW.iload_n 30 dX3_palette_29 rfl rfl ?_
      refine XW.iald 31 i dX3_palette_30 rfl hx (by omega) (by decide) rfl ?_
      refine XW.goto 35 dX3_palette_31 (by decide) ?_
      exact XW.iret dX3_palette_35 rfl (⟨by rw [if_pos c_19], rfl⟩)
  · exact absurd (Int32.not_lt.mp e) c_1
set_option maxHeartbeats 400000 in
set_option maxRecDepth 100000 in
theorem t_least {Z : xZ} {c l st len : Nat} {kp : Nat → Nat} (ci : CI Z c l st len kp)  : XC mX3_least 8 0 0 [.ref 0] (HP Z) (fun r h' => r = some (.int (lsV (apG (Z.2.1 4) (Z.2.1 2)) (rv (Z.2.1 6)) l).toInt32) ∧ ∃ G, h' = HP (sF Z 51 G)) := by
  show XW mX3_least 8 0 0 0 [some (.ref 0)] [] (HP Z) _
  obtain ⟨hc, c20, hl, l8, ok, hf, hdi, hfb, hst, st5, hk, hlen, l120⟩ := id ci
  refine XW.aload_n 1 dX3_least_0 rfl rfl ?_
  refine XW.getf 4 (v := .ref 50) f3_38 dX3_least_1 rfl rfl rfl ?_
  refine XW.aload_n 5 dX3_least_4 rfl rfl ?_
  refine XW.getf 8 (v := .ref 1) f3_10 dX3_least_5 rfl rfl rfl ?_
  refine XW.callV 11 (vs := [.ref 1]) (rest := []) (mcr := 0) (msr := 0) c3_149 dX3_least_8 rfl rfl (by decide) (Nat.le_of_ble_eq_true rfl) rfl rfl (Nat.le_of_ble_eq_true rfl) rfl (c_measure hc c20 ok) (fun r h1 hq => ?_)
  obtain ⟨rfl, G, hG, rfl⟩ := hq
  refine XW.aload_n 12 dX3_least_11 rfl rfl ?_
  refine XW.getf 15 (v := .ref 50) f3_38 dX3_least_12 rfl rfl rfl ?_
  refine XW.aload_n 16 dX3_least_15 rfl rfl ?_
  refine XW.getf 19 (v := .ref 1) f3_10 dX3_least_16 rfl rfl rfl ?_
  refine XW.getf 22 (v := .ref 6) f3_146 dX3_least_19 rfl rfl rfl ?_
  refine XW.aload_n 23 dX3_least_22 rfl rfl ?_
  refine XW.getf 26 (v := .ref 1) f3_10 dX3_least_23 rfl rfl rfl ?_
  refine XW.getf 29 (v := .int (Z.1 1 7)) f3_139 dX3_least_26 rfl rfl rfl ?_
  refine XW.callV 32 (vs := [.ref 6, .int (Z.1 1 7)]) (rest := []) (mcr := 0) (msr := 0) c3_153 dX3_least_29 rfl rfl (by decide) (Nat.le_of_ble_eq_true rfl) rfl rfl (Nat.le_of_ble_eq_true rfl) rfl (v_leastOf6 hl l8 c20 hf hdi hG ok) (fun r h1 hq => ?_)
  obtain ⟨rfl, rfl⟩ := hq
  refine XW.eqs (st' := [.float (lsV (apG (Z.2.1 4) (Z.2.1 2)) (rv (Z.2.1 6)) l)]) rfl rfl rfl ?_
  refine XW.callS 35 (vs := [.float (lsV (apG (Z.2.1 4) (Z.2.1 2)) (rv (Z.2.1 6)) l)]) (rest := []) (mcr := 0) (msr := 0) c3_113 dX3_least_32 rfl (by decide) (Nat.le_of_ble_eq_true rfl) rfl rfl (Nat.le_of_ble_eq_true rfl) rfl (c_bitsOf _ _ (okB_ls ok hf c20)) (fun r h1 hq => ?_)
  obtain ⟨rfl, rfl⟩ := hq
  refine XW.eqs (st' := [.int ((lsV (apG (Z.2.1 4) (Z.2.1 2)) (rv (Z.2.1 6)) l).toInt32)]) rfl rfl rfl ?_
  exact XW.iret dX3_least_35 rfl (⟨rfl, G, rfl⟩)
set_option maxHeartbeats 400000 in
set_option maxRecDepth 100000 in
theorem t_nearest {Z : xZ} {c l st len : Nat} {kp : Nat → Nat} (ci : CI Z c l st len kp)  : XC mX3_nearest 8 0 0 [.ref 0] (HP Z) (fun r h' => r = some (.int (npO (apG (Z.2.1 4) (Z.2.1 2)) (rv (Z.2.1 6)) l l).1) ∧ ∃ G, h' = HP (sF Z 51 G)) := by
  show XW mX3_nearest 8 0 0 0 [some (.ref 0)] [] (HP Z) _
  obtain ⟨hc, c20, hl, l8, ok, hf, hdi, hfb, hst, st5, hk, hlen, l120⟩ := id ci
  refine XW.aload_n 1 dX3_nearest_0 rfl rfl ?_
  refine XW.getf 4 (v := .ref 50) f3_38 dX3_nearest_1 rfl rfl rfl ?_
  refine XW.aload_n 5 dX3_nearest_4 rfl rfl ?_
  refine XW.getf 8 (v := .ref 1) f3_10 dX3_nearest_5 rfl rfl rfl ?_
  refine XW.callV 11 (vs := [.ref 1]) (rest := []) (mcr := 0) (msr := 0) c3_149 dX3_nearest_8 rfl rfl (by decide) (Nat.le_of_ble_eq_true rfl) rfl rfl (Nat.le_of_ble_eq_true rfl) rfl (c_measure hc c20 ok) (fun r h1 hq => ?_)
  obtain ⟨rfl, G, hG, rfl⟩ := hq
  refine XW.aload_n 12 dX3_nearest_11 rfl rfl ?_
  refine XW.getf 15 (v := .ref 50) f3_38 dX3_nearest_12 rfl rfl rfl ?_
  refine XW.aload_n 16 dX3_nearest_15 rfl rfl ?_
  refine XW.getf 19 (v := .ref 1) f3_10 dX3_nearest_16 rfl rfl rfl ?_
  refine XW.callV 22 (vs := [.ref 1]) (rest := []) (mcr := 0) (msr := 0) c3_157 dX3_nearest_19 rfl rfl (by decide) (Nat.le_of_ble_eq_true rfl) rfl rfl (Nat.le_of_ble_eq_true rfl) rfl (c_nearest hl l8 c20 hf hdi hG ok) (fun r h1 hq => ?_)
  obtain ⟨rfl, rfl⟩ := hq
  refine XW.eqs (st' := [.int ((npO (apG (Z.2.1 4) (Z.2.1 2)) (rv (Z.2.1 6)) l l).1)]) rfl rfl rfl ?_
  exact XW.iret dX3_nearest_22 rfl (⟨rfl, G, rfl⟩)
set_option maxHeartbeats 400000 in
set_option maxRecDepth 100000 in
theorem t_best_bad {Z : xZ} {c l st len : Nat} {kp : Nat → Nat} (ci : CI Z c l st len kp) (x : Int32) (e : inF x 1 4 = false) : XC mX3_best 8 0 0 [.ref 0, .int x] (HP Z) (fun r h' => r = some (.int (-2)) ∧ h' = HP (rfZ Z 0)) := by
  show XW mX3_best 8 0 0 0 [some (.ref 0), some (.int x)] [] (HP Z) _
  obtain ⟨hc, c20, hl, l8, ok, hf, hdi, hfb, hst, st5, hk, hlen, l120⟩ := id ci
  refine XW.iload_n 1 dX3_best_0 rfl rfl ?_
  refine XW.iconst 2 dX3_best_1 (v := 1) (by decide) rfl ?_
  refine XW.iconst 3 dX3_best_2 (v := 4) (by decide) rfl ?_
  refine XW.callS 6 (vs := [.int x, .int 1, .int 4]) (rest := []) (mcr := 0) (msr := 0) c3_97 dX3_best_3 rfl (by decide) (Nat.le_of_ble_eq_true rfl) rfl rfl (Nat.le_of_ble_eq_true rfl) rfl (c_isWithin _ _ _ _) (fun r h1 hq => ?_)
  obtain ⟨rfl, rfl⟩ := hq
  refine XW.if_neB 16 9 dX3_best_6 (by decide) rfl (fun c_6 => ?_) (fun c_6 => ?_)
  · rw [e] at c_6; cases c_6
  · refine XW.aload_n 10 dX3_best_9 rfl rfl ?_
    refine XW.bipush 12 dX3_best_10 (v := -2) (by decide) rfl ?_
    refine XW.callV 15 (vs := [.int (-2)]) (rest := []) (mcr := 0) (msr := 0) c3_46 dX3_best_12 rfl rfl (by decide) (Nat.le_of_ble_eq_true rfl) rfl rfl (Nat.le_of_ble_eq_true rfl) rfl c_refuse0 (fun r h1 hq => ?_)
    obtain ⟨rfl, rfl⟩ := hq
    refine XW.eqs (h' := HP (rfZ Z 0)) rfl rfl rfl ?_
    refine XW.eqs (st' := [.int (-2)]) rfl rfl rfl ?_
    exact XW.iret dX3_best_15 rfl (⟨rfl, rfl⟩)
set_option maxHeartbeats 400000 in
set_option maxRecDepth 100000 in
theorem t_best_ok {Z : xZ} {c l st len : Nat} {kp : Nat → Nat} (ci : CI Z c l st len kp) (x : Int32) (e : inF x 1 4 = true) : XC mX3_best 8 0 0 [.ref 0, .int x] (HP Z) (fun r h' => r = some (.int (bsF (apG (Z.2.1 4) (Z.2.1 2)) (fbF (Z.2.1 2) (Z.2.1 3) (Z.2.1 5) c ||| Z.1 1 5) (Z.1 1 5) (1 <<< (Z.1 1 0 &&& 31)) 4845 (-1) FP.fconst0 ((1 <<< (x &&& 31)) - 1))) ∧ ∃ G mem, h' = HP (sA (sF Z 51 G) 52 mem)) := by
  show XW mX3_best 8 0 0 0 [some (.ref 0), some (.int x)] [] (HP Z) _
  obtain ⟨hc, c20, hl, l8, ok, hf, hdi, hfb, hst, st5, hk, hlen, l120⟩ := id ci
  refine XW.iload_n 1 dX3_best_0 rfl rfl ?_
  refine XW.iconst 2 dX3_best_1 (v := 1) (by decide) rfl ?_
  refine XW.iconst 3 dX3_best_2 (v := 4) (by decide) rfl ?_
  refine XW.callS 6 (vs := [.int x, .int 1, .int 4]) (rest := []) (mcr := 0) (msr := 0) c3_97 dX3_best_3 rfl (by decide) (Nat.le_of_ble_eq_true rfl) rfl rfl (Nat.le_of_ble_eq_true rfl) rfl (c_isWithin _ _ _ _) (fun r h1 hq => ?_)
  obtain ⟨rfl, rfl⟩ := hq
  refine XW.if_neB 16 9 dX3_best_6 (by decide) rfl (fun c_6 => ?_) (fun c_6 => ?_)
  · refine XW.aload_n 17 dX3_best_16 rfl rfl ?_
    refine XW.getf 20 (v := .ref 50) f3_38 dX3_best_17 rfl rfl rfl ?_
    refine XW.aload_n 21 dX3_best_20 rfl rfl ?_
    refine XW.getf 24 (v := .ref 1) f3_10 dX3_best_21 rfl rfl rfl ?_
    refine XW.iload_n 25 dX3_best_24 rfl rfl ?_
    refine XW.callV 28 (vs := [.ref 1, .int x]) (rest := []) (mcr := 0) (msr := 0) c3_160 dX3_best_25 rfl rfl (by decide) (Nat.le_of_ble_eq_true rfl) rfl rfl (Nat.le_of_ble_eq_true rfl) rfl (c_bestSet (xn := x) hc c20 hfb ok) (fun r h1 hq => ?_)
    obtain ⟨rfl, G, mem, hG, rfl⟩ := hq
    refine XW.eqs (st' := [.int (bsF (apG (Z.2.1 4) (Z.2.1 2)) (fbF (Z.2.1 2) (Z.2.1 3) (Z.2.1 5) c ||| Z.1 1 5) (Z.1 1 5) (1 <<< (Z.1 1 0 &&& 31)) 4845 (-1) FP.fconst0 ((1 <<< (x &&& 31)) - 1))]) rfl rfl rfl ?_
    exact XW.iret dX3_best_28 rfl (⟨rfl, G, mem, rfl⟩)
  · rw [e] at c_6; cases c_6
set_option maxHeartbeats 400000 in
set_option maxRecDepth 100000 in
theorem t_mistaken_bad {Z : xZ} {c l st len : Nat} {kp : Nat → Nat} (ci : CI Z c l st len kp) (x y : Int32) (e : (inF x 0 3 && inF y 0 9999) = false) : XC mX3_mistaken 8 0 0 [.ref 0, .int x, .int y] (HP Z) (fun r h' => r = some (.int (-2)) ∧ h' = HP (rfZ Z 0)) := by
  show XW mX3_mistaken 8 0 0 0 [some (.ref 0), some (.int x), some (.int y)] [] (HP Z) _
  obtain ⟨hc, c20, hl, l8, ok, hf, hdi, hfb, hst, st5, hk, hlen, l120⟩ := id ci
  refine XW.iload_n 1 dX3_mistaken_0 rfl rfl ?_
  refine XW.callS 4 (vs := [.int x]) (rest := []) (mcr := 0) (msr := 0) c3_74 dX3_mistaken_1 rfl (by decide) (Nat.le_of_ble_eq_true rfl) rfl rfl (Nat.le_of_ble_eq_true rfl) rfl (c_isEye _ _) (fun r h1 hq => ?_)
  obtain ⟨rfl, rfl⟩ := hq
  refine XW.if_eqB 18 7 dX3_mistaken_4 (by decide) rfl (fun c_4 => ?_) (fun c_4 => ?_)
  · refine XW.aload_n 19 dX3_mistaken_18 rfl rfl ?_
    refine XW.bipush 21 dX3_mistaken_19 (v := -2) (by decide) rfl ?_
    refine XW.callV 24 (vs := [.int (-2)]) (rest := []) (mcr := 0) (msr := 0) c3_46 dX3_mistaken_21 rfl rfl (by decide) (Nat.le_of_ble_eq_true rfl) rfl rfl (Nat.le_of_ble_eq_true rfl) rfl c_refuse0 (fun r h1 hq => ?_)
    obtain ⟨rfl, rfl⟩ := hq
    refine XW.eqs (h' := HP (rfZ Z 0)) rfl rfl rfl ?_
    refine XW.eqs (st' := [.int (-2)]) rfl rfl rfl ?_
    exact XW.iret dX3_mistaken_24 rfl (⟨rfl, rfl⟩)
  · refine XW.iload_n 8 dX3_mistaken_7 rfl rfl ?_
    refine XW.iconst 9 dX3_mistaken_8 (v := 0) (by decide) rfl ?_
    refine XW.sipush 12 dX3_mistaken_9 (v := 9999) (by decide) rfl ?_
    refine XW.callS 15 (vs := [.int y, .int 0, .int 9999]) (rest := []) (mcr := 0) (msr := 0) c3_97 dX3_mistaken_12 rfl (by decide) (Nat.le_of_ble_eq_true rfl) rfl rfl (Nat.le_of_ble_eq_true rfl) rfl (c_isWithin _ _ _ _) (fun r h1 hq => ?_)
    obtain ⟨rfl, rfl⟩ := hq
    refine XW.if_neB 25 18 dX3_mistaken_15 (by decide) rfl (fun c_15 => ?_) (fun c_15 => ?_)
    · exact absurd e (by rw [c_4, c_15]; decide)
    · refine XW.aload_n 19 dX3_mistaken_18 rfl rfl ?_
      refine XW.bipush 21 dX3_mistaken_19 (v := -2) (by decide) rfl ?_
      refine XW.callV 24 (vs := [.int (-2)]) (rest := []) (mcr := 0) (msr := 0) c3_46 dX3_mistaken_21 rfl rfl (by decide) (Nat.le_of_ble_eq_true rfl) rfl rfl (Nat.le_of_ble_eq_true rfl) rfl c_refuse0 (fun r h1 hq => ?_)
      obtain ⟨rfl, rfl⟩ := hq
      refine XW.eqs (h' := HP (rfZ Z 0)) rfl rfl rfl ?_
      refine XW.eqs (st' := [.int (-2)]) rfl rfl rfl ?_
      exact XW.iret dX3_mistaken_24 rfl (⟨rfl, rfl⟩)
set_option maxHeartbeats 400000 in
set_option maxRecDepth 100000 in
theorem t_mistaken_ok {Z : xZ} {c l st len : Nat} {kp : Nat → Nat} (ci : CI Z c l st len kp) (x y : Int32) {e : Nat} (hx : x = nI e) (e4 : e < 4) (e1 : inF x 0 3 = true) (e2 : inF y 0 9999 = true) : XC mX3_mistaken 8 0 0 [.ref 0, .int x, .int y] (HP Z) (fun r h' => r = some (.int (pbO (fun a b => distF (Z.2.1 4) (Z.2.1 2) e (rv (Z.2.1 6) a) (rv (Z.2.1 6) b)) (FP.i2f y) l l)) ∧ h' = HP Z) := by
  show XW mX3_mistaken 8 0 0 0 [some (.ref 0), some (.int x), some (.int y)] [] (HP Z) _
  obtain ⟨hc, c20, hl, l8, ok, hf, hdi, hfb, hst, st5, hk, hlen, l120⟩ := id ci
  refine XW.iload_n 1 dX3_mistaken_0 rfl rfl ?_
  refine XW.callS 4 (vs := [.int x]) (rest := []) (mcr := 0) (msr := 0) c3_74 dX3_mistaken_1 rfl (by decide) (Nat.le_of_ble_eq_true rfl) rfl rfl (Nat.le_of_ble_eq_true rfl) rfl (c_isEye _ _) (fun r h1 hq => ?_)
  obtain ⟨rfl, rfl⟩ := hq
  refine XW.if_eqB 18 7 dX3_mistaken_4 (by decide) rfl (fun c_4 => ?_) (fun c_4 => ?_)
  · rw [e1] at c_4; cases c_4
  · refine XW.iload_n 8 dX3_mistaken_7 rfl rfl ?_
    refine XW.iconst 9 dX3_mistaken_8 (v := 0) (by decide) rfl ?_
    refine XW.sipush 12 dX3_mistaken_9 (v := 9999) (by decide) rfl ?_
    refine XW.callS 15 (vs := [.int y, .int 0, .int 9999]) (rest := []) (mcr := 0) (msr := 0) c3_97 dX3_mistaken_12 rfl (by decide) (Nat.le_of_ble_eq_true rfl) rfl rfl (Nat.le_of_ble_eq_true rfl) rfl (c_isWithin _ _ _ _) (fun r h1 hq => ?_)
    obtain ⟨rfl, rfl⟩ := hq
    refine XW.if_neB 25 18 dX3_mistaken_15 (by decide) rfl (fun c_15 => ?_) (fun c_15 => ?_)
    · refine XW.aload_n 26 dX3_mistaken_25 rfl rfl ?_
      refine XW.getf 29 (v := .ref 1) f3_10 dX3_mistaken_26 rfl rfl rfl ?_
      refine XW.iload_n 30 dX3_mistaken_29 rfl rfl ?_
      refine XW.iload_n 31 dX3_mistaken_30 rfl rfl ?_
      refine XW.callV 34 (vs := [.int x, .int y]) (rest := []) (mcr := 0) (msr := 0) c3_164 dX3_mistaken_31 rfl rfl (by decide) (Nat.le_of_ble_eq_true rfl) rfl rfl (Nat.le_of_ble_eq_true rfl) rfl (c_pairs hx e4 e2 hl l8 c20 hf ok) (fun r h1 hq => ?_)
      obtain ⟨rfl, rfl⟩ := hq
      exact XW.iret dX3_mistaken_34 rfl (⟨rfl, rfl⟩)
    · rw [e2] at c_15; cases c_15
set_option maxHeartbeats 400000 in
set_option maxRecDepth 100000 in
theorem t_count_bad {Z : xZ} {c l st len : Nat} {kp : Nat → Nat} (ci : CI Z c l st len kp) (x : Int32) (e : inF x 0 7 = false) : XC mX3_count 8 0 0 [.ref 0, .int x] (HP Z) (fun r h' => r = some (.int (-2)) ∧ h' = HP (rfZ Z 0)) := by
  show XW mX3_count 8 0 0 0 [some (.ref 0), some (.int x)] [] (HP Z) _
  obtain ⟨hc, c20, hl, l8, ok, hf, hdi, hfb, hst, st5, hk, hlen, l120⟩ := id ci
  refine XW.iload_n 1 dX3_count_0 rfl rfl ?_
  refine XW.iconst 2 dX3_count_1 (v := 0) (by decide) rfl ?_
  refine XW.bipush 4 dX3_count_2 (v := 7) (by decide) rfl ?_
  refine XW.callS 7 (vs := [.int x, .int 0, .int 7]) (rest := []) (mcr := 0) (msr := 0) c3_97 dX3_count_4 rfl (by decide) (Nat.le_of_ble_eq_true rfl) rfl rfl (Nat.le_of_ble_eq_true rfl) rfl (c_isWithin _ _ _ _) (fun r h1 hq => ?_)
  obtain ⟨rfl, rfl⟩ := hq
  refine XW.if_neB 17 10 dX3_count_7 (by decide) rfl (fun c_7 => ?_) (fun c_7 => ?_)
  · rw [e] at c_7; cases c_7
  · refine XW.aload_n 11 dX3_count_10 rfl rfl ?_
    refine XW.bipush 13 dX3_count_11 (v := -2) (by decide) rfl ?_
    refine XW.callV 16 (vs := [.int (-2)]) (rest := []) (mcr := 0) (msr := 0) c3_46 dX3_count_13 rfl rfl (by decide) (Nat.le_of_ble_eq_true rfl) rfl rfl (Nat.le_of_ble_eq_true rfl) rfl c_refuse0 (fun r h1 hq => ?_)
    obtain ⟨rfl, rfl⟩ := hq
    refine XW.eqs (h' := HP (rfZ Z 0)) rfl rfl rfl ?_
    refine XW.eqs (st' := [.int (-2)]) rfl rfl rfl ?_
    exact XW.iret dX3_count_16 rfl (⟨rfl, rfl⟩)
set_option maxHeartbeats 400000 in
set_option maxRecDepth 100000 in
theorem t_count_0 {Z : xZ} {c l st len : Nat} {kp : Nat → Nat} (ci : CI Z c l st len kp)  : XC mX3_count 8 0 0 [.ref 0, .int 0] (HP Z) (fun r h' => r = some (.int (Z.1 1 0)) ∧ h' = HP Z) := by
  show XW mX3_count 8 0 0 0 [some (.ref 0), some (.int 0)] [] (HP Z) _
  obtain ⟨hc, c20, hl, l8, ok, hf, hdi, hfb, hst, st5, hk, hlen, l120⟩ := id ci
  refine XW.iload_n 1 dX3_count_0 rfl rfl ?_
  refine XW.iconst 2 dX3_count_1 (v := 0) (by decide) rfl ?_
  refine XW.bipush 4 dX3_count_2 (v := 7) (by decide) rfl ?_
  refine XW.callS 7 (vs := [.int 0, .int 0, .int 7]) (rest := []) (mcr := 0) (msr := 0) c3_97 dX3_count_4 rfl (by decide) (Nat.le_of_ble_eq_true rfl) rfl rfl (Nat.le_of_ble_eq_true rfl) rfl (c_isWithin _ _ _ _) (fun r h1 hq => ?_)
  obtain ⟨rfl, rfl⟩ := hq
  refine XW.if_neB 17 10 dX3_count_7 (by decide) rfl (fun c_7 => ?_) (fun c_7 => ?_)
  · refine XW.iload_n 18 dX3_count_17 rfl rfl ?_
    refine XW.tableIn 52 dX3_count_18 (by decide) (by decide) rfl (by decide) ?_
    refine XW.aload_n 53 dX3_count_52 rfl rfl ?_
    refine XW.getf 56 (v := .ref 1) f3_10 dX3_count_53 rfl rfl rfl ?_
    refine XW.getf 59 (v := .int (Z.1 1 0)) f3_167 dX3_count_56 rfl rfl rfl ?_
    exact XW.iret dX3_count_59 rfl (⟨rfl, rfl⟩)
  · exact absurd c_7 (by decide)
set_option maxHeartbeats 400000 in
set_option maxRecDepth 100000 in
theorem t_count_1 {Z : xZ} {c l st len : Nat} {kp : Nat → Nat} (ci : CI Z c l st len kp)  : XC mX3_count 8 0 0 [.ref 0, .int 1] (HP Z) (fun r h' => r = some (.int (bcF (fbF (Z.2.1 2) (Z.2.1 3) (Z.2.1 5) c))) ∧ h' = HP Z) := by
  show XW mX3_count 8 0 0 0 [some (.ref 0), some (.int 1)] [] (HP Z) _
  obtain ⟨hc, c20, hl, l8, ok, hf, hdi, hfb, hst, st5, hk, hlen, l120⟩ := id ci
  refine XW.iload_n 1 dX3_count_0 rfl rfl ?_
  refine XW.iconst 2 dX3_count_1 (v := 0) (by decide) rfl ?_
  refine XW.bipush 4 dX3_count_2 (v := 7) (by decide) rfl ?_
  refine XW.callS 7 (vs := [.int 1, .int 0, .int 7]) (rest := []) (mcr := 0) (msr := 0) c3_97 dX3_count_4 rfl (by decide) (Nat.le_of_ble_eq_true rfl) rfl rfl (Nat.le_of_ble_eq_true rfl) rfl (c_isWithin _ _ _ _) (fun r h1 hq => ?_)
  obtain ⟨rfl, rfl⟩ := hq
  refine XW.if_neB 17 10 dX3_count_7 (by decide) rfl (fun c_7 => ?_) (fun c_7 => ?_)
  · refine XW.iload_n 18 dX3_count_17 rfl rfl ?_
    refine XW.tableIn 60 dX3_count_18 (by decide) (by decide) rfl (by decide) ?_
    refine XW.aload_n 61 dX3_count_60 rfl rfl ?_
    refine XW.getf 64 (v := .ref 1) f3_10 dX3_count_61 rfl rfl rfl ?_
    refine XW.callV 67 (vs := []) (rest := []) (mcr := 0) (msr := 0) c3_170 dX3_count_64 rfl rfl (by decide) (Nat.le_of_ble_eq_true rfl) rfl rfl (Nat.le_of_ble_eq_true rfl) rfl (c_fitBits hc c20 ok) (fun r h1 hq => ?_)
    obtain ⟨rfl, rfl⟩ := hq
    refine XW.callS 70 (vs := [.int (fbF (Z.2.1 2) (Z.2.1 3) (Z.2.1 5) c)]) (rest := []) (mcr := 0) (msr := 0) c3_174 dX3_count_67 rfl (by decide) (Nat.le_of_ble_eq_true rfl) rfl rfl (Nat.le_of_ble_eq_true rfl) rfl (c_bitCount _ _) (fun r h1 hq => ?_)
    obtain ⟨rfl, rfl⟩ := hq
    exact XW.iret dX3_count_70 rfl (⟨rfl, rfl⟩)
  · exact absurd c_7 (by decide)
set_option maxHeartbeats 400000 in
set_option maxRecDepth 100000 in
theorem t_count_2 {Z : xZ} {c l st len : Nat} {kp : Nat → Nat} (ci : CI Z c l st len kp)  : XC mX3_count 8 0 0 [.ref 0, .int 2] (HP Z) (fun r h' => r = some (.int (Z.1 1 5)) ∧ h' = HP Z) := by
  show XW mX3_count 8 0 0 0 [some (.ref 0), some (.int 2)] [] (HP Z) _
  obtain ⟨hc, c20, hl, l8, ok, hf, hdi, hfb, hst, st5, hk, hlen, l120⟩ := id ci
  refine XW.iload_n 1 dX3_count_0 rfl rfl ?_
  refine XW.iconst 2 dX3_count_1 (v := 0) (by decide) rfl ?_
  refine XW.bipush 4 dX3_count_2 (v := 7) (by decide) rfl ?_
  refine XW.callS 7 (vs := [.int 2, .int 0, .int 7]) (rest := []) (mcr := 0) (msr := 0) c3_97 dX3_count_4 rfl (by decide) (Nat.le_of_ble_eq_true rfl) rfl rfl (Nat.le_of_ble_eq_true rfl) rfl (c_isWithin _ _ _ _) (fun r h1 hq => ?_)
  obtain ⟨rfl, rfl⟩ := hq
  refine XW.if_neB 17 10 dX3_count_7 (by decide) rfl (fun c_7 => ?_) (fun c_7 => ?_)
  · refine XW.iload_n 18 dX3_count_17 rfl rfl ?_
    refine XW.tableIn 71 dX3_count_18 (by decide) (by decide) rfl (by decide) ?_
    refine XW.aload_n 72 dX3_count_71 rfl rfl ?_
    refine XW.getf 75 (v := .ref 1) f3_10 dX3_count_72 rfl rfl rfl ?_
    refine XW.getf 78 (v := .int (Z.1 1 5)) f3_179 dX3_count_75 rfl rfl rfl ?_
    exact XW.iret dX3_count_78 rfl (⟨rfl, rfl⟩)
  · exact absurd c_7 (by decide)
set_option maxHeartbeats 400000 in
set_option maxRecDepth 100000 in
theorem t_count_3 {Z : xZ} {c l st len : Nat} {kp : Nat → Nat} (ci : CI Z c l st len kp)  : XC mX3_count 8 0 0 [.ref 0, .int 3] (HP Z) (fun r h' => r = some (.int (Z.1 1 7)) ∧ h' = HP Z) := by
  show XW mX3_count 8 0 0 0 [some (.ref 0), some (.int 3)] [] (HP Z) _
  obtain ⟨hc, c20, hl, l8, ok, hf, hdi, hfb, hst, st5, hk, hlen, l120⟩ := id ci
  refine XW.iload_n 1 dX3_count_0 rfl rfl ?_
  refine XW.iconst 2 dX3_count_1 (v := 0) (by decide) rfl ?_
  refine XW.bipush 4 dX3_count_2 (v := 7) (by decide) rfl ?_
  refine XW.callS 7 (vs := [.int 3, .int 0, .int 7]) (rest := []) (mcr := 0) (msr := 0) c3_97 dX3_count_4 rfl (by decide) (Nat.le_of_ble_eq_true rfl) rfl rfl (Nat.le_of_ble_eq_true rfl) rfl (c_isWithin _ _ _ _) (fun r h1 hq => ?_)
  obtain ⟨rfl, rfl⟩ := hq
  refine XW.if_neB 17 10 dX3_count_7 (by decide) rfl (fun c_7 => ?_) (fun c_7 => ?_)
  · refine XW.iload_n 18 dX3_count_17 rfl rfl ?_
    refine XW.tableIn 79 dX3_count_18 (by decide) (by decide) rfl (by decide) ?_
    refine XW.aload_n 80 dX3_count_79 rfl rfl ?_
    refine XW.getf 83 (v := .ref 1) f3_10 dX3_count_80 rfl rfl rfl ?_
    refine XW.getf 86 (v := .int (Z.1 1 7)) f3_139 dX3_count_83 rfl rfl rfl ?_
    exact XW.iret dX3_count_86 rfl (⟨rfl, rfl⟩)
  · exact absurd c_7 (by decide)
set_option maxHeartbeats 400000 in
set_option maxRecDepth 100000 in
theorem t_count_4 {Z : xZ} {c l st len : Nat} {kp : Nat → Nat} (ci : CI Z c l st len kp)  : XC mX3_count 8 0 0 [.ref 0, .int 4] (HP Z) (fun r h' => r = some (.int (cbF (Z.2.1 4) 4)) ∧ h' = HP Z) := by
  show XW mX3_count 8 0 0 0 [some (.ref 0), some (.int 4)] [] (HP Z) _
  obtain ⟨hc, c20, hl, l8, ok, hf, hdi, hfb, hst, st5, hk, hlen, l120⟩ := id ci
  refine XW.iload_n 1 dX3_count_0 rfl rfl ?_
  refine XW.iconst 2 dX3_count_1 (v := 0) (by decide) rfl ?_
  refine XW.bipush 4 dX3_count_2 (v := 7) (by decide) rfl ?_
  refine XW.callS 7 (vs := [.int 4, .int 0, .int 7]) (rest := []) (mcr := 0) (msr := 0) c3_97 dX3_count_4 rfl (by decide) (Nat.le_of_ble_eq_true rfl) rfl rfl (Nat.le_of_ble_eq_true rfl) rfl (c_isWithin _ _ _ _) (fun r h1 hq => ?_)
  obtain ⟨rfl, rfl⟩ := hq
  refine XW.if_neB 17 10 dX3_count_7 (by decide) rfl (fun c_7 => ?_) (fun c_7 => ?_)
  · refine XW.iload_n 18 dX3_count_17 rfl rfl ?_
    refine XW.tableIn 87 dX3_count_18 (by decide) (by decide) rfl (by decide) ?_
    refine XW.aload_n 88 dX3_count_87 rfl rfl ?_
    refine XW.getf 91 (v := .ref 1) f3_10 dX3_count_88 rfl rfl rfl ?_
    refine XW.callV 94 (vs := []) (rest := []) (mcr := 0) (msr := 0) c3_182 dX3_count_91 rfl rfl (by decide) (Nat.le_of_ble_eq_true rfl) rfl rfl (Nat.le_of_ble_eq_true rfl) rfl c_countingBits (fun r h1 hq => ?_)
    obtain ⟨rfl, rfl⟩ := hq
    exact XW.iret dX3_count_94 rfl (⟨rfl, rfl⟩)
  · exact absurd c_7 (by decide)
set_option maxHeartbeats 400000 in
set_option maxRecDepth 100000 in
theorem t_count_5 {Z : xZ} {c l st len : Nat} {kp : Nat → Nat} (ci : CI Z c l st len kp)  : XC mX3_count 8 0 0 [.ref 0, .int 5] (HP Z) (fun r h' => r = some (.int (Z.2.1 3 0)) ∧ h' = HP Z) := by
  show XW mX3_count 8 0 0 0 [some (.ref 0), some (.int 5)] [] (HP Z) _
  obtain ⟨hc, c20, hl, l8, ok, hf, hdi, hfb, hst, st5, hk, hlen, l120⟩ := id ci
  refine XW.iload_n 1 dX3_count_0 rfl rfl ?_
  refine XW.iconst 2 dX3_count_1 (v := 0) (by decide) rfl ?_
  refine XW.bipush 4 dX3_count_2 (v := 7) (by decide) rfl ?_
  refine XW.callS 7 (vs := [.int 5, .int 0, .int 7]) (rest := []) (mcr := 0) (msr := 0) c3_97 dX3_count_4 rfl (by decide) (Nat.le_of_ble_eq_true rfl) rfl rfl (Nat.le_of_ble_eq_true rfl) rfl (c_isWithin _ _ _ _) (fun r h1 hq => ?_)
  obtain ⟨rfl, rfl⟩ := hq
  refine XW.if_neB 17 10 dX3_count_7 (by decide) rfl (fun c_7 => ?_) (fun c_7 => ?_)
  · refine XW.iload_n 18 dX3_count_17 rfl rfl ?_
    refine XW.tableOut 95 dX3_count_18 (by decide) (by decide) ?_
    refine XW.aload_n 96 dX3_count_95 rfl rfl ?_
    refine XW.getf 99 (v := .ref 1) f3_10 dX3_count_96 rfl rfl rfl ?_
    refine XW.getf 102 (v := .ref 3) f3_71 dX3_count_99 rfl rfl rfl ?_
    refine XW.iload_n 103 dX3_count_102 rfl rfl ?_
    refine XW.iconst 104 dX3_count_103 (v := 5) (by decide) rfl ?_
    refine XW.isub 105 dX3_count_104 rfl ?_
    refine XW.eqs (st' := [.int 0, .ref 3]) rfl rfl rfl ?_
    refine XW.iald 106 0 dX3_count_105 rfl rfl (by omega) (by decide) rfl ?_
    exact XW.iret dX3_count_106 rfl (⟨rfl, rfl⟩)
  · exact absurd c_7 (by decide)
set_option maxHeartbeats 400000 in
set_option maxRecDepth 100000 in
theorem t_count_6 {Z : xZ} {c l st len : Nat} {kp : Nat → Nat} (ci : CI Z c l st len kp)  : XC mX3_count 8 0 0 [.ref 0, .int 6] (HP Z) (fun r h' => r = some (.int (Z.2.1 3 1)) ∧ h' = HP Z) := by
  show XW mX3_count 8 0 0 0 [some (.ref 0), some (.int 6)] [] (HP Z) _
  obtain ⟨hc, c20, hl, l8, ok, hf, hdi, hfb, hst, st5, hk, hlen, l120⟩ := id ci
  refine XW.iload_n 1 dX3_count_0 rfl rfl ?_
  refine XW.iconst 2 dX3_count_1 (v := 0) (by decide) rfl ?_
  refine XW.bipush 4 dX3_count_2 (v := 7) (by decide) rfl ?_
  refine XW.callS 7 (vs := [.int 6, .int 0, .int 7]) (rest := []) (mcr := 0) (msr := 0) c3_97 dX3_count_4 rfl (by decide) (Nat.le_of_ble_eq_true rfl) rfl rfl (Nat.le_of_ble_eq_true rfl) rfl (c_isWithin _ _ _ _) (fun r h1 hq => ?_)
  obtain ⟨rfl, rfl⟩ := hq
  refine XW.if_neB 17 10 dX3_count_7 (by decide) rfl (fun c_7 => ?_) (fun c_7 => ?_)
  · refine XW.iload_n 18 dX3_count_17 rfl rfl ?_
    refine XW.tableOut 95 dX3_count_18 (by decide) (by decide) ?_
    refine XW.aload_n 96 dX3_count_95 rfl rfl ?_
    refine XW.getf 99 (v := .ref 1) f3_10 dX3_count_96 rfl rfl rfl ?_
    refine XW.getf 102 (v := .ref 3) f3_71 dX3_count_99 rfl rfl rfl ?_
    refine XW.iload_n 103 dX3_count_102 rfl rfl ?_
    refine XW.iconst 104 dX3_count_103 (v := 5) (by decide) rfl ?_
    refine XW.isub 105 dX3_count_104 rfl ?_
    refine XW.eqs (st' := [.int 1, .ref 3]) rfl rfl rfl ?_
    refine XW.iald 106 1 dX3_count_105 rfl rfl (by omega) (by decide) rfl ?_
    exact XW.iret dX3_count_106 rfl (⟨rfl, rfl⟩)
  · exact absurd c_7 (by decide)
set_option maxHeartbeats 400000 in
set_option maxRecDepth 100000 in
theorem t_count_7 {Z : xZ} {c l st len : Nat} {kp : Nat → Nat} (ci : CI Z c l st len kp)  : XC mX3_count 8 0 0 [.ref 0, .int 7] (HP Z) (fun r h' => r = some (.int (Z.2.1 3 2)) ∧ h' = HP Z) := by
  show XW mX3_count 8 0 0 0 [some (.ref 0), some (.int 7)] [] (HP Z) _
  obtain ⟨hc, c20, hl, l8, ok, hf, hdi, hfb, hst, st5, hk, hlen, l120⟩ := id ci
  refine XW.iload_n 1 dX3_count_0 rfl rfl ?_
  refine XW.iconst 2 dX3_count_1 (v := 0) (by decide) rfl ?_
  refine XW.bipush 4 dX3_count_2 (v := 7) (by decide) rfl ?_
  refine XW.callS 7 (vs := [.int 7, .int 0, .int 7]) (rest := []) (mcr := 0) (msr := 0) c3_97 dX3_count_4 rfl (by decide) (Nat.le_of_ble_eq_true rfl) rfl rfl (Nat.le_of_ble_eq_true rfl) rfl (c_isWithin _ _ _ _) (fun r h1 hq => ?_)
  obtain ⟨rfl, rfl⟩ := hq
  refine XW.if_neB 17 10 dX3_count_7 (by decide) rfl (fun c_7 => ?_) (fun c_7 => ?_)
  · refine XW.iload_n 18 dX3_count_17 rfl rfl ?_
    refine XW.tableOut 95 dX3_count_18 (by decide) (by decide) ?_
    refine XW.aload_n 96 dX3_count_95 rfl rfl ?_
    refine XW.getf 99 (v := .ref 1) f3_10 dX3_count_96 rfl rfl rfl ?_
    refine XW.getf 102 (v := .ref 3) f3_71 dX3_count_99 rfl rfl rfl ?_
    refine XW.iload_n 103 dX3_count_102 rfl rfl ?_
    refine XW.iconst 104 dX3_count_103 (v := 5) (by decide) rfl ?_
    refine XW.isub 105 dX3_count_104 rfl ?_
    refine XW.eqs (st' := [.int 2, .ref 3]) rfl rfl rfl ?_
    refine XW.iald 106 2 dX3_count_105 rfl rfl (by omega) (by decide) rfl ?_
    exact XW.iret dX3_count_106 rfl (⟨rfl, rfl⟩)
  · exact absurd c_7 (by decide)
set_option maxHeartbeats 400000 in
set_option maxRecDepth 100000 in
theorem t_type_bad {Z : xZ} {c l st len : Nat} {kp : Nat → Nat} (ci : CI Z c l st len kp) (x : Int32) (e : inF x 0 127 = false) : XC mX3_type 8 0 0 [.ref 0, .int x] (HP Z) (fun r h' => r = some (.int (-2)) ∧ h' = HP (rfZ Z 0)) := by
  show XW mX3_type 8 0 0 0 [some (.ref 0), some (.int x)] [] (HP Z) _
  obtain ⟨hc, c20, hl, l8, ok, hf, hdi, hfb, hst, st5, hk, hlen, l120⟩ := id ci
  refine XW.iload_n 1 dX3_type_0 rfl rfl ?_
  refine XW.iconst 2 dX3_type_1 (v := 0) (by decide) rfl ?_
  refine XW.bipush 4 dX3_type_2 (v := 127) (by decide) rfl ?_
  refine XW.callS 7 (vs := [.int x, .int 0, .int 127]) (rest := []) (mcr := 0) (msr := 0) c3_97 dX3_type_4 rfl (by decide) (Nat.le_of_ble_eq_true rfl) rfl rfl (Nat.le_of_ble_eq_true rfl) rfl (c_isWithin _ _ _ _) (fun r h1 hq => ?_)
  obtain ⟨rfl, rfl⟩ := hq
  refine XW.if_neB 17 10 dX3_type_7 (by decide) rfl (fun c_7 => ?_) (fun c_7 => ?_)
  · rw [e] at c_7; cases c_7
  · refine XW.aload_n 11 dX3_type_10 rfl rfl ?_
    refine XW.bipush 13 dX3_type_11 (v := -2) (by decide) rfl ?_
    refine XW.callV 16 (vs := [.int (-2)]) (rest := []) (mcr := 0) (msr := 0) c3_46 dX3_type_13 rfl rfl (by decide) (Nat.le_of_ble_eq_true rfl) rfl rfl (Nat.le_of_ble_eq_true rfl) rfl c_refuse0 (fun r h1 hq => ?_)
    obtain ⟨rfl, rfl⟩ := hq
    refine XW.eqs (h' := HP (rfZ Z 0)) rfl rfl rfl ?_
    refine XW.eqs (st' := [.int (-2)]) rfl rfl rfl ?_
    exact XW.iret dX3_type_16 rfl (⟨rfl, rfl⟩)
set_option maxHeartbeats 400000 in
set_option maxRecDepth 100000 in
theorem t_type_full {Z : xZ} {c l st len : Nat} {kp : Nat → Nat} (ci : CI Z c l st len kp) (x : Int32) (e : inF x 0 127 = true) (l12 : len = 120) : XC mX3_type 8 0 0 [.ref 0, .int x] (HP Z) (fun r h' => r = some (.int (-4)) ∧ h' = HP (rfZ Z 2)) := by
  show XW mX3_type 8 0 0 0 [some (.ref 0), some (.int x)] [] (HP Z) _
  obtain ⟨hc, c20, hl, l8, ok, hf, hdi, hfb, hst, st5, hk, hlen, l120⟩ := id ci
  refine XW.iload_n 1 dX3_type_0 rfl rfl ?_
  refine XW.iconst 2 dX3_type_1 (v := 0) (by decide) rfl ?_
  refine XW.bipush 4 dX3_type_2 (v := 127) (by decide) rfl ?_
  refine XW.callS 7 (vs := [.int x, .int 0, .int 127]) (rest := []) (mcr := 0) (msr := 0) c3_97 dX3_type_4 rfl (by decide) (Nat.le_of_ble_eq_true rfl) rfl rfl (Nat.le_of_ble_eq_true rfl) rfl (c_isWithin _ _ _ _) (fun r h1 hq => ?_)
  obtain ⟨rfl, rfl⟩ := hq
  refine XW.if_neB 17 10 dX3_type_7 (by decide) rfl (fun c_7 => ?_) (fun c_7 => ?_)
  · refine XW.aload_n 18 dX3_type_17 rfl rfl ?_
    refine XW.getf 21 (v := .ref 45) f3_31 dX3_type_18 rfl rfl rfl ?_
    refine XW.getf 24 (v := .int (Z.1 45 1)) f3_185 dX3_type_21 rfl rfl rfl ?_
    refine XW.bipush 26 dX3_type_24 (v := 120) (by decide) rfl ?_
    refine XW.icmp_ltN 36 29 len 120 dX3_type_26 (by decide) rfl hlen rfl (by omega) (by omega) (fun c_26 => ?_) (fun c_26 => ?_)
    · omega
    · refine XW.aload_n 30 dX3_type_29 rfl rfl ?_
      refine XW.bipush 32 dX3_type_30 (v := -4) (by decide) rfl ?_
      refine XW.callV 35 (vs := [.int (-4)]) (rest := []) (mcr := 0) (msr := 0) c3_46 dX3_type_32 rfl rfl (by decide) (Nat.le_of_ble_eq_true rfl) rfl rfl (Nat.le_of_ble_eq_true rfl) rfl c_refuse2 (fun r h1 hq => ?_)
      obtain ⟨rfl, rfl⟩ := hq
      refine XW.eqs (h' := HP (rfZ Z 2)) rfl rfl rfl ?_
      refine XW.eqs (st' := [.int (-4)]) rfl rfl rfl ?_
      exact XW.iret dX3_type_35 rfl (⟨rfl, rfl⟩)
  · rw [e] at c_7; cases c_7
set_option maxHeartbeats 400000 in
set_option maxRecDepth 100000 in
theorem t_type_ok {Z : xZ} {c l st len : Nat} {kp : Nat → Nat} (ci : CI Z c l st len kp) (x : Int32) (e : inF x 0 127 = true) (l12 : len < 120) : XC mX3_type 8 0 0 [.ref 0, .int x] (HP Z) (fun r h' => r = some (.int (nI (len + 1))) ∧ h' = HP (sI (sA Z 46 (upd (Z.2.1 46) len x)) 45 1 (nI (len + 1)))) := by
  show XW mX3_type 8 0 0 0 [some (.ref 0), some (.int x)] [] (HP Z) _
  obtain ⟨hc, c20, hl, l8, ok, hf, hdi, hfb, hst, st5, hk, hlen, l120⟩ := id ci
  refine XW.iload_n 1 dX3_type_0 rfl rfl ?_
  refine XW.iconst 2 dX3_type_1 (v := 0) (by decide) rfl ?_
  refine XW.bipush 4 dX3_type_2 (v := 127) (by decide) rfl ?_
  refine XW.callS 7 (vs := [.int x, .int 0, .int 127]) (rest := []) (mcr := 0) (msr := 0) c3_97 dX3_type_4 rfl (by decide) (Nat.le_of_ble_eq_true rfl) rfl rfl (Nat.le_of_ble_eq_true rfl) rfl (c_isWithin _ _ _ _) (fun r h1 hq => ?_)
  obtain ⟨rfl, rfl⟩ := hq
  refine XW.if_neB 17 10 dX3_type_7 (by decide) rfl (fun c_7 => ?_) (fun c_7 => ?_)
  · refine XW.aload_n 18 dX3_type_17 rfl rfl ?_
    refine XW.getf 21 (v := .ref 45) f3_31 dX3_type_18 rfl rfl rfl ?_
    refine XW.getf 24 (v := .int (Z.1 45 1)) f3_185 dX3_type_21 rfl rfl rfl ?_
    refine XW.bipush 26 dX3_type_24 (v := 120) (by decide) rfl ?_
    refine XW.icmp_ltN 36 29 len 120 dX3_type_26 (by decide) rfl hlen rfl (by omega) (by omega) (fun c_26 => ?_) (fun c_26 => ?_)
    · refine XW.aload_n 37 dX3_type_36 rfl rfl ?_
      refine XW.getf 40 (v := .ref 45) f3_31 dX3_type_37 rfl rfl rfl ?_
      refine XW.iload_n 41 dX3_type_40 rfl rfl ?_
      refine XW.callV 44 (vs := [.int x]) (rest := []) (mcr := 0) (msr := 0) c3_188 dX3_type_41 rfl rfl (by decide) (Nat.le_of_ble_eq_true rfl) rfl rfl (Nat.le_of_ble_eq_true rfl) rfl (c_append _ hlen (by omega)) (fun r h1 hq => ?_)
      obtain ⟨rfl, rfl⟩ := hq
      refine XW.eqs (st' := [.int (nI (len + 1))]) rfl rfl rfl ?_
      exact XW.iret dX3_type_44 rfl (⟨rfl, rfl⟩)
    · omega
  · rw [e] at c_7; cases c_7
set_option maxHeartbeats 400000 in
set_option maxRecDepth 100000 in
theorem t_clear {Z : xZ} {c l st len : Nat} {kp : Nat → Nat} (ci : CI Z c l st len kp)  : XC mX3_clear 8 0 0 [.ref 0] (HP Z) (fun r h' => r = some (.int (nI len)) ∧ h' = HP (sI Z 45 1 0)) := by
  show XW mX3_clear 8 0 0 0 [some (.ref 0), none] [] (HP Z) _
  obtain ⟨hc, c20, hl, l8, ok, hf, hdi, hfb, hst, st5, hk, hlen, l120⟩ := id ci
  refine XW.aload_n 1 dX3_clear_0 rfl rfl ?_
  refine XW.getf 4 (v := .ref 45) f3_31 dX3_clear_1 rfl rfl rfl ?_
  refine XW.getf 7 (v := .int (Z.1 45 1)) f3_185 dX3_clear_4 rfl rfl rfl ?_
  refine XW.istore_n 8 (L' := [some (.ref 0), some (.int (Z.1 45 1))]) dX3_clear_7 (by decide) rfl rfl rfl ?_
  refine XW.aload_n 9 dX3_clear_8 rfl rfl ?_
  refine XW.getf 12 (v := .ref 45) f3_31 dX3_clear_9 rfl rfl rfl ?_
  refine XW.iconst 13 dX3_clear_12 (v := 0) (by decide) rfl ?_
  refine XW.putf 16 (h' := HP (sI Z 45 1 0)) (p3_185 _) dX3_clear_13 rfl (Nat.le_of_ble_eq_true rfl) (xfit_i _) rfl rfl ?_
  refine XW.iload_n 17 dX3_clear_16 rfl rfl ?_
  exact XW.iret dX3_clear_17 rfl (⟨pE hlen, rfl⟩)
set_option maxHeartbeats 400000 in
set_option maxRecDepth 100000 in
theorem t_told_bad {Z : xZ} {c l st len : Nat} {kp : Nat → Nat} (ci : CI Z c l st len kp) (x : Int32) (e : inF x 0 7 = false) : XC mX3_told 8 0 0 [.ref 0, .int x] (HP Z) (fun r h' => r = some (.int (-2)) ∧ h' = HP (rfZ Z 0)) := by
  show XW mX3_told 8 0 0 0 [some (.ref 0), some (.int x)] [] (HP Z) _
  obtain ⟨hc, c20, hl, l8, ok, hf, hdi, hfb, hst, st5, hk, hlen, l120⟩ := id ci
  refine XW.iload_n 1 dX3_told_0 rfl rfl ?_
  refine XW.iconst 2 dX3_told_1 (v := 0) (by decide) rfl ?_
  refine XW.bipush 4 dX3_told_2 (v := 7) (by decide) rfl ?_
  refine XW.callS 7 (vs := [.int x, .int 0, .int 7]) (rest := []) (mcr := 0) (msr := 0) c3_97 dX3_told_4 rfl (by decide) (Nat.le_of_ble_eq_true rfl) rfl rfl (Nat.le_of_ble_eq_true rfl) rfl (c_isWithin _ _ _ _) (fun r h1 hq => ?_)
  obtain ⟨rfl, rfl⟩ := hq
  refine XW.if_neB 17 10 dX3_told_7 (by decide) rfl (fun c_7 => ?_) (fun c_7 => ?_)
  · rw [e] at c_7; cases c_7
  · refine XW.aload_n 11 dX3_told_10 rfl rfl ?_
    refine XW.bipush 13 dX3_told_11 (v := -2) (by decide) rfl ?_
    refine XW.callV 16 (vs := [.int (-2)]) (rest := []) (mcr := 0) (msr := 0) c3_46 dX3_told_13 rfl rfl (by decide) (Nat.le_of_ble_eq_true rfl) rfl rfl (Nat.le_of_ble_eq_true rfl) rfl c_refuse0 (fun r h1 hq => ?_)
    obtain ⟨rfl, rfl⟩ := hq
    refine XW.eqs (h' := HP (rfZ Z 0)) rfl rfl rfl ?_
    refine XW.eqs (st' := [.int (-2)]) rfl rfl rfl ?_
    exact XW.iret dX3_told_16 rfl (⟨rfl, rfl⟩)
set_option maxHeartbeats 400000 in
set_option maxRecDepth 100000 in
theorem t_told_0 {Z : xZ} {c l st len : Nat} {kp : Nat → Nat} (ci : CI Z c l st len kp)  : XC mX3_told 8 0 0 [.ref 0, .int 0] (HP Z) (fun r h' => r = some (.int (Z.2.1 44 0)) ∧ h' = HP Z) := by
  show XW mX3_told 8 0 0 0 [some (.ref 0), some (.int 0)] [] (HP Z) _
  obtain ⟨hc, c20, hl, l8, ok, hf, hdi, hfb, hst, st5, hk, hlen, l120⟩ := id ci
  refine XW.iload_n 1 dX3_told_0 rfl rfl ?_
  refine XW.iconst 2 dX3_told_1 (v := 0) (by decide) rfl ?_
  refine XW.bipush 4 dX3_told_2 (v := 7) (by decide) rfl ?_
  refine XW.callS 7 (vs := [.int 0, .int 0, .int 7]) (rest := []) (mcr := 0) (msr := 0) c3_97 dX3_told_4 rfl (by decide) (Nat.le_of_ble_eq_true rfl) rfl rfl (Nat.le_of_ble_eq_true rfl) rfl (c_isWithin _ _ _ _) (fun r h1 hq => ?_)
  obtain ⟨rfl, rfl⟩ := hq
  refine XW.if_neB 17 10 dX3_told_7 (by decide) rfl (fun c_7 => ?_) (fun c_7 => ?_)
  · refine XW.iload_n 18 dX3_told_17 rfl rfl ?_
    refine XW.iconst 19 dX3_told_18 (v := 3) (by decide) rfl ?_
    refine XW.icmp_geN 29 22 0 3 dX3_told_19 (by decide) rfl rfl rfl (by omega) (by omega) (fun c_19 => ?_) (fun c_19 => ?_)
    · exact absurd c_19 (by decide)
    · refine XW.aload_n 23 dX3_told_22 rfl rfl ?_
      refine XW.getf 26 (v := .ref 44) f3_24 dX3_told_23 rfl rfl rfl ?_
      refine XW.iload_n 27 dX3_told_26 rfl rfl ?_
      refine XW.iald 28 0 dX3_told_27 rfl rfl (by omega) (by decide) rfl ?_
      exact XW.iret dX3_told_28 rfl (⟨rfl, rfl⟩)
  · exact absurd c_7 (by decide)
set_option maxHeartbeats 400000 in
set_option maxRecDepth 100000 in
theorem t_told_1 {Z : xZ} {c l st len : Nat} {kp : Nat → Nat} (ci : CI Z c l st len kp)  : XC mX3_told 8 0 0 [.ref 0, .int 1] (HP Z) (fun r h' => r = some (.int (Z.2.1 44 1)) ∧ h' = HP Z) := by
  show XW mX3_told 8 0 0 0 [some (.ref 0), some (.int 1)] [] (HP Z) _
  obtain ⟨hc, c20, hl, l8, ok, hf, hdi, hfb, hst, st5, hk, hlen, l120⟩ := id ci
  refine XW.iload_n 1 dX3_told_0 rfl rfl ?_
  refine XW.iconst 2 dX3_told_1 (v := 0) (by decide) rfl ?_
  refine XW.bipush 4 dX3_told_2 (v := 7) (by decide) rfl ?_
  refine XW.callS 7 (vs := [.int 1, .int 0, .int 7]) (rest := []) (mcr := 0) (msr := 0) c3_97 dX3_told_4 rfl (by decide) (Nat.le_of_ble_eq_true rfl) rfl rfl (Nat.le_of_ble_eq_true rfl) rfl (c_isWithin _ _ _ _) (fun r h1 hq => ?_)
  obtain ⟨rfl, rfl⟩ := hq
  refine XW.if_neB 17 10 dX3_told_7 (by decide) rfl (fun c_7 => ?_) (fun c_7 => ?_)
  · refine XW.iload_n 18 dX3_told_17 rfl rfl ?_
    refine XW.iconst 19 dX3_told_18 (v := 3) (by decide) rfl ?_
    refine XW.icmp_geN 29 22 1 3 dX3_told_19 (by decide) rfl rfl rfl (by omega) (by omega) (fun c_19 => ?_) (fun c_19 => ?_)
    · exact absurd c_19 (by decide)
    · refine XW.aload_n 23 dX3_told_22 rfl rfl ?_
      refine XW.getf 26 (v := .ref 44) f3_24 dX3_told_23 rfl rfl rfl ?_
      refine XW.iload_n 27 dX3_told_26 rfl rfl ?_
      refine XW.iald 28 1 dX3_told_27 rfl rfl (by omega) (by decide) rfl ?_
      exact XW.iret dX3_told_28 rfl (⟨rfl, rfl⟩)
  · exact absurd c_7 (by decide)
set_option maxHeartbeats 400000 in
set_option maxRecDepth 100000 in
theorem t_told_2 {Z : xZ} {c l st len : Nat} {kp : Nat → Nat} (ci : CI Z c l st len kp)  : XC mX3_told 8 0 0 [.ref 0, .int 2] (HP Z) (fun r h' => r = some (.int (Z.2.1 44 2)) ∧ h' = HP Z) := by
  show XW mX3_told 8 0 0 0 [some (.ref 0), some (.int 2)] [] (HP Z) _
  obtain ⟨hc, c20, hl, l8, ok, hf, hdi, hfb, hst, st5, hk, hlen, l120⟩ := id ci
  refine XW.iload_n 1 dX3_told_0 rfl rfl ?_
  refine XW.iconst 2 dX3_told_1 (v := 0) (by decide) rfl ?_
  refine XW.bipush 4 dX3_told_2 (v := 7) (by decide) rfl ?_
  refine XW.callS 7 (vs := [.int 2, .int 0, .int 7]) (rest := []) (mcr := 0) (msr := 0) c3_97 dX3_told_4 rfl (by decide) (Nat.le_of_ble_eq_true rfl) rfl rfl (Nat.le_of_ble_eq_true rfl) rfl (c_isWithin _ _ _ _) (fun r h1 hq => ?_)
  obtain ⟨rfl, rfl⟩ := hq
  refine XW.if_neB 17 10 dX3_told_7 (by decide) rfl (fun c_7 => ?_) (fun c_7 => ?_)
  · refine XW.iload_n 18 dX3_told_17 rfl rfl ?_
    refine XW.iconst 19 dX3_told_18 (v := 3) (by decide) rfl ?_
    refine XW.icmp_geN 29 22 2 3 dX3_told_19 (by decide) rfl rfl rfl (by omega) (by omega) (fun c_19 => ?_) (fun c_19 => ?_)
    · exact absurd c_19 (by decide)
    · refine XW.aload_n 23 dX3_told_22 rfl rfl ?_
      refine XW.getf 26 (v := .ref 44) f3_24 dX3_told_23 rfl rfl rfl ?_
      refine XW.iload_n 27 dX3_told_26 rfl rfl ?_
      refine XW.iald 28 2 dX3_told_27 rfl rfl (by omega) (by decide) rfl ?_
      exact XW.iret dX3_told_28 rfl (⟨rfl, rfl⟩)
  · exact absurd c_7 (by decide)
set_option maxHeartbeats 400000 in
set_option maxRecDepth 100000 in
theorem t_told_3 {Z : xZ} {c l st len : Nat} {kp : Nat → Nat} (ci : CI Z c l st len kp)  : XC mX3_told 8 0 0 [.ref 0, .int 3] (HP Z) (fun r h' => r = some (.int (Z.2.1 5 0)) ∧ h' = HP Z) := by
  show XW mX3_told 8 0 0 0 [some (.ref 0), some (.int 3)] [] (HP Z) _
  obtain ⟨hc, c20, hl, l8, ok, hf, hdi, hfb, hst, st5, hk, hlen, l120⟩ := id ci
  refine XW.iload_n 1 dX3_told_0 rfl rfl ?_
  refine XW.iconst 2 dX3_told_1 (v := 0) (by decide) rfl ?_
  refine XW.bipush 4 dX3_told_2 (v := 7) (by decide) rfl ?_
  refine XW.callS 7 (vs := [.int 3, .int 0, .int 7]) (rest := []) (mcr := 0) (msr := 0) c3_97 dX3_told_4 rfl (by decide) (Nat.le_of_ble_eq_true rfl) rfl rfl (Nat.le_of_ble_eq_true rfl) rfl (c_isWithin _ _ _ _) (fun r h1 hq => ?_)
  obtain ⟨rfl, rfl⟩ := hq
  refine XW.if_neB 17 10 dX3_told_7 (by decide) rfl (fun c_7 => ?_) (fun c_7 => ?_)
  · refine XW.iload_n 18 dX3_told_17 rfl rfl ?_
    refine XW.iconst 19 dX3_told_18 (v := 3) (by decide) rfl ?_
    refine XW.icmp_geN 29 22 3 3 dX3_told_19 (by decide) rfl rfl rfl (by omega) (by omega) (fun c_19 => ?_) (fun c_19 => ?_)
    · refine XW.iload_n 30 dX3_told_29 rfl rfl ?_
      refine XW.bipush 32 dX3_told_30 (v := 6) (by decide) rfl ?_
      refine XW.icmp_geN 47 35 3 6 dX3_told_32 (by decide) rfl rfl rfl (by omega) (by omega) (fun c_32 => ?_) (fun c_32 => ?_)
      · exact absurd c_32 (by decide)
      · refine XW.aload_n 36 dX3_told_35 rfl rfl ?_
        refine XW.getf 39 (v := .ref 1) f3_10 dX3_told_36 rfl rfl rfl ?_
        refine XW.getf 42 (v := .ref 5) f3_222 dX3_told_39 rfl rfl rfl ?_
        refine XW.iload_n 43 dX3_told_42 rfl rfl ?_
        refine XW.iconst 44 dX3_told_43 (v := 3) (by decide) rfl ?_
        refine XW.isub 45 dX3_told_44 rfl ?_
        refine XW.eqs (st' := [.int 0, .ref 5]) rfl rfl rfl ?_
        refine XW.iald 46 0 dX3_told_45 rfl rfl (by omega) (by decide) rfl ?_
        exact XW.iret dX3_told_46 rfl (⟨rfl, rfl⟩)
    · exact absurd c_19 (by decide)
  · exact absurd c_7 (by decide)
set_option maxHeartbeats 400000 in
set_option maxRecDepth 100000 in
theorem t_told_4 {Z : xZ} {c l st len : Nat} {kp : Nat → Nat} (ci : CI Z c l st len kp)  : XC mX3_told 8 0 0 [.ref 0, .int 4] (HP Z) (fun r h' => r = some (.int (Z.2.1 5 1)) ∧ h' = HP Z) := by
  show XW mX3_told 8 0 0 0 [some (.ref 0), some (.int 4)] [] (HP Z) _
  obtain ⟨hc, c20, hl, l8, ok, hf, hdi, hfb, hst, st5, hk, hlen, l120⟩ := id ci
  refine XW.iload_n 1 dX3_told_0 rfl rfl ?_
  refine XW.iconst 2 dX3_told_1 (v := 0) (by decide) rfl ?_
  refine XW.bipush 4 dX3_told_2 (v := 7) (by decide) rfl ?_
  refine XW.callS 7 (vs := [.int 4, .int 0, .int 7]) (rest := []) (mcr := 0) (msr := 0) c3_97 dX3_told_4 rfl (by decide) (Nat.le_of_ble_eq_true rfl) rfl rfl (Nat.le_of_ble_eq_true rfl) rfl (c_isWithin _ _ _ _) (fun r h1 hq => ?_)
  obtain ⟨rfl, rfl⟩ := hq
  refine XW.if_neB 17 10 dX3_told_7 (by decide) rfl (fun c_7 => ?_) (fun c_7 => ?_)
  · refine XW.iload_n 18 dX3_told_17 rfl rfl ?_
    refine XW.iconst 19 dX3_told_18 (v := 3) (by decide) rfl ?_
    refine XW.icmp_geN 29 22 4 3 dX3_told_19 (by decide) rfl rfl rfl (by omega) (by omega) (fun c_19 => ?_) (fun c_19 => ?_)
    · refine XW.iload_n 30 dX3_told_29 rfl rfl ?_
      refine XW.bipush 32 dX3_told_30 (v := 6) (by decide) rfl ?_
      refine XW.icmp_geN 47 35 4 6 dX3_told_32 (by decide) rfl rfl rfl (by omega) (by omega) (fun c_32 => ?_) (fun c_32 => ?_)
      · exact absurd c_32 (by decide)
      · refine XW.aload_n 36 dX3_told_35 rfl rfl ?_
        refine XW.getf 39 (v := .ref 1) f3_10 dX3_told_36 rfl rfl rfl ?_
        refine XW.getf 42 (v := .ref 5) f3_222 dX3_told_39 rfl rfl rfl ?_
        refine XW.iload_n 43 dX3_told_42 rfl rfl ?_
        refine XW.iconst 44 dX3_told_43 (v := 3) (by decide) rfl ?_
        refine XW.isub 45 dX3_told_44 rfl ?_
        refine XW.eqs (st' := [.int 1, .ref 5]) rfl rfl rfl ?_
        refine XW.iald 46 1 dX3_told_45 rfl rfl (by omega) (by decide) rfl ?_
        exact XW.iret dX3_told_46 rfl (⟨rfl, rfl⟩)
    · exact absurd c_19 (by decide)
  · exact absurd c_7 (by decide)
set_option maxHeartbeats 400000 in
set_option maxRecDepth 100000 in
theorem t_told_5 {Z : xZ} {c l st len : Nat} {kp : Nat → Nat} (ci : CI Z c l st len kp)  : XC mX3_told 8 0 0 [.ref 0, .int 5] (HP Z) (fun r h' => r = some (.int (Z.2.1 5 2)) ∧ h' = HP Z) := by
  show XW mX3_told 8 0 0 0 [some (.ref 0), some (.int 5)] [] (HP Z) _
  obtain ⟨hc, c20, hl, l8, ok, hf, hdi, hfb, hst, st5, hk, hlen, l120⟩ := id ci
  refine XW.iload_n 1 dX3_told_0 rfl rfl ?_
  refine XW.iconst 2 dX3_told_1 (v := 0) (by decide) rfl ?_
  refine XW.bipush 4 dX3_told_2 (v := 7) (by decide) rfl ?_
  refine XW.callS 7 (vs := [.int 5, .int 0, .int 7]) (rest := []) (mcr := 0) (msr := 0) c3_97 dX3_told_4 rfl (by decide) (Nat.le_of_ble_eq_true rfl) rfl rfl (Nat.le_of_ble_eq_true rfl) rfl (c_isWithin _ _ _ _) (fun r h1 hq => ?_)
  obtain ⟨rfl, rfl⟩ := hq
  refine XW.if_neB 17 10 dX3_told_7 (by decide) rfl (fun c_7 => ?_) (fun c_7 => ?_)
  · refine XW.iload_n 18 dX3_told_17 rfl rfl ?_
    refine XW.iconst 19 dX3_told_18 (v := 3) (by decide) rfl ?_
    refine XW.icmp_geN 29 22 5 3 dX3_told_19 (by decide) rfl rfl rfl (by omega) (by omega) (fun c_19 => ?_) (fun c_19 => ?_)
    · refine XW.iload_n 30 dX3_told_29 rfl rfl ?_
      refine XW.bipush 32 dX3_told_30 (v := 6) (by decide) rfl ?_
      refine XW.icmp_geN 47 35 5 6 dX3_told_32 (by decide) rfl rfl rfl (by omega) (by omega) (fun c_32 => ?_) (fun c_32 => ?_)
      · exact absurd c_32 (by decide)
      · refine XW.aload_n 36 dX3_told_35 rfl rfl ?_
        refine XW.getf 39 (v := .ref 1) f3_10 dX3_told_36 rfl rfl rfl ?_
        refine XW.getf 42 (v := .ref 5) f3_222 dX3_told_39 rfl rfl rfl ?_
        refine XW.iload_n 43 dX3_told_42 rfl rfl ?_
        refine XW.iconst 44 dX3_told_43 (v := 3) (by decide) rfl ?_
        refine XW.isub 45 dX3_told_44 rfl ?_
        refine XW.eqs (st' := [.int 2, .ref 5]) rfl rfl rfl ?_
        refine XW.iald 46 2 dX3_told_45 rfl rfl (by omega) (by decide) rfl ?_
        exact XW.iret dX3_told_46 rfl (⟨rfl, rfl⟩)
    · exact absurd c_19 (by decide)
  · exact absurd c_7 (by decide)
set_option maxHeartbeats 400000 in
set_option maxRecDepth 100000 in
theorem t_told_6 {Z : xZ} {c l st len : Nat} {kp : Nat → Nat} (ci : CI Z c l st len kp)  : XC mX3_told 8 0 0 [.ref 0, .int 6] (HP Z) (fun r h' => r = some (.int (Z.1 45 1)) ∧ h' = HP Z) := by
  show XW mX3_told 8 0 0 0 [some (.ref 0), some (.int 6)] [] (HP Z) _
  obtain ⟨hc, c20, hl, l8, ok, hf, hdi, hfb, hst, st5, hk, hlen, l120⟩ := id ci
  refine XW.iload_n 1 dX3_told_0 rfl rfl ?_
  refine XW.iconst 2 dX3_told_1 (v := 0) (by decide) rfl ?_
  refine XW.bipush 4 dX3_told_2 (v := 7) (by decide) rfl ?_
  refine XW.callS 7 (vs := [.int 6, .int 0, .int 7]) (rest := []) (mcr := 0) (msr := 0) c3_97 dX3_told_4 rfl (by decide) (Nat.le_of_ble_eq_true rfl) rfl rfl (Nat.le_of_ble_eq_true rfl) rfl (c_isWithin _ _ _ _) (fun r h1 hq => ?_)
  obtain ⟨rfl, rfl⟩ := hq
  refine XW.if_neB 17 10 dX3_told_7 (by decide) rfl (fun c_7 => ?_) (fun c_7 => ?_)
  · refine XW.iload_n 18 dX3_told_17 rfl rfl ?_
    refine XW.iconst 19 dX3_told_18 (v := 3) (by decide) rfl ?_
    refine XW.icmp_geN 29 22 6 3 dX3_told_19 (by decide) rfl rfl rfl (by omega) (by omega) (fun c_19 => ?_) (fun c_19 => ?_)
    · refine XW.iload_n 30 dX3_told_29 rfl rfl ?_
      refine XW.bipush 32 dX3_told_30 (v := 6) (by decide) rfl ?_
      refine XW.icmp_geN 47 35 6 6 dX3_told_32 (by decide) rfl rfl rfl (by omega) (by omega) (fun c_32 => ?_) (fun c_32 => ?_)
      · refine XW.iload_n 48 dX3_told_47 rfl rfl ?_
        refine XW.bipush 50 dX3_told_48 (v := 6) (by decide) rfl ?_
        refine XW.icmp_neN 63 53 6 6 dX3_told_50 (by decide) rfl rfl rfl (by omega) (by omega) (fun c_50 => ?_) (fun c_50 => ?_)
        · exact absurd c_50 (by decide)
        · refine XW.aload_n 54 dX3_told_53 rfl rfl ?_
          refine XW.getf 57 (v := .ref 45) f3_31 dX3_told_54 rfl rfl rfl ?_
          refine XW.getf 60 (v := .int (Z.1 45 1)) f3_185 dX3_told_57 rfl rfl rfl ?_
          refine XW.goto 67 dX3_told_60 (by decide) ?_
          exact XW.iret dX3_told_67 rfl (⟨rfl, rfl⟩)
      · exact absurd c_32 (by decide)
    · exact absurd c_19 (by decide)
  · exact absurd c_7 (by decide)
set_option maxHeartbeats 400000 in
set_option maxRecDepth 100000 in
theorem t_told_7 {Z : xZ} {c l st len : Nat} {kp : Nat → Nat} (ci : CI Z c l st len kp)  : XC mX3_told 8 0 0 [.ref 0, .int 7] (HP Z) (fun r h' => r = some (.int (Z.1 0 2)) ∧ h' = HP Z) := by
  show XW mX3_told 8 0 0 0 [some (.ref 0), some (.int 7)] [] (HP Z) _
  obtain ⟨hc, c20, hl, l8, ok, hf, hdi, hfb, hst, st5, hk, hlen, l120⟩ := id ci
  refine XW.iload_n 1 dX3_told_0 rfl rfl ?_
  refine XW.iconst 2 dX3_told_1 (v := 0) (by decide) rfl ?_
  refine XW.bipush 4 dX3_told_2 (v := 7) (by decide) rfl ?_
  refine XW.callS 7 (vs := [.int 7, .int 0, .int 7]) (rest := []) (mcr := 0) (msr := 0) c3_97 dX3_told_4 rfl (by decide) (Nat.le_of_ble_eq_true rfl) rfl rfl (Nat.le_of_ble_eq_true rfl) rfl (c_isWithin _ _ _ _) (fun r h1 hq => ?_)
  obtain ⟨rfl, rfl⟩ := hq
  refine XW.if_neB 17 10 dX3_told_7 (by decide) rfl (fun c_7 => ?_) (fun c_7 => ?_)
  · refine XW.iload_n 18 dX3_told_17 rfl rfl ?_
    refine XW.iconst 19 dX3_told_18 (v := 3) (by decide) rfl ?_
    refine XW.icmp_geN 29 22 7 3 dX3_told_19 (by decide) rfl rfl rfl (by omega) (by omega) (fun c_19 => ?_) (fun c_19 => ?_)
    · refine XW.iload_n 30 dX3_told_29 rfl rfl ?_
      refine XW.bipush 32 dX3_told_30 (v := 6) (by decide) rfl ?_
      refine XW.icmp_geN 47 35 7 6 dX3_told_32 (by decide) rfl rfl rfl (by omega) (by omega) (fun c_32 => ?_) (fun c_32 => ?_)
      · refine XW.iload_n 48 dX3_told_47 rfl rfl ?_
        refine XW.bipush 50 dX3_told_48 (v := 6) (by decide) rfl ?_
        refine XW.icmp_neN 63 53 7 6 dX3_told_50 (by decide) rfl rfl rfl (by omega) (by omega) (fun c_50 => ?_) (fun c_50 => ?_)
        · refine XW.aload_n 64 dX3_told_63 rfl rfl ?_
          refine XW.getf 67 (v := .int (Z.1 0 2)) f3_20 dX3_told_64 rfl rfl rfl ?_
          exact XW.iret dX3_told_67 rfl (⟨rfl, rfl⟩)
        · exact absurd c_50 (by decide)
      · exact absurd c_32 (by decide)
    · exact absurd c_19 (by decide)
  · exact absurd c_7 (by decide)
