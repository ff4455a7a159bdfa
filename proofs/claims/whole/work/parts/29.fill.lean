/-! The class: filling and swapping -/
set_option maxHeartbeats 4000000 in
set_option maxRecDepth 100000 in
theorem l_fill_50 {Z : xZ} {c n : Nat} {G : Nat → UInt32} {xn : Int32} (hxn : xn = nI n) (n8 : n ≤ 8) (hc : Z.1 1 0 = nI c) (c20 : c ≤ 20) (hG : gapOK G (Z.2.1 4) (Z.2.1 2) c) (ok : okS (Z.2.1 2) (Z.2.1 3) (Z.2.1 4) (Z.2.1 5)) : ∀ (k : Nat) (l : Nat) (R : Nat → Int32), l ≤ 8 → 8 < l + k → rowOK R l c → rowDI R l → XW mX0_fill 4 0 0 50 [some (.ref 50), some (.ref 1), some (.int xn), some (.int (fbF (Z.2.1 2) (Z.2.1 3) (Z.2.1 5) c)), some (.int (nI l)), none] [] (HP (sI (sA (sF Z 51 G) 6 R) 1 7 (nI l))) (fun r h' => r = none ∧ h' = HP (sI (sA (sF Z 51 G) 6 (flF (apG (Z.2.1 4) (Z.2.1 2)) (Z.2.1 2) (fbF (Z.2.1 2) (Z.2.1 3) (Z.2.1 5) c) c (n - l) (R, l)).1) 1 7 (nI (flF (apG (Z.2.1 4) (Z.2.1 2)) (Z.2.1 2) (fbF (Z.2.1 2) (Z.2.1 3) (Z.2.1 5) c) c (n - l) (R, l)).2))) := by
  intro k
  induction k with
  | zero => intro l R g0 g1 hf hdi; omega
  | succ k ih =>
    intro l R g0 g1 hf hdi
    refine XW.iload 52 dX0_fill_50 rfl rfl ?_
    refine XW.iload_n 53 dX0_fill_52 rfl rfl ?_
    refine XW.icmp_geN 90 56 l n dX0_fill_53 (by decide) rfl rfl hxn (by omega) (by omega) (fun c_53 => ?_) (fun c_53 => ?_)
    · exact XW.vret dX0_fill_90 trivial (⟨rfl, by rw [show n - l = 0 by omega]; rfl⟩)
    · refine XW.aload_n 57 dX0_fill_56 rfl rfl ?_
      refine XW.aload_n 58 dX0_fill_57 rfl rfl ?_
      refine XW.iload_n 59 dX0_fill_58 rfl rfl ?_
      refine XW.aload_n 60 dX0_fill_59 rfl rfl ?_
      refine XW.callV 63 (vs := []) (rest := [.int (fbF (Z.2.1 2) (Z.2.1 3) (Z.2.1 5) c), .ref 1, .ref 50]) (mcr := 0) (msr := 0) c0_54 dX0_fill_60 rfl rfl (by decide) (Nat.le_of_ble_eq_true rfl) rfl rfl (Nat.le_of_ble_eq_true rfl) rfl (c_rowBits rfl (by omega)) (fun r h1 hq => ?_)
      obtain ⟨rfl, rfl⟩ := hq
      refine XW.eqs (st' := [.int (rbF R l), .int (fbF (Z.2.1 2) (Z.2.1 3) (Z.2.1 5) c), .ref 1, .ref 50]) rfl rfl rfl ?_
      refine XW.iconst 64 dX0_fill_63 (v := -1) (by decide) rfl ?_
      refine XW.ixor 65 dX0_fill_64 rfl ?_
      refine XW.iand 66 dX0_fill_65 rfl ?_
      refine XW.callV 69 (vs := [.ref 1, .int ((fbF (Z.2.1 2) (Z.2.1 3) (Z.2.1 5) c) &&& ((rbF R l) ^^^ (-1)))]) (rest := []) (mcr := 0) (msr := 0) c0_57 dX0_fill_66 rfl rfl (by decide) (Nat.le_of_ble_eq_true rfl) rfl rfl (Nat.le_of_ble_eq_true rfl) rfl (c_nextOne (am := (fbF (Z.2.1 2) (Z.2.1 3) (Z.2.1 5) c) &&& (rbF R l ^^^ (-1))) (fun i hi hb => fun p hp e => ((may_iff hf (by omega) (by omega)).mp hb).2 p hp e.symm) hc c20 rfl (by omega) hf hG ok) (fun r h1 hq => ?_)
      obtain ⟨rfl, rfl⟩ := hq
      refine XW.eqs (st' := [.int (nxS (apG (Z.2.1 4) (Z.2.1 2)) (Z.2.1 2) (fbF (Z.2.1 2) (Z.2.1 3) (Z.2.1 5) c) c (R, l))]) rfl rfl rfl ?_
      refine XW.istore 71 (L' := [some (.ref 50), some (.ref 1), some (.int xn), some (.int (fbF (Z.2.1 2) (Z.2.1 3) (Z.2.1 5) c)), some (.int (nI l)), some (.int (nxS (apG (Z.2.1 4) (Z.2.1 2)) (Z.2.1 2) (fbF (Z.2.1 2) (Z.2.1 3) (Z.2.1 5) c) c (R, l)))]) dX0_fill_69 (by decide) rfl rfl rfl ?_
      refine XW.iload 73 dX0_fill_71 rfl rfl ?_
      refine XW.iconst 74 dX0_fill_73 (v := -1) (by decide) rfl ?_
      refine XW.icmp_ne 78 77 dX0_fill_74 (by decide) rfl (fun c_74 => ?_) (fun c_74 => ?_)
      · refine XW.aload_n 79 dX0_fill_78 rfl rfl ?_
        refine XW.iload 81 dX0_fill_79 rfl rfl ?_
        refine XW.callV 84 (vs := [.int (nxS (apG (Z.2.1 4) (Z.2.1 2)) (Z.2.1 2) (fbF (Z.2.1 2) (Z.2.1 3) (Z.2.1 5) c) c (R, l))]) (rest := []) (mcr := 0) (msr := 0) c0_46 dX0_fill_81 rfl rfl (by decide) (Nat.le_of_ble_eq_true rfl) rfl rfl (Nat.le_of_ble_eq_true rfl) rfl (c_putIntoRow _ rfl (by omega)) (fun r h1 hq => ?_)
        obtain ⟨rfl, rfl⟩ := hq
        refine XW.eqs (h' := HP (sI (sA (sF Z 51 G) 6 (upd R l (nxS (apG (Z.2.1 4) (Z.2.1 2)) (Z.2.1 2) (fbF (Z.2.1 2) (Z.2.1 3) (Z.2.1 5) c) c (R, l)))) 1 7 (nI (l + 1)))) rfl rfl rfl ?_
        refine XW.iinc 87 (y := nI (l + 1)) (L' := [some (.ref 50), some (.ref 1), some (.int xn), some (.int (fbF (Z.2.1 2) (Z.2.1 3) (Z.2.1 5) c)), some (.int (nI (l + 1))), some (.int (nxS (apG (Z.2.1 4) (Z.2.1 2)) (Z.2.1 2) (fbF (Z.2.1 2) (Z.2.1 3) (Z.2.1 5) c) c (R, l)))]) dX0_fill_84 rfl (na rfl rfl) (by decide) rfl rfl rfl ?_
        refine XW.goto 50 dX0_fill_87 (by decide) ?_
        obtain ⟨i, i1, i2, i3, i4⟩ := nxS_spec (s := (R, l)) hf (by omega) c_74
        refine XW.weak [true, true, true, true, true, false] (L' := [some (.ref 50), some (.ref 1), some (.int xn), some (.int (fbF (Z.2.1 2) (Z.2.1 3) (Z.2.1 5) c)), some (.int (nI (l + 1))), none]) rfl ?_
        refine XW.post (ih (l + 1) (upd R l (nxS (apG (Z.2.1 4) (Z.2.1 2)) (Z.2.1 2) (fbF (Z.2.1 2) (Z.2.1 3) (Z.2.1 5) c) c (R, l))) (by omega) (by omega) (by rw [i2]; exact rowOK_push hf i1 (by omega)) (by rw [i2]; exact rowDI_push hdi i4 (by omega))) (fun r h1 hq => ⟨hq.1, ?_⟩)
        rw [hq.2, show n - l = (n - (l + 1)) + 1 by omega, flF_y (s := (R, l)) c_74]
      · exact XW.vret dX0_fill_77 trivial (⟨rfl, by rw [flF_n (s := (R, l)) c_74]⟩)
set_option maxHeartbeats 4000000 in
set_option maxRecDepth 100000 in
theorem l_fill_39 {Z : xZ} {c n : Nat} {G : Nat → UInt32} {xn : Int32} (hxn : xn = nI n) (n8 : n ≤ 8) (hc : Z.1 1 0 = nI c) (c20 : c ≤ 20) (hG : gapOK G (Z.2.1 4) (Z.2.1 2) c) (ok : okS (Z.2.1 2) (Z.2.1 3) (Z.2.1 4) (Z.2.1 5)) {l : Nat} {R : Nat → Int32} (l8 : l ≤ 8) (hf : rowOK R l c) (hdi : rowDI R l) : XW mX0_fill 4 0 0 39 [some (.ref 50), some (.ref 1), some (.int xn), none, none, none] [] (HP (sI (sA (sF Z 51 G) 6 R) 1 7 (nI l))) (fun r h' => r = none ∧ h' = HP (sI (sA (sF Z 51 G) 6 (flF (apG (Z.2.1 4) (Z.2.1 2)) (Z.2.1 2) (fbF (Z.2.1 2) (Z.2.1 3) (Z.2.1 5) c) c (n - l) (R, l)).1) 1 7 (nI (flF (apG (Z.2.1 4) (Z.2.1 2)) (Z.2.1 2) (fbF (Z.2.1 2) (Z.2.1 3) (Z.2.1 5) c) c (n - l) (R, l)).2))) := by
  refine XW.aload_n 40 dX0_fill_39 rfl rfl ?_
  refine XW.callV 43 (vs := []) (rest := []) (mcr := 0) (msr := 0) c0_50 dX0_fill_40 rfl rfl (by decide) (Nat.le_of_ble_eq_true rfl) rfl rfl (Nat.le_of_ble_eq_true rfl) rfl (c_fitBits hc c20 ok) (fun r h1 hq => ?_)
  obtain ⟨rfl, rfl⟩ := hq
  refine XW.eqs (st' := [.int (fbF (Z.2.1 2) (Z.2.1 3) (Z.2.1 5) c)]) rfl rfl rfl ?_
  refine XW.istore_n 44 (L' := [some (.ref 50), some (.ref 1), some (.int xn), some (.int (fbF (Z.2.1 2) (Z.2.1 3) (Z.2.1 5) c)), none, none]) dX0_fill_43 (by decide) rfl rfl rfl ?_
  refine XW.aload_n 45 dX0_fill_44 rfl rfl ?_
  refine XW.getf 48 (v := .int (nI l)) f0_32 dX0_fill_45 rfl rfl rfl ?_
  refine XW.istore 50 (L' := [some (.ref 50), some (.ref 1), some (.int xn), some (.int (fbF (Z.2.1 2) (Z.2.1 3) (Z.2.1 5) c)), some (.int (nI l)), none]) dX0_fill_48 (by decide) rfl rfl rfl ?_
  exact l_fill_50 hxn n8 hc c20 hG ok 9 l R l8 (by omega) hf hdi
set_option maxHeartbeats 4000000 in
set_option maxRecDepth 100000 in
theorem l_fill_12 {Z : xZ} {c n : Nat} {G : Nat → UInt32} {xn : Int32} (hxn : xn = nI n) (n8 : n ≤ 8) (hc : Z.1 1 0 = nI c) (c20 : c ≤ 20) (hG : gapOK G (Z.2.1 4) (Z.2.1 2) c) (ok : okS (Z.2.1 2) (Z.2.1 3) (Z.2.1 4) (Z.2.1 5)) (hfx : (fxR (Z.1 1 5) (Z.2.1 6) c).2 ≤ 8) : ∀ (k : Nat) (i : Nat), i ≤ c → c < i + k → XW mX0_fill 4 0 0 12 [some (.ref 50), some (.ref 1), some (.int xn), some (.int (nI i)), none, none] [] (HP (sI (sA (sF Z 51 G) 6 ((fxR (Z.1 1 5) (Z.2.1 6) i).1)) 1 7 (nI ((fxR (Z.1 1 5) (Z.2.1 6) i).2)))) (fun r h' => r = none ∧ h' = HP (sI (sA (sF Z 51 G) 6 (flF (apG (Z.2.1 4) (Z.2.1 2)) (Z.2.1 2) (fbF (Z.2.1 2) (Z.2.1 3) (Z.2.1 5) c) c (n - (fxR (Z.1 1 5) (Z.2.1 6) c).2) (fxR (Z.1 1 5) (Z.2.1 6) c)).1) 1 7 (nI (flF (apG (Z.2.1 4) (Z.2.1 2)) (Z.2.1 2) (fbF (Z.2.1 2) (Z.2.1 3) (Z.2.1 5) c) c (n - (fxR (Z.1 1 5) (Z.2.1 6) c).2) (fxR (Z.1 1 5) (Z.2.1 6) c)).2))) := by
  intro k
  induction k with
  | zero => intro i g0 g1; omega
  | succ k ih =>
    intro i g0 g1
    refine XW.iload_n 13 dX0_fill_12 rfl rfl ?_
    refine XW.aload_n 14 dX0_fill_13 rfl rfl ?_
    refine XW.getf 17 (v := .int (Z.1 1 0)) f0_19 dX0_fill_14 rfl rfl rfl ?_
    refine XW.icmp_geN 39 20 i c dX0_fill_17 (by decide) rfl rfl hc (by omega) (by omega) (fun c_17 => ?_) (fun c_17 => ?_)
    · refine XW.weak [true, true, true, false, true, true] (L' := [some (.ref 50), some (.ref 1), some (.int xn), none, none, none]) rfl ?_
      refine XW.eqs (L' := [some (.ref 50), some (.ref 1), some (.int xn), none, none, none]) (h' := HP (sI (sA (sF Z 51 G) 6 ((fxR (Z.1 1 5) (Z.2.1 6) c).1)) 1 7 (nI ((fxR (Z.1 1 5) (Z.2.1 6) c).2)))) (by rfl) rfl (by rw [show i = c by omega]) ?_
      exact l_fill_39 hxn n8 hc c20 hG ok (l := (fxR (Z.1 1 5) (Z.2.1 6) c).2) (R := (fxR (Z.1 1 5) (Z.2.1 6) c).1) hfx (fxR_ok c (by omega)).1 (fxR_ok c (by omega)).2
    · refine XW.aload_n 21 dX0_fill_20 rfl rfl ?_
      refine XW.iload_n 22 dX0_fill_21 rfl rfl ?_
      refine XW.callV 25 (vs := [.int (nI i)]) (rest := []) (mcr := 0) (msr := 0) c0_42 dX0_fill_22 rfl rfl (by decide) (Nat.le_of_ble_eq_true rfl) rfl rfl (Nat.le_of_ble_eq_true rfl) rfl (c_isFixed _) (fun r h1 hq => ?_)
      obtain ⟨rfl, rfl⟩ := hq
      refine XW.eqs (st' := [.int (b2i (bitB (Z.1 1 5) (nI i)))]) rfl rfl rfl ?_
      refine XW.if_eqB 33 28 dX0_fill_25 (by decide) rfl (fun c_25 => ?_) (fun c_25 => ?_)
      · refine XW.iinc 36 (y := nI (i + 1)) (L' := [some (.ref 50), some (.ref 1), some (.int xn), some (.int (nI (i + 1))), none, none]) dX0_fill_33 rfl (na rfl rfl) (by decide) rfl rfl rfl ?_
        refine XW.goto 12 dX0_fill_36 (by decide) ?_
        refine XW.eqs (L' := [some (.ref 50), some (.ref 1), some (.int xn), some (.int (nI (i + 1))), none, none]) (h' := HP (sI (sA (sF Z 51 G) 6 ((fxR (Z.1 1 5) (Z.2.1 6) (i + 1)).1)) 1 7 (nI ((fxR (Z.1 1 5) (Z.2.1 6) (i + 1)).2)))) (by rfl) rfl (by rw [fxR_f c_25]) ?_
        exact ih (i + 1) (by omega) (by omega)
      · refine XW.aload_n 29 dX0_fill_28 rfl rfl ?_
        refine XW.iload_n 30 dX0_fill_29 rfl rfl ?_
        refine XW.callV 33 (vs := [.int (nI i)]) (rest := []) (mcr := 0) (msr := 0) c0_46 dX0_fill_30 rfl rfl (by decide) (Nat.le_of_ble_eq_true rfl) rfl rfl (Nat.le_of_ble_eq_true rfl) rfl (c_putIntoRow (l := (fxR (Z.1 1 5) (Z.2.1 6) i).2) _ rfl (by have := fxR_lt (row := Z.2.1 6) (c := c) (by omega) c_25; omega)) (fun r h1 hq => ?_)
        obtain ⟨rfl, rfl⟩ := hq
        refine XW.eqs (h' := HP (sI (sA (sF Z 51 G) 6 (upd (fxR (Z.1 1 5) (Z.2.1 6) i).1 (fxR (Z.1 1 5) (Z.2.1 6) i).2 (nI i))) 1 7 (nI ((fxR (Z.1 1 5) (Z.2.1 6) i).2 + 1)))) rfl rfl rfl ?_
        refine XW.iinc 36 (y := nI (i + 1)) (L' := [some (.ref 50), some (.ref 1), some (.int xn), some (.int (nI (i + 1))), none, none]) dX0_fill_33 rfl (na rfl rfl) (by decide) rfl rfl rfl ?_
        refine XW.goto 12 dX0_fill_36 (by decide) ?_
        refine XW.eqs (L' := [some (.ref 50), some (.ref 1), some (.int xn), some (.int (nI (i + 1))), none, none]) (h' := HP (sI (sA (sF Z 51 G) 6 ((fxR (Z.1 1 5) (Z.2.1 6) (i + 1)).1)) 1 7 (nI ((fxR (Z.1 1 5) (Z.2.1 6) (i + 1)).2)))) (by rfl) rfl (by rw [fxR_t c_25]) ?_
        exact ih (i + 1) (by omega) (by omega)
/-- the row behind FILLING for n -/
def fillF (ap : Nat → Nat → UInt32) (rgb : Nat → Int32) (fit fx : Int32) (row : Nat → Int32) (c n : Nat) : (Nat → Int32) × Nat := flF ap rgb fit c (n - (fxR fx row c).2) (fxR fx row c)
set_option maxHeartbeats 4000000 in
set_option maxRecDepth 100000 in
theorem c_fill {Z : xZ} {c n : Nat} {xn : Int32} (hxn : xn = nI n) (n8 : n ≤ 8) (hc : Z.1 1 0 = nI c) (c20 : c ≤ 20) (hfx : (fxR (Z.1 1 5) (Z.2.1 6) c).2 ≤ 8) (ok : okS (Z.2.1 2) (Z.2.1 3) (Z.2.1 4) (Z.2.1 5)) : XC mX0_fill 4 0 0 [.ref 50, .ref 1, .int xn] (HP Z) (fun r h' => r = none ∧ ∃ G, gapOK G (Z.2.1 4) (Z.2.1 2) c ∧ h' = HP (sI (sA (sF Z 51 G) 6 (fillF (apG (Z.2.1 4) (Z.2.1 2)) (Z.2.1 2) (fbF (Z.2.1 2) (Z.2.1 3) (Z.2.1 5) c) (Z.1 1 5) (Z.2.1 6) c n).1) 1 7 (nI (fillF (apG (Z.2.1 4) (Z.2.1 2)) (Z.2.1 2) (fbF (Z.2.1 2) (Z.2.1 3) (Z.2.1 5) c) (Z.1 1 5) (Z.2.1 6) c n).2))) := by
  show XW mX0_fill 4 0 0 0 [some (.ref 50), some (.ref 1), some (.int xn), none, none, none] [] (HP Z) _
  refine XW.aload_n 1 dX0_fill_0 rfl rfl ?_
  refine XW.aload_n 2 dX0_fill_1 rfl rfl ?_
  refine XW.callV 5 (vs := [.ref 1]) (rest := []) (mcr := 0) (msr := 0) c0_38 dX0_fill_2 rfl rfl (by decide) (Nat.le_of_ble_eq_true rfl) rfl rfl (Nat.le_of_ble_eq_true rfl) rfl (c_measure hc c20 ok) (fun r h1 hq => ?_)
  obtain ⟨rfl, G, hG, rfl⟩ := hq
  refine XW.aload_n 6 dX0_fill_5 rfl rfl ?_
  refine XW.iconst 7 dX0_fill_6 (v := 0) (by decide) rfl ?_
  refine XW.putf 10 (h' := HP (sI (sF Z 51 G) 1 7 0)) (p0_32 _) dX0_fill_7 rfl (Nat.le_of_ble_eq_true rfl) (xfit_i _) rfl rfl ?_
  refine XW.iconst 11 dX0_fill_10 (v := 0) (by decide) rfl ?_
  refine XW.istore_n 12 (L' := [some (.ref 50), some (.ref 1), some (.int xn), some (.int 0), none, none]) dX0_fill_11 (by decide) rfl rfl rfl ?_
  refine XW.eqs (L' := [some (.ref 50), some (.ref 1), some (.int xn), some (.int (nI 0)), none, none]) (h' := HP (sI (sA (sF Z 51 G) 6 ((fxR (Z.1 1 5) (Z.2.1 6) 0).1)) 1 7 (nI ((fxR (Z.1 1 5) (Z.2.1 6) 0).2)))) (by rfl) rfl (by rfl) ?_
  refine XW.post (l_fill_12 hxn n8 hc c20 hG ok hfx (c + 1) 0 (by omega) (by omega)) (fun r h1 hq => ⟨hq.1, G, hG, hq.2⟩)
