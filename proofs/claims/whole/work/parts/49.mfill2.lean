/-! The reference: filling whole; swapping -/
theorem rwN_120 (N R : Nat → Int32) (l : Nat) : rwN N R l 120 = nI l := if_pos rfl
theorem f_lightest {Z : xZ} {c l : Nat} (mi : MI (Z.2.1 54) c l) {G : Nat → UInt32} {R : Nat → Int32} : XC mX4_lightest 1 0 0 [.ref 53] (HP (sA (sF (sI Z 53 8 (fbF (nR (Z.2.1 54)) (nG (Z.2.1 54)) (nL (Z.2.1 54)) c)) 59 G) 54 (rwN (Z.2.1 54) R 0))) (fun r h' => r = some (.int (nxS (apG (nE (Z.2.1 54)) (nR (Z.2.1 54))) (nR (Z.2.1 54)) (fbF (nR (Z.2.1 54)) (nG (Z.2.1 54)) (nL (Z.2.1 54)) c) c (R, 0))) ∧ h' = HP (sA (sF (sI Z 53 8 (fbF (nR (Z.2.1 54)) (nG (Z.2.1 54)) (nL (Z.2.1 54)) c)) 59 G) 54 (rwN (Z.2.1 54) R 0))) := by
  have m2 : MI ((sA (sF (sI Z 53 8 (fbF (nR (Z.2.1 54)) (nG (Z.2.1 54)) (nL (Z.2.1 54)) c)) 59 G) 54 (rwN (Z.2.1 54) R 0)).2.1 54) c 0 := MI.rw' mi (by omega) (fun p hp => absurd hp (Nat.not_lt_zero p)) (fun a b _ hb => absurd hb (Nat.not_lt_zero b))
  have h := k_lightest (Z := sA (sF (sI Z 53 8 (fbF (nR (Z.2.1 54)) (nG (Z.2.1 54)) (nL (Z.2.1 54)) c)) 59 G) 54 (rwN (Z.2.1 54) R 0)) m2 (fit := (fbF (nR (Z.2.1 54)) (nG (Z.2.1 54)) (nL (Z.2.1 54)) c)) rfl
  have e1 : nR ((sA (sF (sI Z 53 8 (fbF (nR (Z.2.1 54)) (nG (Z.2.1 54)) (nL (Z.2.1 54)) c)) 59 G) 54 (rwN (Z.2.1 54) R 0)).2.1 54) = (nR (Z.2.1 54)) := rwN_R
  rw [e1] at h
  rw [nxS_0]; exact h
theorem f_farthest {Z : xZ} {c l : Nat} (mi : MI (Z.2.1 54) c l) {G : Nat → UInt32} {R : Nat → Int32} {q : Nat} (q1 : 1 ≤ q) (q8 : q ≤ 8) (hR : rowOK R q c) (hRd : rowDI R q) (hG : gapOK G (nE (Z.2.1 54)) (nR (Z.2.1 54)) c) : XC mX4_farthest 1 0 0 [.ref 53] (HP (sA (sF (sI Z 53 8 (fbF (nR (Z.2.1 54)) (nG (Z.2.1 54)) (nL (Z.2.1 54)) c)) 59 G) 54 (rwN (Z.2.1 54) R q))) (fun r h' => r = some (.int (nxS (apG (nE (Z.2.1 54)) (nR (Z.2.1 54))) (nR (Z.2.1 54)) (fbF (nR (Z.2.1 54)) (nG (Z.2.1 54)) (nL (Z.2.1 54)) c) c (R, q))) ∧ h' = HP (sA (sF (sI Z 53 8 (fbF (nR (Z.2.1 54)) (nG (Z.2.1 54)) (nL (Z.2.1 54)) c)) 59 G) 54 (rwN (Z.2.1 54) R q))) := by
  have m2 : MI ((sA (sF (sI Z 53 8 (fbF (nR (Z.2.1 54)) (nG (Z.2.1 54)) (nL (Z.2.1 54)) c)) 59 G) 54 (rwN (Z.2.1 54) R q)).2.1 54) c q := MI.rw' mi q8 hR hRd
  have e1 : nR ((sA (sF (sI Z 53 8 (fbF (nR (Z.2.1 54)) (nG (Z.2.1 54)) (nL (Z.2.1 54)) c)) 59 G) 54 (rwN (Z.2.1 54) R q)).2.1 54) = (nR (Z.2.1 54)) := rwN_R
  have e2 : nE ((sA (sF (sI Z 53 8 (fbF (nR (Z.2.1 54)) (nG (Z.2.1 54)) (nL (Z.2.1 54)) c)) 59 G) 54 (rwN (Z.2.1 54) R q)).2.1 54) = (nE (Z.2.1 54)) := rwN_E
  have e3 : mP ((sA (sF (sI Z 53 8 (fbF (nR (Z.2.1 54)) (nG (Z.2.1 54)) (nL (Z.2.1 54)) c)) 59 G) 54 (rwN (Z.2.1 54) R q)).2.1 54) = R := rwN_P
  have h := k_farthest (Z := sA (sF (sI Z 53 8 (fbF (nR (Z.2.1 54)) (nG (Z.2.1 54)) (nL (Z.2.1 54)) c)) 59 G) 54 (rwN (Z.2.1 54) R q)) m2 (fit := (fbF (nR (Z.2.1 54)) (nG (Z.2.1 54)) (nL (Z.2.1 54)) c)) rfl q1 (by rw [e1, e2]; exact hG)
  rw [e1, e2, e3] at h
  exact h
set_option maxHeartbeats 400000 in
set_option maxRecDepth 100000 in
theorem fill_e0 {Z : xZ} {c l : Nat} (mi : MI (Z.2.1 54) c l) {G : Nat → UInt32} {R : Nat → Int32} {q : Nat} {xn nx mr : Int32} : XW mX4_fillsFor 5 0 0 137 [some (.ref 53), some (.int xn), some (.int nx), some (.int mr)] [] (HP (sA (sF (sI Z 53 8 (fbF (nR (Z.2.1 54)) (nG (Z.2.1 54)) (nL (Z.2.1 54)) c)) 59 G) 54 (rwN (Z.2.1 54) R q))) (fun r h' => r = some (.int (nI q)) ∧ h' = HP (sA (sF (sI Z 53 8 (fbF (nR (Z.2.1 54)) (nG (Z.2.1 54)) (nL (Z.2.1 54)) c)) 59 G) 54 (rwN (Z.2.1 54) R q))) := by
  obtain ⟨hc, c20, hl, l8, ok, hf, hdi, hfb⟩ := id mi
  refine XW.aload_n 138 dX4_fillsFor_137 rfl rfl ?_
  refine XW.getf 141 (v := .ref 54) f4_7 dX4_fillsFor_138 rfl rfl rfl ?_
  refine XW.bipush 143 dX4_fillsFor_141 (v := 120) (by decide) rfl ?_
  refine XW.iald 144 120 dX4_fillsFor_143 rfl rfl (by omega) (by decide) rfl ?_
  exact XW.iret dX4_fillsFor_144 rfl (⟨rfl, rfl⟩)
set_option maxHeartbeats 800000 in
set_option maxRecDepth 100000 in
theorem l_kfill_94 {Z : xZ} {c l : Nat} (mi : MI (Z.2.1 54) c l) {n : Nat} {G : Nat → UInt32} {xn : Int32} (hxn : xn = nI n) (n8 : n ≤ 8) (hG : gapOK G (nE (Z.2.1 54)) (nR (Z.2.1 54)) c) : ∀ (k : Nat) (nx : Int32) (q : Nat) (R : Nat → Int32), 1 ≤ q → q ≤ 8 → 8 < q + k → rowOK R q c → rowDI R q → XW mX4_fillsFor 5 0 0 94 [some (.ref 53), some (.int xn), some (.int nx), some (.int (b2i true))] [] (HP (sA (sF (sI Z 53 8 (fbF (nR (Z.2.1 54)) (nG (Z.2.1 54)) (nL (Z.2.1 54)) c)) 59 G) 54 (rwN (Z.2.1 54) R q))) (fun r h' => r = some (.int (nI (flF (apG (nE (Z.2.1 54)) (nR (Z.2.1 54))) (nR (Z.2.1 54)) (fbF (nR (Z.2.1 54)) (nG (Z.2.1 54)) (nL (Z.2.1 54)) c) c (n - q) (R, q)).2)) ∧ h' = HP (sA (sF (sI Z 53 8 (fbF (nR (Z.2.1 54)) (nG (Z.2.1 54)) (nL (Z.2.1 54)) c)) 59 G) 54 (rwN (Z.2.1 54) ((flF (apG (nE (Z.2.1 54)) (nR (Z.2.1 54))) (nR (Z.2.1 54)) (fbF (nR (Z.2.1 54)) (nG (Z.2.1 54)) (nL (Z.2.1 54)) c) c (n - q) (R, q)).1) ((flF (apG (nE (Z.2.1 54)) (nR (Z.2.1 54))) (nR (Z.2.1 54)) (fbF (nR (Z.2.1 54)) (nG (Z.2.1 54)) (nL (Z.2.1 54)) c) c (n - q) (R, q)).2)))) := by
  intro k
  induction k with
  | zero => intro nx q R q1 g0 g1 hR hRd; omega
  | succ k ih =>
    intro nx q R q1 g0 g1 hR hRd
    obtain ⟨hc, c20, hl, l8, ok, hf, hdi, hfb⟩ := id mi
    refine XW.iload_n 95 dX4_fillsFor_94 rfl rfl ?_
    refine XW.if_eqB 137 98 dX4_fillsFor_95 (by decide) rfl (fun c_95 => ?_) (fun c_95 => ?_)
    · exact absurd c_95 (by decide)
    · refine XW.aload_n 99 dX4_fillsFor_98 rfl rfl ?_
      refine XW.getf 102 (v := .ref 54) f4_7 dX4_fillsFor_99 rfl rfl rfl ?_
      refine XW.bipush 104 dX4_fillsFor_102 (v := 120) (by decide) rfl ?_
      refine XW.iald 105 120 dX4_fillsFor_104 rfl rfl (by omega) (by decide) rfl ?_
      refine XW.iload_n 106 dX4_fillsFor_105 rfl rfl ?_
      refine XW.icmp_geN 137 109 q n dX4_fillsFor_106 (by decide) rfl (rwN_120 (Z.2.1 54) R q) hxn (by omega) (by omega) (fun c_106 => ?_) (fun c_106 => ?_)
      · refine XW.post (fill_e0 mi) (fun r h1 hq => ?_)
        rw [show n - q = 0 by omega]; exact hq 
      · refine XW.aload_n 110 dX4_fillsFor_109 rfl rfl ?_
        refine XW.callV 113 (vs := []) (rest := []) (mcr := 0) (msr := 0) c4_152 dX4_fillsFor_110 rfl rfl (by decide) (Nat.le_of_ble_eq_true rfl) rfl rfl (Nat.le_of_ble_eq_true rfl) rfl (f_farthest (Z := Z) mi q1 (by omega) hR hRd hG) (fun r h1 hq => ?_)
        obtain ⟨rfl, rfl⟩ := hq
        refine XW.eqs (st' := [.int (nxS (apG (nE (Z.2.1 54)) (nR (Z.2.1 54))) (nR (Z.2.1 54)) (fbF (nR (Z.2.1 54)) (nG (Z.2.1 54)) (nL (Z.2.1 54)) c) c (R, q))]) rfl rfl rfl ?_
        refine XW.istore_n 114 (L' := [some (.ref 53), some (.int xn), some (.int (nxS (apG (nE (Z.2.1 54)) (nR (Z.2.1 54))) (nR (Z.2.1 54)) (fbF (nR (Z.2.1 54)) (nG (Z.2.1 54)) (nL (Z.2.1 54)) c) c (R, q))), some (.int (b2i true))]) dX4_fillsFor_113 (by decide) rfl rfl rfl ?_
        refine XW.iload_n 115 dX4_fillsFor_114 rfl rfl ?_
        refine XW.iconst 116 dX4_fillsFor_115 (v := -1) (by decide) rfl ?_
        refine XW.icmp_eq 123 119 dX4_fillsFor_116 (by decide) rfl (fun c_116 => ?_) (fun c_116 => ?_)
        · refine XW.iconst 124 dX4_fillsFor_123 (v := 0) (by decide) rfl ?_
          refine XW.istore_n 125 (L' := [some (.ref 53), some (.int xn), some (.int (nxS (apG (nE (Z.2.1 54)) (nR (Z.2.1 54))) (nR (Z.2.1 54)) (fbF (nR (Z.2.1 54)) (nG (Z.2.1 54)) (nL (Z.2.1 54)) c) c (R, q))), some (.int 0)]) dX4_fillsFor_124 (by decide) rfl rfl rfl ?_
          refine XW.iload_n 126 dX4_fillsFor_125 rfl rfl ?_
          refine XW.if_eq 94 129 dX4_fillsFor_126 (by decide) rfl (fun c_126 => ?_) (fun c_126 => ?_)
          · refine XW.iload_n 95 dX4_fillsFor_94 rfl rfl ?_
            refine XW.if_eq 137 98 dX4_fillsFor_95 (by decide) rfl (fun _ => ?_) (fun c_95b => absurd rfl c_95b)
            refine XW.post (fill_e0 mi) (fun r h1 hq => ?_)
            rw [flF_n (s := (R, q)) c_116]; exact hq
          · exact absurd c_126 (by decide)
        · refine XW.iconst 120 dX4_fillsFor_119 (v := 1) (by decide) rfl ?_
          refine XW.goto 124 dX4_fillsFor_120 (by decide) ?_
          refine XW.istore_n 125 (L' := [some (.ref 53), some (.int xn), some (.int (nxS (apG (nE (Z.2.1 54)) (nR (Z.2.1 54))) (nR (Z.2.1 54)) (fbF (nR (Z.2.1 54)) (nG (Z.2.1 54)) (nL (Z.2.1 54)) c) c (R, q))), some (.int 1)]) dX4_fillsFor_124 (by decide) rfl rfl rfl ?_
          refine XW.iload_n 126 dX4_fillsFor_125 rfl rfl ?_
          refine XW.if_eq 94 129 dX4_fillsFor_126 (by decide) rfl (fun c_126 => ?_) (fun c_126 => ?_)
          · exact absurd c_126 (by decide)
          · refine XW.aload_n 130 dX4_fillsFor_129 rfl rfl ?_
            refine XW.iload_n 131 dX4_fillsFor_130 rfl rfl ?_
            refine XW.callV 134 (vs := [.int (nxS (apG (nE (Z.2.1 54)) (nR (Z.2.1 54))) (nR (Z.2.1 54)) (fbF (nR (Z.2.1 54)) (nG (Z.2.1 54)) (nL (Z.2.1 54)) c) c (R, q))]) (rest := []) (mcr := 0) (msr := 0) c4_145 dX4_fillsFor_131 rfl rfl (by decide) (Nat.le_of_ble_eq_true rfl) rfl rfl (Nat.le_of_ble_eq_true rfl) rfl (k_putsLast (l := q) _ (rwN_120 (Z.2.1 54) R q) (by omega)) (fun r h1 hq => ?_)
            obtain ⟨rfl, rfl⟩ := hq
            refine XW.eqs (h' := HP (sA (sF (sI Z 53 8 (fbF (nR (Z.2.1 54)) (nG (Z.2.1 54)) (nL (Z.2.1 54)) c)) 59 G) 54 (rwN (Z.2.1 54) (upd R q (nxS (apG (nE (Z.2.1 54)) (nR (Z.2.1 54))) (nR (Z.2.1 54)) (fbF (nR (Z.2.1 54)) (nG (Z.2.1 54)) (nL (Z.2.1 54)) c) c (R, q))) (q + 1)))) rfl rfl (congrArg HP (by rw [← rwN_put]; exact sA_same _ _ _ _)) ?_
            refine XW.goto 94 dX4_fillsFor_134 (by decide) ?_
            obtain ⟨i, i1, i2, i3, i4⟩ := nxS_spec (s := (R, q)) hR (by omega) c_116
            refine XW.eqs (L' := [some (.ref 53), some (.int xn), some (.int (nxS (apG (nE (Z.2.1 54)) (nR (Z.2.1 54))) (nR (Z.2.1 54)) (fbF (nR (Z.2.1 54)) (nG (Z.2.1 54)) (nL (Z.2.1 54)) c) c (R, q))), some (.int (b2i true))]) (by rfl) rfl rfl ?_
            refine XW.post (ih _ (q + 1) (upd R q (nxS (apG (nE (Z.2.1 54)) (nR (Z.2.1 54))) (nR (Z.2.1 54)) (fbF (nR (Z.2.1 54)) (nG (Z.2.1 54)) (nL (Z.2.1 54)) c) c (R, q))) (by omega) (by omega) (by omega) (by rw [i2]; exact rowOK_push hR i1 (by omega)) (by rw [i2]; exact rowDI_push hRd i4 (by omega))) (fun r h1 hq => ?_)
            rw [show n - q = (n - (q + 1)) + 1 by omega, flF_y (s := (R, q)) c_116]; exact hq
theorem q_pos {q : Nat} (h : ¬ q = 0) (h2 : q < 2 ^ 31) : ¬ nI q ≤ 0 := by
  rw [show (0 : Int32) = nI 0 from rfl, nI_leI h2 (by omega)]; omega
set_option maxHeartbeats 400000 in
set_option maxRecDepth 100000 in
theorem l_kfill_49 {Z : xZ} {c l : Nat} (mi : MI (Z.2.1 54) c l) {n : Nat} {G : Nat → UInt32} {xn : Int32} (hxn : xn = nI n) (n8 : n ≤ 8) (hG : gapOK G (nE (Z.2.1 54)) (nR (Z.2.1 54)) c) (n1 : 1 ≤ n) {x : Int32} {R : Nat → Int32} {q : Nat} (q8 : q ≤ 8) (hR : rowOK R q c) (hRd : rowDI R q) : XW mX4_fillsFor 5 0 0 49 [some (.ref 53), some (.int xn), some (.int x), none] [] (HP (sA (sF (sI Z 53 8 (fbF (nR (Z.2.1 54)) (nG (Z.2.1 54)) (nL (Z.2.1 54)) c)) 59 G) 54 (rwN (Z.2.1 54) R q))) (fun r h' => r = some (.int (nI (flF (apG (nE (Z.2.1 54)) (nR (Z.2.1 54))) (nR (Z.2.1 54)) (fbF (nR (Z.2.1 54)) (nG (Z.2.1 54)) (nL (Z.2.1 54)) c) c (n - q) (R, q)).2)) ∧ h' = HP (sA (sF (sI Z 53 8 (fbF (nR (Z.2.1 54)) (nG (Z.2.1 54)) (nL (Z.2.1 54)) c)) 59 G) 54 (rwN (Z.2.1 54) ((flF (apG (nE (Z.2.1 54)) (nR (Z.2.1 54))) (nR (Z.2.1 54)) (fbF (nR (Z.2.1 54)) (nG (Z.2.1 54)) (nL (Z.2.1 54)) c) c (n - q) (R, q)).1) ((flF (apG (nE (Z.2.1 54)) (nR (Z.2.1 54))) (nR (Z.2.1 54)) (fbF (nR (Z.2.1 54)) (nG (Z.2.1 54)) (nL (Z.2.1 54)) c) c (n - q) (R, q)).2)))) := by
  obtain ⟨hc, c20, hl, l8, ok, hf, hdi, hfb⟩ := id mi
  refine XW.aload_n 50 dX4_fillsFor_49 rfl rfl ?_
  refine XW.getf 53 (v := .ref 54) f4_7 dX4_fillsFor_50 rfl rfl rfl ?_
  refine XW.bipush 55 dX4_fillsFor_53 (v := 120) (by decide) rfl ?_
  refine XW.iald 56 120 dX4_fillsFor_55 rfl rfl (by omega) (by decide) rfl ?_
  refine XW.if_ne 66 59 dX4_fillsFor_56 (by decide) rfl (fun c_56 => ?_) (fun c_56 => ?_)
  · have q1 : ¬ q = 0 := fun e => c_56 (by rw [e]; rfl)
    refine XW.iconst 67 dX4_fillsFor_66 (v := -1) (by decide) rfl ?_
    refine XW.istore_n 68 (L' := [some (.ref 53), some (.int xn), some (.int (-1)), none]) dX4_fillsFor_67 (by decide) rfl rfl rfl ?_
    refine XW.iload_n 69 dX4_fillsFor_68 rfl rfl ?_
    refine XW.iconst 70 dX4_fillsFor_69 (v := -1) (by decide) rfl ?_
    refine XW.icmp_eq 78 73 dX4_fillsFor_70 (by decide) rfl (fun c_70 => ?_) (fun c_70 => ?_)
    · skip
      refine XW.aload_n 79 dX4_fillsFor_78 rfl rfl ?_
      refine XW.getf 82 (v := .ref 54) f4_7 dX4_fillsFor_79 rfl rfl rfl ?_
      refine XW.bipush 84 dX4_fillsFor_82 (v := 120) (by decide) rfl ?_
      refine XW.iald 85 120 dX4_fillsFor_84 rfl rfl (by omega) (by decide) rfl ?_
      refine XW.if_le 92 88 dX4_fillsFor_85 (by decide) rfl (fun c_85 => ?_) (fun c_85 => ?_)
      · exact absurd c_85 (q_pos (by omega) (by omega))
      · skip
        refine XW.iconst 89 dX4_fillsFor_88 (v := 1) (by decide) rfl ?_
        refine XW.goto 93 dX4_fillsFor_89 (by decide) ?_
        refine XW.istore_n 94 (L' := [some (.ref 53), some (.int xn), some (.int (-1)), some (.int 1)]) dX4_fillsFor_93 (by decide) rfl rfl rfl ?_
        refine XW.eqs (L' := [some (.ref 53), some (.int xn), some (.int (-1)), some (.int (b2i true))]) (by rfl) rfl rfl ?_
        exact l_kfill_94 mi hxn n8 hG 9 _ q R (by omega) (by omega) (by omega) hR hRd
    · exact absurd rfl c_70
  · have q0 : q = 0 := (nI_eq (by omega) (by omega)).mp (show nI q = nI 0 from c_56)
    subst q0
    refine XW.aload_n 60 dX4_fillsFor_59 rfl rfl ?_
    refine XW.callV 63 (vs := []) (rest := []) (mcr := 0) (msr := 0) c4_149 dX4_fillsFor_60 rfl rfl (by decide) (Nat.le_of_ble_eq_true rfl) rfl rfl (Nat.le_of_ble_eq_true rfl) rfl (f_lightest (Z := Z) mi) (fun r h1 hq => ?_)
    obtain ⟨rfl, rfl⟩ := hq
    refine XW.eqs (st' := [.int (nxS (apG (nE (Z.2.1 54)) (nR (Z.2.1 54))) (nR (Z.2.1 54)) (fbF (nR (Z.2.1 54)) (nG (Z.2.1 54)) (nL (Z.2.1 54)) c) c (R, 0))]) rfl rfl rfl ?_
    refine XW.goto 67 dX4_fillsFor_63 (by decide) ?_
    refine XW.istore_n 68 (L' := [some (.ref 53), some (.int xn), some (.int (nxS (apG (nE (Z.2.1 54)) (nR (Z.2.1 54))) (nR (Z.2.1 54)) (fbF (nR (Z.2.1 54)) (nG (Z.2.1 54)) (nL (Z.2.1 54)) c) c (R, 0))), none]) dX4_fillsFor_67 (by decide) rfl rfl rfl ?_
    refine XW.iload_n 69 dX4_fillsFor_68 rfl rfl ?_
    refine XW.iconst 70 dX4_fillsFor_69 (v := -1) (by decide) rfl ?_
    refine XW.icmp_eq 78 73 dX4_fillsFor_70 (by decide) rfl (fun c_70 => ?_) (fun c_70 => ?_)
    · skip
      refine XW.aload_n 79 dX4_fillsFor_78 rfl rfl ?_
      refine XW.getf 82 (v := .ref 54) f4_7 dX4_fillsFor_79 rfl rfl rfl ?_
      refine XW.bipush 84 dX4_fillsFor_82 (v := 120) (by decide) rfl ?_
      refine XW.iald 85 120 dX4_fillsFor_84 rfl rfl (by omega) (by decide) rfl ?_
      refine XW.if_le 92 88 dX4_fillsFor_85 (by decide) rfl (fun c_85 => ?_) (fun c_85 => ?_)
      · skip
        refine XW.iconst 93 dX4_fillsFor_92 (v := 0) (by decide) rfl ?_
        refine XW.istore_n 94 (L' := [some (.ref 53), some (.int xn), some (.int (nxS (apG (nE (Z.2.1 54)) (nR (Z.2.1 54))) (nR (Z.2.1 54)) (fbF (nR (Z.2.1 54)) (nG (Z.2.1 54)) (nL (Z.2.1 54)) c) c (R, 0))), some (.int 0)]) dX4_fillsFor_93 (by decide) rfl rfl rfl ?_
        refine XW.iload_n 95 dX4_fillsFor_94 rfl rfl ?_
        refine XW.if_eq 137 98 dX4_fillsFor_95 (by decide) rfl (fun _ => ?_) (fun c_95b => absurd rfl c_95b)
        refine XW.post (fill_e0 mi) (fun r h1 hq => ?_)
        rw [flF_n (s := (R, 0)) c_70]; exact hq
      · exact absurd (show (0 : Int32) ≤ 0 by decide) c_85
    · skip
      refine XW.aload_n 74 dX4_fillsFor_73 rfl rfl ?_
      refine XW.iload_n 75 dX4_fillsFor_74 rfl rfl ?_
      refine XW.callV 78 (vs := [.int (nxS (apG (nE (Z.2.1 54)) (nR (Z.2.1 54))) (nR (Z.2.1 54)) (fbF (nR (Z.2.1 54)) (nG (Z.2.1 54)) (nL (Z.2.1 54)) c) c (R, 0))]) (rest := []) (mcr := 0) (msr := 0) c4_145 dX4_fillsFor_75 rfl rfl (by decide) (Nat.le_of_ble_eq_true rfl) rfl rfl (Nat.le_of_ble_eq_true rfl) rfl (k_putsLast (l := 0) _ (rwN_120 (Z.2.1 54) R 0) (by omega)) (fun r h1 hq => ?_)
      obtain ⟨rfl, rfl⟩ := hq
      refine XW.eqs (h' := HP (sA (sF (sI Z 53 8 (fbF (nR (Z.2.1 54)) (nG (Z.2.1 54)) (nL (Z.2.1 54)) c)) 59 G) 54 (rwN (Z.2.1 54) (upd R 0 (nxS (apG (nE (Z.2.1 54)) (nR (Z.2.1 54))) (nR (Z.2.1 54)) (fbF (nR (Z.2.1 54)) (nG (Z.2.1 54)) (nL (Z.2.1 54)) c) c (R, 0))) 1))) rfl rfl (congrArg HP (by rw [← rwN_put]; exact sA_same _ _ _ _)) ?_
      refine XW.aload_n 79 dX4_fillsFor_78 rfl rfl ?_
      refine XW.getf 82 (v := .ref 54) f4_7 dX4_fillsFor_79 rfl rfl rfl ?_
      refine XW.bipush 84 dX4_fillsFor_82 (v := 120) (by decide) rfl ?_
      refine XW.iald 85 120 dX4_fillsFor_84 rfl rfl (by omega) (by decide) rfl ?_
      refine XW.if_le 92 88 dX4_fillsFor_85 (by decide) rfl (fun c_85 => ?_) (fun c_85 => ?_)
      · exact absurd c_85 (by show ¬ (1 : Int32) ≤ 0; decide)
      · skip
        refine XW.iconst 89 dX4_fillsFor_88 (v := 1) (by decide) rfl ?_
        refine XW.goto 93 dX4_fillsFor_89 (by decide) ?_
        refine XW.istore_n 94 (L' := [some (.ref 53), some (.int xn), some (.int (nxS (apG (nE (Z.2.1 54)) (nR (Z.2.1 54))) (nR (Z.2.1 54)) (fbF (nR (Z.2.1 54)) (nG (Z.2.1 54)) (nL (Z.2.1 54)) c) c (R, 0))), some (.int 1)]) dX4_fillsFor_93 (by decide) rfl rfl rfl ?_
        obtain ⟨i, i1, i2, i3, i4⟩ := nxS_spec (s := (R, 0)) hR (by omega) c_70
        refine XW.eqs (L' := [some (.ref 53), some (.int xn), some (.int (nxS (apG (nE (Z.2.1 54)) (nR (Z.2.1 54))) (nR (Z.2.1 54)) (fbF (nR (Z.2.1 54)) (nG (Z.2.1 54)) (nL (Z.2.1 54)) c) c (R, 0))), some (.int (b2i true))]) (by rfl) rfl rfl ?_
        refine XW.post (l_kfill_94 mi hxn n8 hG 8 _ 1 (upd R 0 (nxS (apG (nE (Z.2.1 54)) (nR (Z.2.1 54))) (nR (Z.2.1 54)) (fbF (nR (Z.2.1 54)) (nG (Z.2.1 54)) (nL (Z.2.1 54)) c) c (R, 0))) (by omega) (by omega) (by omega) (by rw [i2]; exact rowOK_push hR i1 (by omega)) (by rw [i2]; exact rowDI_push hRd i4 (by omega))) (fun r h1 hq => ?_)
        rw [show n - 0 = (n - 1) + 1 by omega, flF_y (s := (R, 0)) c_70]; exact hq
set_option maxHeartbeats 400000 in
set_option maxRecDepth 100000 in
theorem l_kfill_14 {Z : xZ} {c l : Nat} (mi : MI (Z.2.1 54) c l) {n : Nat} {G : Nat → UInt32} {xn : Int32} (hxn : xn = nI n) (n8 : n ≤ 8) (hG : gapOK G (nE (Z.2.1 54)) (nR (Z.2.1 54)) c) (n1 : 1 ≤ n) (hfx : (fxR (Z.2.1 54 61) (mP (Z.2.1 54)) c).2 ≤ 8) : ∀ (k : Nat) (i : Nat), i ≤ c → c < i + k → XW mX4_fillsFor 5 0 0 14 [some (.ref 53), some (.int xn), some (.int (nI i)), none] [] (HP (sA (sF (sI Z 53 8 (fbF (nR (Z.2.1 54)) (nG (Z.2.1 54)) (nL (Z.2.1 54)) c)) 59 G) 54 (rwN (Z.2.1 54) ((fxR (Z.2.1 54 61) (mP (Z.2.1 54)) i).1) ((fxR (Z.2.1 54 61) (mP (Z.2.1 54)) i).2)))) (fun r h' => r = some (.int (nI (fillF (apG (nE (Z.2.1 54)) (nR (Z.2.1 54))) (nR (Z.2.1 54)) (fbF (nR (Z.2.1 54)) (nG (Z.2.1 54)) (nL (Z.2.1 54)) c) (Z.2.1 54 61) (mP (Z.2.1 54)) c n).2)) ∧ h' = HP (sA (sF (sI Z 53 8 (fbF (nR (Z.2.1 54)) (nG (Z.2.1 54)) (nL (Z.2.1 54)) c)) 59 G) 54 (rwN (Z.2.1 54) ((fillF (apG (nE (Z.2.1 54)) (nR (Z.2.1 54))) (nR (Z.2.1 54)) (fbF (nR (Z.2.1 54)) (nG (Z.2.1 54)) (nL (Z.2.1 54)) c) (Z.2.1 54 61) (mP (Z.2.1 54)) c n).1) ((fillF (apG (nE (Z.2.1 54)) (nR (Z.2.1 54))) (nR (Z.2.1 54)) (fbF (nR (Z.2.1 54)) (nG (Z.2.1 54)) (nL (Z.2.1 54)) c) (Z.2.1 54 61) (mP (Z.2.1 54)) c n).2)))) := by
  intro k
  induction k with
  | zero => intro i g0 g1; omega
  | succ k ih =>
    intro i g0 g1
    obtain ⟨hc, c20, hl, l8, ok, hf, hdi, hfb⟩ := id mi
    refine XW.iload_n 15 dX4_fillsFor_14 rfl rfl ?_
    refine XW.aload_n 16 dX4_fillsFor_15 rfl rfl ?_
    refine XW.getf 19 (v := .ref 54) f4_7 dX4_fillsFor_16 rfl rfl rfl ?_
    refine XW.iconst 20 dX4_fillsFor_19 (v := 0) (by decide) rfl ?_
    refine XW.iald 21 0 dX4_fillsFor_20 rfl rfl (by omega) (by decide) rfl ?_
    refine XW.icmp_geN 49 24 i c dX4_fillsFor_21 (by decide) rfl rfl hc (by omega) (by omega) (fun c_21 => ?_) (fun c_21 => ?_)
    · refine XW.eqs (L' := [some (.ref 53), some (.int xn), some (.int (nI i)), none]) (h' := HP (sA (sF (sI Z 53 8 (fbF (nR (Z.2.1 54)) (nG (Z.2.1 54)) (nL (Z.2.1 54)) c)) 59 G) 54 (rwN (Z.2.1 54) ((fxR (Z.2.1 54 61) (mP (Z.2.1 54)) c).1) ((fxR (Z.2.1 54 61) (mP (Z.2.1 54)) c).2)))) (by rfl) rfl (by rw [show i = c by omega]) ?_
      exact l_kfill_49 mi hxn n8 hG n1 (q := (fxR (Z.2.1 54 61) (mP (Z.2.1 54)) c).2) (R := (fxR (Z.2.1 54 61) (mP (Z.2.1 54)) c).1) hfx (fxR_ok c (by omega)).1 (fxR_ok c (by omega)).2
    · refine XW.aload_n 25 dX4_fillsFor_24 rfl rfl ?_
      refine XW.getf 28 (v := .ref 54) f4_7 dX4_fillsFor_25 rfl rfl rfl ?_
      refine XW.bipush 30 dX4_fillsFor_28 (v := 61) (by decide) rfl ?_
      refine XW.iald 31 61 dX4_fillsFor_30 rfl rfl (by omega) (by decide) rfl ?_
      refine XW.iload_n 32 dX4_fillsFor_31 rfl rfl ?_
      refine XW.callS 35 (vs := [.int ((rwN (Z.2.1 54) ((fxR (Z.2.1 54 61) (mP (Z.2.1 54)) i).1) ((fxR (Z.2.1 54 61) (mP (Z.2.1 54)) i).2)) 61), .int (nI i)]) (rest := []) (mcr := 0) (msr := 0) c4_136 dX4_fillsFor_32 rfl (by decide) (Nat.le_of_ble_eq_true rfl) rfl rfl (Nat.le_of_ble_eq_true rfl) rfl (k_has _ _ _) (fun r h1 hq => ?_)
      obtain ⟨rfl, rfl⟩ := hq
      refine XW.eqs (st' := [.int (b2i (bitB (Z.2.1 54 61) (nI i)))]) rfl rfl rfl ?_
      refine XW.if_eqB 43 38 dX4_fillsFor_35 (by decide) rfl (fun c_35 => ?_) (fun c_35 => ?_)
      · refine XW.iinc 46 (y := nI (i + 1)) (L' := [some (.ref 53), some (.int xn), some (.int (nI (i + 1))), none]) dX4_fillsFor_43 rfl (na rfl rfl) (by decide) rfl rfl rfl ?_
        refine XW.goto 14 dX4_fillsFor_46 (by decide) ?_
        refine XW.eqs (L' := [some (.ref 53), some (.int xn), some (.int (nI (i + 1))), none]) (h' := HP (sA (sF (sI Z 53 8 (fbF (nR (Z.2.1 54)) (nG (Z.2.1 54)) (nL (Z.2.1 54)) c)) 59 G) 54 (rwN (Z.2.1 54) ((fxR (Z.2.1 54 61) (mP (Z.2.1 54)) (i + 1)).1) ((fxR (Z.2.1 54 61) (mP (Z.2.1 54)) (i + 1)).2)))) (by rfl) rfl (by rw [fxR_f c_35]) ?_
        exact ih (i + 1) (by omega) (by omega)
      · refine XW.aload_n 39 dX4_fillsFor_38 rfl rfl ?_
        refine XW.iload_n 40 dX4_fillsFor_39 rfl rfl ?_
        refine XW.callV 43 (vs := [.int (nI i)]) (rest := []) (mcr := 0) (msr := 0) c4_145 dX4_fillsFor_40 rfl rfl (by decide) (Nat.le_of_ble_eq_true rfl) rfl rfl (Nat.le_of_ble_eq_true rfl) rfl (k_putsLast (l := (fxR (Z.2.1 54 61) (mP (Z.2.1 54)) i).2) _ (rwN_120 (Z.2.1 54) (fxR (Z.2.1 54 61) (mP (Z.2.1 54)) i).1 (fxR (Z.2.1 54 61) (mP (Z.2.1 54)) i).2) (by have := fxR_lt (row := (mP (Z.2.1 54))) (c := c) (by omega) c_35; omega)) (fun r h1 hq => ?_)
        obtain ⟨rfl, rfl⟩ := hq
        refine XW.eqs (h' := HP (sA (sF (sI Z 53 8 (fbF (nR (Z.2.1 54)) (nG (Z.2.1 54)) (nL (Z.2.1 54)) c)) 59 G) 54 (rwN (Z.2.1 54) (upd (fxR (Z.2.1 54 61) (mP (Z.2.1 54)) i).1 (fxR (Z.2.1 54 61) (mP (Z.2.1 54)) i).2 (nI i)) ((fxR (Z.2.1 54 61) (mP (Z.2.1 54)) i).2 + 1)))) rfl rfl (congrArg HP (by rw [← rwN_put]; exact sA_same _ _ _ _)) ?_
        refine XW.iinc 46 (y := nI (i + 1)) (L' := [some (.ref 53), some (.int xn), some (.int (nI (i + 1))), none]) dX4_fillsFor_43 rfl (na rfl rfl) (by decide) rfl rfl rfl ?_
        refine XW.goto 14 dX4_fillsFor_46 (by decide) ?_
        refine XW.eqs (L' := [some (.ref 53), some (.int xn), some (.int (nI (i + 1))), none]) (h' := HP (sA (sF (sI Z 53 8 (fbF (nR (Z.2.1 54)) (nG (Z.2.1 54)) (nL (Z.2.1 54)) c)) 59 G) 54 (rwN (Z.2.1 54) ((fxR (Z.2.1 54 61) (mP (Z.2.1 54)) (i + 1)).1) ((fxR (Z.2.1 54 61) (mP (Z.2.1 54)) (i + 1)).2)))) (by rfl) rfl (by rw [fxR_t c_35]) ?_
        exact ih (i + 1) (by omega) (by omega)
theorem rwN_z {N : Nat → Int32} : upd N 120 0 = rwN N (mP N) 0 := by
  funext i
  show (if i = 120 then (0 : Int32) else N i) = if i = 120 then nI 0 else if 121 ≤ i then N (121 + (i - 121)) else N i
  by_cases e : i = 120
  · rw [if_pos e, if_pos e]; rfl
  · rw [if_neg e, if_neg e]
    by_cases e3 : 121 ≤ i
    · rw [if_pos e3, show 121 + (i - 121) = i by omega]
    · rw [if_neg e3]
set_option maxHeartbeats 400000 in
set_option maxRecDepth 100000 in
theorem k_fillsFor {Z : xZ} {c l : Nat} (mi : MI (Z.2.1 54) c l) {n : Nat} {xn : Int32} (hxn : xn = nI n) (n8 : n ≤ 8) (n1 : 1 ≤ n) (hfx : (fxR (Z.2.1 54 61) (mP (Z.2.1 54)) c).2 ≤ 8) : XC mX4_fillsFor 5 0 0 [.ref 53, .int xn] (HP Z) (fun r h' => r = some (.int (nI (fillF (apG (nE (Z.2.1 54)) (nR (Z.2.1 54))) (nR (Z.2.1 54)) (fbF (nR (Z.2.1 54)) (nG (Z.2.1 54)) (nL (Z.2.1 54)) c) (Z.2.1 54 61) (mP (Z.2.1 54)) c n).2)) ∧ ∃ G, h' = HP (sA (sF (sI Z 53 8 (fbF (nR (Z.2.1 54)) (nG (Z.2.1 54)) (nL (Z.2.1 54)) c)) 59 G) 54 (rwN (Z.2.1 54) ((fillF (apG (nE (Z.2.1 54)) (nR (Z.2.1 54))) (nR (Z.2.1 54)) (fbF (nR (Z.2.1 54)) (nG (Z.2.1 54)) (nL (Z.2.1 54)) c) (Z.2.1 54 61) (mP (Z.2.1 54)) c n).1) ((fillF (apG (nE (Z.2.1 54)) (nR (Z.2.1 54))) (nR (Z.2.1 54)) (fbF (nR (Z.2.1 54)) (nG (Z.2.1 54)) (nL (Z.2.1 54)) c) (Z.2.1 54 61) (mP (Z.2.1 54)) c n).2)))) := by
  show XW mX4_fillsFor 5 0 0 0 [some (.ref 53), some (.int xn), none, none] [] (HP Z) _
  obtain ⟨hc, c20, hl, l8, ok, hf, hdi, hfb⟩ := id mi
  refine XW.aload_n 1 dX4_fillsFor_0 rfl rfl ?_
  refine XW.callV 4 (vs := []) (rest := []) (mcr := 0) (msr := 0) c4_142 dX4_fillsFor_1 rfl rfl (by decide) (Nat.le_of_ble_eq_true rfl) rfl rfl (Nat.le_of_ble_eq_true rfl) rfl (k_laysFar mi) (fun r h1 hq => ?_)
  obtain ⟨rfl, G, hG, rfl⟩ := hq
  refine XW.aload_n 5 dX4_fillsFor_4 rfl rfl ?_
  refine XW.getf 8 (v := .ref 54) f4_7 dX4_fillsFor_5 rfl rfl rfl ?_
  refine XW.bipush 10 dX4_fillsFor_8 (v := 120) (by decide) rfl ?_
  refine XW.iconst 11 dX4_fillsFor_10 (v := 0) (by decide) rfl ?_
  refine XW.iast 12 (h' := HP (sA (sF (sI Z 53 8 (fbF (nR (Z.2.1 54)) (nG (Z.2.1 54)) (nL (Z.2.1 54)) c)) 59 G) 54 (upd (Z.2.1 54) 120 0))) 120 dX4_fillsFor_11 rfl rfl (by omega) (by decide) rfl rfl ?_
  refine XW.iconst 13 dX4_fillsFor_12 (v := 0) (by decide) rfl ?_
  refine XW.istore_n 14 (L' := [some (.ref 53), some (.int xn), some (.int 0), none]) dX4_fillsFor_13 (by decide) rfl rfl rfl ?_
  refine XW.eqs (L' := [some (.ref 53), some (.int xn), some (.int (nI 0)), none]) (h' := HP (sA (sF (sI Z 53 8 (fbF (nR (Z.2.1 54)) (nG (Z.2.1 54)) (nL (Z.2.1 54)) c)) 59 G) 54 (rwN (Z.2.1 54) ((fxR (Z.2.1 54 61) (mP (Z.2.1 54)) 0).1) ((fxR (Z.2.1 54 61) (mP (Z.2.1 54)) 0).2)))) (by rfl) rfl (by rw [rwN_z]; rfl) ?_
  refine XW.post (l_kfill_14 mi hxn n8 hG n1 hfx (c + 1) 0 (by omega) (by omega)) (fun r h1 hq => ⟨hq.1, G, hq.2⟩)
set_option maxHeartbeats 400000 in
set_option maxRecDepth 100000 in
theorem k_canFill {Z : xZ} {c l : Nat} (mi : MI (Z.2.1 54) c l) (x : Int32) : XC mX4_canFill 1 0 0 [.ref 53, .int x] (HP Z) (fun r h' => r = some (.int (b2i (decide (biF (Z.2.1 54 61) 20 ≤ x)))) ∧ h' = HP Z) := by
  show XW mX4_canFill 1 0 0 0 [some (.ref 53), some (.int x)] [] (HP Z) _
  obtain ⟨hc, c20, hl, l8, ok, hf, hdi, hfb⟩ := id mi
  refine XW.aload_n 1 dX4_canFill_0 rfl rfl ?_
  refine XW.getf 4 (v := .ref 54) f4_7 dX4_canFill_1 rfl rfl rfl ?_
  refine XW.bipush 6 dX4_canFill_4 (v := 61) (by decide) rfl ?_
  refine XW.iald 7 61 dX4_canFill_6 rfl rfl (by omega) (by decide) rfl ?_
  refine XW.callS 10 (vs := [.int (Z.2.1 54 61)]) (rest := []) (mcr := 0) (msr := 0) c4_95 dX4_canFill_7 rfl (by decide) (Nat.le_of_ble_eq_true rfl) rfl rfl (Nat.le_of_ble_eq_true rfl) rfl (k_bitsIn _ _) (fun r h1 hq => ?_)
  obtain ⟨rfl, rfl⟩ := hq
  refine XW.iload_n 11 dX4_canFill_10 rfl rfl ?_
  refine XW.icmp_gt 18 14 dX4_canFill_11 (by decide) rfl (fun c_11 => ?_) (fun c_11 => ?_)
  · refine XW.iconst 19 dX4_canFill_18 (v := 0) (by decide) rfl ?_
    exact XW.iret dX4_canFill_19 rfl (⟨pF (decide_eq_false (Int32.not_le.mpr c_11)), rfl⟩)
  · refine XW.iconst 15 dX4_canFill_14 (v := 1) (by decide) rfl ?_
    refine XW.goto 19 dX4_canFill_15 (by decide) ?_
    exact XW.iret dX4_canFill_19 rfl (⟨pT (decide_eq_true (Int32.not_lt.mp c_11)), rfl⟩)
