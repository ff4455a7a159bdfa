/-! The class: an order, the whole text -/
/-- an ORDER as the class reads it: whether it is well, where it ends, the rows of first and second numbers -/
def oC (b : Nat → Int32) (len q k : Nat) (f1 f2 : Nat → Int32) : Bool × Nat × (Nat → Int32) × (Nat → Int32) :=
  if bh b len k = 99 then
    (if (sxF b len (k + 1)).1 = true then ((enF b len (sxF b len (k + 1)).2.1).1, (enF b len (sxF b len (k + 1)).2.1).2, upd f1 q (sxF b len (k + 1)).2.2, f2) else (false, (sxF b len (k + 1)).2.1, f1, f2))
  else if bh b len k = 102 ∨ bh b len k = 108 then
    (if (nuF b len (k + 1)).1 = true then
      (if (nuF b len (nuF b len (k + 1)).2.1).1 = true then ((enF b len (nuF b len (nuF b len (k + 1)).2.1).2.1).1, (enF b len (nuF b len (nuF b len (k + 1)).2.1).2.1).2, upd f1 q (nuF b len (k + 1)).2.2, upd f2 q (nuF b len (nuF b len (k + 1)).2.1).2.2)
        else (false, (nuF b len (nuF b len (k + 1)).2.1).2.1, upd f1 q (nuF b len (k + 1)).2.2, upd f2 q (nuF b len (nuF b len (k + 1)).2.1).2.2))
      else (false, (nuF b len (k + 1)).2.1, upd f1 q (nuF b len (k + 1)).2.2, f2))
  else if bh b len k = 112 then
    (if (nuF b len (k + 1)).1 = true then ((enF b len (nuF b len (k + 1)).2.1).1, (enF b len (nuF b len (k + 1)).2.1).2, upd f1 q (nuF b len (k + 1)).2.2, f2) else (false, (nuF b len (k + 1)).2.1, upd f1 q (nuF b len (k + 1)).2.2, f2))
  else if bh b len k = 115 then ((enF b len (k + 1)).1, (enF b len (k + 1)).2, f1, f2)
  else (false, k, f1, f2)
theorem i32_ne {x : Int32} {n : Int32} {z : Int} (hz : n.toInt = z) (h : ¬ x = n) : ¬ z = x.toInt := fun q => h (Int32.toInt_inj.mp (by rw [← q, hz]))
set_option maxHeartbeats 1000000 in
set_option maxRecDepth 100000 in
theorem c_readOrder {Z : xZ} {len q k : Nat} (hlen : Z.1 45 1 = nI len) (l120 : len ≤ 120) (hq3 : Z.1 45 3 = nI q) (q60 : q < 60) (kl : k < len) : XC mX2_readOrder 3 0 0 [.ref 45] (HP (sI Z 45 2 (nI k))) (fun r h' => r = some (.int (b2i (oC (Z.2.1 46) len q k (Z.2.1 48) (Z.2.1 49)).1)) ∧ h' = HP (sI (sA (sA (sA Z 47 (upd (Z.2.1 47) q (bh (Z.2.1 46) len k))) 48 (oC (Z.2.1 46) len q k (Z.2.1 48) (Z.2.1 49)).2.2.1) 49 (oC (Z.2.1 46) len q k (Z.2.1 48) (Z.2.1 49)).2.2.2) 45 2 (nI (oC (Z.2.1 46) len q k (Z.2.1 48) (Z.2.1 49)).2.1))) := by
  show XW mX2_readOrder 3 0 0 0 [some (.ref 45), none] [] (HP (sI Z 45 2 (nI k))) _
  refine XW.aload_n 1 dX2_readOrder_0 rfl rfl ?_
  refine XW.callV 4 (vs := []) (rest := []) (mcr := 0) (msr := 0) c2_41 dX2_readOrder_1 rfl rfl (by decide) (Nat.le_of_ble_eq_true rfl) rfl rfl (Nat.le_of_ble_eq_true rfl) rfl (c_byteHere (Z := Z) (k := k) hlen l120 (by omega)) (fun r h1 hq => ?_)
  obtain ⟨rfl, rfl⟩ := hq
  refine XW.eqs (st' := [.int (bh (Z.2.1 46) len k)]) rfl rfl rfl ?_
  refine XW.istore_n 5 (L' := [some (.ref 45), some (.int (bh (Z.2.1 46) len k))]) dX2_readOrder_4 (by decide) rfl rfl rfl ?_
  refine XW.aload_n 6 dX2_readOrder_5 rfl rfl ?_
  refine XW.getf 9 (v := .ref 47) f2_25 dX2_readOrder_6 rfl rfl rfl ?_
  refine XW.aload_n 10 dX2_readOrder_9 rfl rfl ?_
  refine XW.getf 13 (v := .int (Z.1 45 3)) f2_22 dX2_readOrder_10 rfl rfl rfl ?_
  refine XW.iload_n 14 dX2_readOrder_13 rfl rfl ?_
  refine XW.iast 15 (h' := HP (sI (sA Z 47 (upd (Z.2.1 47) q (bh (Z.2.1 46) len k))) 45 2 (nI k))) q dX2_readOrder_14 rfl hq3 (by omega) (by decide) rfl rfl ?_
  refine XW.iload_n 16 dX2_readOrder_15 rfl rfl ?_
  by_cases e99 : bh (Z.2.1 46) len k = 99
  · refine XW.lookup 68 dX2_readOrder_16 (by decide) (by rw [e99] <;> rfl) (by decide) ?_
    refine XW.aload_n 69 dX2_readOrder_68 rfl rfl ?_
    refine XW.dup 70 dX2_readOrder_69 rfl rfl ?_
    refine XW.getf 73 (v := .int (nI k)) f2_19 dX2_readOrder_70 rfl rfl rfl ?_
    refine XW.iconst 74 dX2_readOrder_73 (v := 1) (by decide) rfl ?_
    refine XW.iadd 75 dX2_readOrder_74 rfl ?_
    refine XW.putf 78 (h' := HP (sI (sA Z 47 (upd (Z.2.1 47) q (bh (Z.2.1 46) len k))) 45 2 ((nI k) + 1))) (p2_19 _) dX2_readOrder_75 rfl (Nat.le_of_ble_eq_true rfl) (xfit_i _) rfl rfl ?_
    refine XW.eqs (h' := HP (sI (sA Z 47 (upd (Z.2.1 47) q (bh (Z.2.1 46) len k))) 45 2 (nI (k + 1)))) rfl rfl (by rw [nI_1]) ?_
    refine XW.aload_n 79 dX2_readOrder_78 rfl rfl ?_
    refine XW.callV 82 (vs := []) (rest := []) (mcr := 0) (msr := 0) c2_45 dX2_readOrder_79 rfl rfl (by decide) (Nat.le_of_ble_eq_true rfl) rfl rfl (Nat.le_of_ble_eq_true rfl) rfl (c_six (Z := sA Z 47 (upd (Z.2.1 47) q (bh (Z.2.1 46) len k))) (k := k + 1) hlen l120 hq3 q60 (by omega)) (fun r h1 hq => ?_)
    obtain ⟨rfl, rfl⟩ := hq
    have sx := sxF_le (b := (Z.2.1 46)) (len := len) (k := k + 1) (by omega)
    refine XW.eqs (h' := HP (sI (if (sxF (Z.2.1 46) len (k + 1)).1 = true then sA (sA Z 47 (upd (Z.2.1 47) q (bh (Z.2.1 46) len k))) 48 (upd (Z.2.1 48) q (sxF (Z.2.1 46) len (k + 1)).2.2) else sA Z 47 (upd (Z.2.1 47) q (bh (Z.2.1 46) len k))) 45 2 (nI (sxF (Z.2.1 46) len (k + 1)).2.1))) rfl rfl rfl ?_
    refine XW.eqs (st' := [.int (b2i ((sxF (Z.2.1 46) len (k + 1)).1))]) rfl rfl rfl ?_
    refine XW.if_eqB 96 85 dX2_readOrder_82 (by decide) rfl (fun c_82 => ?_) (fun c_82 => ?_)
    · refine XW.eqs (h' := HP (sI (sA Z 47 (upd (Z.2.1 47) q (bh (Z.2.1 46) len k))) 45 2 (nI ((sxF (Z.2.1 46) len (k + 1)).2.1)))) rfl rfl (by rw [if_neg (by rw [c_82]; decide)]) ?_
      refine XW.iconst 97 dX2_readOrder_96 (v := 0) (by decide) rfl ?_
      exact XW.iret dX2_readOrder_97 rfl (by have e : oC (Z.2.1 46) len q k (Z.2.1 48) (Z.2.1 49) = _ := by { unfold oC; simp only [*, if_true, if_false, reduceIte, Bool.false_eq_true, true_or, or_true, or_false, false_or]; rfl }; rw [e]; exact ⟨rfl, rfl⟩)
    · refine XW.eqs (h' := HP (sI (sA (sA Z 47 (upd (Z.2.1 47) q (bh (Z.2.1 46) len k))) 48 (upd (Z.2.1 48) q (sxF (Z.2.1 46) len (k + 1)).2.2)) 45 2 (nI ((sxF (Z.2.1 46) len (k + 1)).2.1)))) rfl rfl (by rw [if_pos c_82]) ?_
      refine XW.aload_n 86 dX2_readOrder_85 rfl rfl ?_
      refine XW.callV 89 (vs := []) (rest := []) (mcr := 0) (msr := 0) c2_48 dX2_readOrder_86 rfl rfl (by decide) (Nat.le_of_ble_eq_true rfl) rfl rfl (Nat.le_of_ble_eq_true rfl) rfl (c_readEnd (Z := sA (sA Z 47 (upd (Z.2.1 47) q (bh (Z.2.1 46) len k))) 48 (upd (Z.2.1 48) q (sxF (Z.2.1 46) len (k + 1)).2.2)) (k := (sxF (Z.2.1 46) len (k + 1)).2.1) hlen l120 (by omega)) (fun r h1 hq => ?_)
      obtain ⟨rfl, rfl⟩ := hq
      have en := enF_le (b := (Z.2.1 46)) (len := len) (k := (sxF (Z.2.1 46) len (k + 1)).2.1) (by omega)
      refine XW.eqs (h' := HP (sI (sA (sA Z 47 (upd (Z.2.1 47) q (bh (Z.2.1 46) len k))) 48 (upd (Z.2.1 48) q (sxF (Z.2.1 46) len (k + 1)).2.2)) 45 2 (nI ((enF (Z.2.1 46) len ((sxF (Z.2.1 46) len (k + 1)).2.1)).2)))) rfl rfl rfl ?_
      refine XW.eqs (st' := [.int (b2i ((enF (Z.2.1 46) len ((sxF (Z.2.1 46) len (k + 1)).2.1)).1))]) rfl rfl rfl ?_
      refine XW.if_eqB 96 92 dX2_readOrder_89 (by decide) rfl (fun c_89 => ?_) (fun c_89 => ?_)
      · refine XW.iconst 97 dX2_readOrder_96 (v := 0) (by decide) rfl ?_
        exact XW.iret dX2_readOrder_97 rfl (by have e : oC (Z.2.1 46) len q k (Z.2.1 48) (Z.2.1 49) = _ := by { unfold oC; simp only [*, if_true, if_false, reduceIte, Bool.false_eq_true, true_or, or_true, or_false, false_or]; rfl }; rw [e]; exact ⟨rfl, rfl⟩)
      · refine XW.iconst 93 dX2_readOrder_92 (v := 1) (by decide) rfl ?_
        refine XW.goto 97 dX2_readOrder_93 (by decide) ?_
        exact XW.iret dX2_readOrder_97 rfl (by have e : oC (Z.2.1 46) len q k (Z.2.1 48) (Z.2.1 49) = _ := by { unfold oC; simp only [*, if_true, if_false, reduceIte, Bool.false_eq_true, true_or, or_true, or_false, false_or]; rfl }; rw [e]; exact ⟨rfl, rfl⟩)
  · have n_e99 := i32_ne (z := 99) (by decide) e99
    by_cases e102 : bh (Z.2.1 46) len k = 102
    · refine XW.lookup 98 dX2_readOrder_16 (by decide) (by rw [e102] <;> rfl) (by decide) ?_
      refine XW.aload_n 99 dX2_readOrder_98 rfl rfl ?_
      refine XW.dup 100 dX2_readOrder_99 rfl rfl ?_
      refine XW.getf 103 (v := .int (nI k)) f2_19 dX2_readOrder_100 rfl rfl rfl ?_
      refine XW.iconst 104 dX2_readOrder_103 (v := 1) (by decide) rfl ?_
      refine XW.iadd 105 dX2_readOrder_104 rfl ?_
      refine XW.putf 108 (h' := HP (sI (sA Z 47 (upd (Z.2.1 47) q (bh (Z.2.1 46) len k))) 45 2 ((nI k) + 1))) (p2_19 _) dX2_readOrder_105 rfl (Nat.le_of_ble_eq_true rfl) (xfit_i _) rfl rfl ?_
      refine XW.eqs (h' := HP (sI (sA Z 47 (upd (Z.2.1 47) q (bh (Z.2.1 46) len k))) 45 2 (nI (k + 1)))) rfl rfl (by rw [nI_1]) ?_
      refine XW.aload_n 109 dX2_readOrder_108 rfl rfl ?_
      refine XW.aload_n 110 dX2_readOrder_109 rfl rfl ?_
      refine XW.getf 113 (v := .ref 48) f2_28 dX2_readOrder_110 rfl rfl rfl ?_
      refine XW.callV 116 (vs := [.ref 48]) (rest := []) (mcr := 0) (msr := 0) c2_51 dX2_readOrder_113 rfl rfl (by decide) (Nat.le_of_ble_eq_true rfl) rfl rfl (Nat.le_of_ble_eq_true rfl) rfl (c_num48 (Z := sA Z 47 (upd (Z.2.1 47) q (bh (Z.2.1 46) len k))) (k := k + 1) hlen l120 hq3 q60 (by omega)) (fun r h1 hq => ?_)
      obtain ⟨rfl, rfl⟩ := hq
      have nu0 := nuF_le (b := (Z.2.1 46)) (len := len) (k := k + 1) (by omega)
      refine XW.eqs (h' := HP (sI (sA (sA Z 47 (upd (Z.2.1 47) q (bh (Z.2.1 46) len k))) 48 (upd (Z.2.1 48) q (nuF (Z.2.1 46) len (k + 1)).2.2)) 45 2 (nI ((nuF (Z.2.1 46) len (k + 1)).2.1)))) rfl rfl rfl ?_
      refine XW.eqs (st' := [.int (b2i ((nuF (Z.2.1 46) len (k + 1)).1))]) rfl rfl rfl ?_
      refine XW.if_eqB 141 119 dX2_readOrder_116 (by decide) rfl (fun c_116 => ?_) (fun c_116 => ?_)
      · refine XW.iconst 142 dX2_readOrder_141 (v := 0) (by decide) rfl ?_
        exact XW.iret dX2_readOrder_142 rfl (by have e : oC (Z.2.1 46) len q k (Z.2.1 48) (Z.2.1 49) = _ := by { unfold oC; simp only [*, if_true, if_false, reduceIte, Bool.false_eq_true, true_or, or_true, or_false, false_or]; rfl }; rw [e]; exact ⟨rfl, rfl⟩)
      · refine XW.aload_n 120 dX2_readOrder_119 rfl rfl ?_
        refine XW.aload_n 121 dX2_readOrder_120 rfl rfl ?_
        refine XW.getf 124 (v := .ref 49) f2_31 dX2_readOrder_121 rfl rfl rfl ?_
        refine XW.callV 127 (vs := [.ref 49]) (rest := []) (mcr := 0) (msr := 0) c2_51 dX2_readOrder_124 rfl rfl (by decide) (Nat.le_of_ble_eq_true rfl) rfl rfl (Nat.le_of_ble_eq_true rfl) rfl (c_num49 (Z := sA (sA Z 47 (upd (Z.2.1 47) q (bh (Z.2.1 46) len k))) 48 (upd (Z.2.1 48) q (nuF (Z.2.1 46) len (k + 1)).2.2)) (k := (nuF (Z.2.1 46) len (k + 1)).2.1) hlen l120 hq3 q60 (by omega)) (fun r h1 hq => ?_)
        obtain ⟨rfl, rfl⟩ := hq
        have nu0 := nuF_le (b := (Z.2.1 46)) (len := len) (k := (nuF (Z.2.1 46) len (k + 1)).2.1) (by omega)
        refine XW.eqs (h' := HP (sI (sA (sA (sA Z 47 (upd (Z.2.1 47) q (bh (Z.2.1 46) len k))) 48 (upd (Z.2.1 48) q (nuF (Z.2.1 46) len (k + 1)).2.2)) 49 (upd (Z.2.1 49) q (nuF (Z.2.1 46) len ((nuF (Z.2.1 46) len (k + 1)).2.1)).2.2)) 45 2 (nI ((nuF (Z.2.1 46) len ((nuF (Z.2.1 46) len (k + 1)).2.1)).2.1)))) rfl rfl rfl ?_
        refine XW.eqs (st' := [.int (b2i ((nuF (Z.2.1 46) len ((nuF (Z.2.1 46) len (k + 1)).2.1)).1))]) rfl rfl rfl ?_
        refine XW.if_eqB 141 130 dX2_readOrder_127 (by decide) rfl (fun c_127 => ?_) (fun c_127 => ?_)
        · refine XW.iconst 142 dX2_readOrder_141 (v := 0) (by decide) rfl ?_
          exact XW.iret dX2_readOrder_142 rfl (by have e : oC (Z.2.1 46) len q k (Z.2.1 48) (Z.2.1 49) = _ := by { unfold oC; simp only [*, if_true, if_false, reduceIte, Bool.false_eq_true, true_or, or_true, or_false, false_or]; rfl }; rw [e]; exact ⟨rfl, rfl⟩)
        · refine XW.aload_n 131 dX2_readOrder_130 rfl rfl ?_
          refine XW.callV 134 (vs := []) (rest := []) (mcr := 0) (msr := 0) c2_48 dX2_readOrder_131 rfl rfl (by decide) (Nat.le_of_ble_eq_true rfl) rfl rfl (Nat.le_of_ble_eq_true rfl) rfl (c_readEnd (Z := sA (sA (sA Z 47 (upd (Z.2.1 47) q (bh (Z.2.1 46) len k))) 48 (upd (Z.2.1 48) q (nuF (Z.2.1 46) len (k + 1)).2.2)) 49 (upd (Z.2.1 49) q (nuF (Z.2.1 46) len ((nuF (Z.2.1 46) len (k + 1)).2.1)).2.2)) (k := (nuF (Z.2.1 46) len ((nuF (Z.2.1 46) len (k + 1)).2.1)).2.1) hlen l120 (by omega)) (fun r h1 hq => ?_)
          obtain ⟨rfl, rfl⟩ := hq
          have en := enF_le (b := (Z.2.1 46)) (len := len) (k := (nuF (Z.2.1 46) len ((nuF (Z.2.1 46) len (k + 1)).2.1)).2.1) (by omega)
          refine XW.eqs (h' := HP (sI (sA (sA (sA Z 47 (upd (Z.2.1 47) q (bh (Z.2.1 46) len k))) 48 (upd (Z.2.1 48) q (nuF (Z.2.1 46) len (k + 1)).2.2)) 49 (upd (Z.2.1 49) q (nuF (Z.2.1 46) len ((nuF (Z.2.1 46) len (k + 1)).2.1)).2.2)) 45 2 (nI ((enF (Z.2.1 46) len ((nuF (Z.2.1 46) len ((nuF (Z.2.1 46) len (k + 1)).2.1)).2.1)).2)))) rfl rfl rfl ?_
          refine XW.eqs (st' := [.int (b2i ((enF (Z.2.1 46) len ((nuF (Z.2.1 46) len ((nuF (Z.2.1 46) len (k + 1)).2.1)).2.1)).1))]) rfl rfl rfl ?_
          refine XW.if_eqB 141 137 dX2_readOrder_134 (by decide) rfl (fun c_134 => ?_) (fun c_134 => ?_)
          · refine XW.iconst 142 dX2_readOrder_141 (v := 0) (by decide) rfl ?_
            exact XW.iret dX2_readOrder_142 rfl (by have e : oC (Z.2.1 46) len q k (Z.2.1 48) (Z.2.1 49) = _ := by { unfold oC; simp only [*, if_true, if_false, reduceIte, Bool.false_eq_true, true_or, or_true, or_false, false_or]; rfl }; rw [e]; exact ⟨rfl, rfl⟩)
          · refine XW.iconst 138 dX2_readOrder_137 (v := 1) (by decide) rfl ?_
            refine XW.goto 142 dX2_readOrder_138 (by decide) ?_
            exact XW.iret dX2_readOrder_142 rfl (by have e : oC (Z.2.1 46) len q k (Z.2.1 48) (Z.2.1 49) = _ := by { unfold oC; simp only [*, if_true, if_false, reduceIte, Bool.false_eq_true, true_or, or_true, or_false, false_or]; rfl }; rw [e]; exact ⟨rfl, rfl⟩)
    · have n_e102 := i32_ne (z := 102) (by decide) e102
      by_cases e108 : bh (Z.2.1 46) len k = 108
      · refine XW.lookup 98 dX2_readOrder_16 (by decide) (by rw [e108] <;> rfl) (by decide) ?_
        refine XW.aload_n 99 dX2_readOrder_98 rfl rfl ?_
        refine XW.dup 100 dX2_readOrder_99 rfl rfl ?_
        refine XW.getf 103 (v := .int (nI k)) f2_19 dX2_readOrder_100 rfl rfl rfl ?_
        refine XW.iconst 104 dX2_readOrder_103 (v := 1) (by decide) rfl ?_
        refine XW.iadd 105 dX2_readOrder_104 rfl ?_
        refine XW.putf 108 (h' := HP (sI (sA Z 47 (upd (Z.2.1 47) q (bh (Z.2.1 46) len k))) 45 2 ((nI k) + 1))) (p2_19 _) dX2_readOrder_105 rfl (Nat.le_of_ble_eq_true rfl) (xfit_i _) rfl rfl ?_
        refine XW.eqs (h' := HP (sI (sA Z 47 (upd (Z.2.1 47) q (bh (Z.2.1 46) len k))) 45 2 (nI (k + 1)))) rfl rfl (by rw [nI_1]) ?_
        refine XW.aload_n 109 dX2_readOrder_108 rfl rfl ?_
        refine XW.aload_n 110 dX2_readOrder_109 rfl rfl ?_
        refine XW.getf 113 (v := .ref 48) f2_28 dX2_readOrder_110 rfl rfl rfl ?_
        refine XW.callV 116 (vs := [.ref 48]) (rest := []) (mcr := 0) (msr := 0) c2_51 dX2_readOrder_113 rfl rfl (by decide) (Nat.le_of_ble_eq_true rfl) rfl rfl (Nat.le_of_ble_eq_true rfl) rfl (c_num48 (Z := sA Z 47 (upd (Z.2.1 47) q (bh (Z.2.1 46) len k))) (k := k + 1) hlen l120 hq3 q60 (by omega)) (fun r h1 hq => ?_)
        obtain ⟨rfl, rfl⟩ := hq
        have nu0 := nuF_le (b := (Z.2.1 46)) (len := len) (k := k + 1) (by omega)
        refine XW.eqs (h' := HP (sI (sA (sA Z 47 (upd (Z.2.1 47) q (bh (Z.2.1 46) len k))) 48 (upd (Z.2.1 48) q (nuF (Z.2.1 46) len (k + 1)).2.2)) 45 2 (nI ((nuF (Z.2.1 46) len (k + 1)).2.1)))) rfl rfl rfl ?_
        refine XW.eqs (st' := [.int (b2i ((nuF (Z.2.1 46) len (k + 1)).1))]) rfl rfl rfl ?_
        refine XW.if_eqB 141 119 dX2_readOrder_116 (by decide) rfl (fun c_116 => ?_) (fun c_116 => ?_)
        · refine XW.iconst 142 dX2_readOrder_141 (v := 0) (by decide) rfl ?_
          exact XW.iret dX2_readOrder_142 rfl (by have e : oC (Z.2.1 46) len q k (Z.2.1 48) (Z.2.1 49) = _ := by { unfold oC; simp only [*, if_true, if_false, reduceIte, Bool.false_eq_true, true_or, or_true, or_false, false_or]; rfl }; rw [e]; exact ⟨rfl, rfl⟩)
        · refine XW.aload_n 120 dX2_readOrder_119 rfl rfl ?_
          refine XW.aload_n 121 dX2_readOrder_120 rfl rfl ?_
          refine XW.getf 124 (v := .ref 49) f2_31 dX2_readOrder_121 rfl rfl rfl ?_
          refine XW.callV 127 (vs := [.ref 49]) (rest := []) (mcr := 0) (msr := 0) c2_51 dX2_readOrder_124 rfl rfl (by decide) (Nat.le_of_ble_eq_true rfl) rfl rfl (Nat.le_of_ble_eq_true rfl) rfl (c_num49 (Z := sA (sA Z 47 (upd (Z.2.1 47) q (bh (Z.2.1 46) len k))) 48 (upd (Z.2.1 48) q (nuF (Z.2.1 46) len (k + 1)).2.2)) (k := (nuF (Z.2.1 46) len (k + 1)).2.1) hlen l120 hq3 q60 (by omega)) (fun r h1 hq => ?_)
          obtain ⟨rfl, rfl⟩ := hq
          have nu0 := nuF_le (b := (Z.2.1 46)) (len := len) (k := (nuF (Z.2.1 46) len (k + 1)).2.1) (by omega)
          refine XW.eqs (h' := HP (sI (sA (sA (sA Z 47 (upd (Z.2.1 47) q (bh (Z.2.1 46) len k))) 48 (upd (Z.2.1 48) q (nuF (Z.2.1 46) len (k + 1)).2.2)) 49 (upd (Z.2.1 49) q (nuF (Z.2.1 46) len ((nuF (Z.2.1 46) len (k + 1)).2.1)).2.2)) 45 2 (nI ((nuF (Z.2.1 46) len ((nuF (Z.2.1 46) len (k + 1)).2.1)).2.1)))) rfl rfl rfl ?_
          refine XW.eqs (st' := [.int (b2i ((nuF (Z.2.1 46) len ((nuF (Z.2.1 46) len (k + 1)).2.1)).1))]) rfl rfl rfl ?_
          refine XW.if_eqB 141 130 dX2_readOrder_127 (by decide) rfl (fun c_127 => ?_) (fun c_127 => ?_)
          · refine XW.iconst 142 dX2_readOrder_141 (v := 0) (by decide) rfl ?_
            exact XW.iret dX2_readOrder_142 rfl (by have e : oC (Z.2.1 46) len q k (Z.2.1 48) (Z.2.1 49) = _ := by { unfold oC; simp only [*, if_true, if_false, reduceIte, Bool.false_eq_true, true_or, or_true, or_false, false_or]; rfl }; rw [e]; exact ⟨rfl, rfl⟩)
          · refine XW.aload_n 131 dX2_readOrder_130 rfl rfl ?_
            refine XW.callV 134 (vs := []) (rest := []) (mcr := 0) (msr := 0) c2_48 dX2_readOrder_131 rfl rfl (by decide) (Nat.le_of_ble_eq_true rfl) rfl rfl (Nat.le_of_ble_eq_true rfl) rfl (c_readEnd (Z := sA (sA (sA Z 47 (upd (Z.2.1 47) q (bh (Z.2.1 46) len k))) 48 (upd (Z.2.1 48) q (nuF (Z.2.1 46) len (k + 1)).2.2)) 49 (upd (Z.2.1 49) q (nuF (Z.2.1 46) len ((nuF (Z.2.1 46) len (k + 1)).2.1)).2.2)) (k := (nuF (Z.2.1 46) len ((nuF (Z.2.1 46) len (k + 1)).2.1)).2.1) hlen l120 (by omega)) (fun r h1 hq => ?_)
            obtain ⟨rfl, rfl⟩ := hq
            have en := enF_le (b := (Z.2.1 46)) (len := len) (k := (nuF (Z.2.1 46) len ((nuF (Z.2.1 46) len (k + 1)).2.1)).2.1) (by omega)
            refine XW.eqs (h' := HP (sI (sA (sA (sA Z 47 (upd (Z.2.1 47) q (bh (Z.2.1 46) len k))) 48 (upd (Z.2.1 48) q (nuF (Z.2.1 46) len (k + 1)).2.2)) 49 (upd (Z.2.1 49) q (nuF (Z.2.1 46) len ((nuF (Z.2.1 46) len (k + 1)).2.1)).2.2)) 45 2 (nI ((enF (Z.2.1 46) len ((nuF (Z.2.1 46) len ((nuF (Z.2.1 46) len (k + 1)).2.1)).2.1)).2)))) rfl rfl rfl ?_
            refine XW.eqs (st' := [.int (b2i ((enF (Z.2.1 46) len ((nuF (Z.2.1 46) len ((nuF (Z.2.1 46) len (k + 1)).2.1)).2.1)).1))]) rfl rfl rfl ?_
            refine XW.if_eqB 141 137 dX2_readOrder_134 (by decide) rfl (fun c_134 => ?_) (fun c_134 => ?_)
            · refine XW.iconst 142 dX2_readOrder_141 (v := 0) (by decide) rfl ?_
              exact XW.iret dX2_readOrder_142 rfl (by have e : oC (Z.2.1 46) len q k (Z.2.1 48) (Z.2.1 49) = _ := by { unfold oC; simp only [*, if_true, if_false, reduceIte, Bool.false_eq_true, true_or, or_true, or_false, false_or]; rfl }; rw [e]; exact ⟨rfl, rfl⟩)
            · refine XW.iconst 138 dX2_readOrder_137 (v := 1) (by decide) rfl ?_
              refine XW.goto 142 dX2_readOrder_138 (by decide) ?_
              exact XW.iret dX2_readOrder_142 rfl (by have e : oC (Z.2.1 46) len q k (Z.2.1 48) (Z.2.1 49) = _ := by { unfold oC; simp only [*, if_true, if_false, reduceIte, Bool.false_eq_true, true_or, or_true, or_false, false_or]; rfl }; rw [e]; exact ⟨rfl, rfl⟩)
      · have n_e108 := i32_ne (z := 108) (by decide) e108
        by_cases e112 : bh (Z.2.1 46) len k = 112
        · refine XW.lookup 143 dX2_readOrder_16 (by decide) (by rw [e112] <;> rfl) (by decide) ?_
          refine XW.aload_n 144 dX2_readOrder_143 rfl rfl ?_
          refine XW.dup 145 dX2_readOrder_144 rfl rfl ?_
          refine XW.getf 148 (v := .int (nI k)) f2_19 dX2_readOrder_145 rfl rfl rfl ?_
          refine XW.iconst 149 dX2_readOrder_148 (v := 1) (by decide) rfl ?_
          refine XW.iadd 150 dX2_readOrder_149 rfl ?_
          refine XW.putf 153 (h' := HP (sI (sA Z 47 (upd (Z.2.1 47) q (bh (Z.2.1 46) len k))) 45 2 ((nI k) + 1))) (p2_19 _) dX2_readOrder_150 rfl (Nat.le_of_ble_eq_true rfl) (xfit_i _) rfl rfl ?_
          refine XW.eqs (h' := HP (sI (sA Z 47 (upd (Z.2.1 47) q (bh (Z.2.1 46) len k))) 45 2 (nI (k + 1)))) rfl rfl (by rw [nI_1]) ?_
          refine XW.aload_n 154 dX2_readOrder_153 rfl rfl ?_
          refine XW.aload_n 155 dX2_readOrder_154 rfl rfl ?_
          refine XW.getf 158 (v := .ref 48) f2_28 dX2_readOrder_155 rfl rfl rfl ?_
          refine XW.callV 161 (vs := [.ref 48]) (rest := []) (mcr := 0) (msr := 0) c2_51 dX2_readOrder_158 rfl rfl (by decide) (Nat.le_of_ble_eq_true rfl) rfl rfl (Nat.le_of_ble_eq_true rfl) rfl (c_num48 (Z := sA Z 47 (upd (Z.2.1 47) q (bh (Z.2.1 46) len k))) (k := k + 1) hlen l120 hq3 q60 (by omega)) (fun r h1 hq => ?_)
          obtain ⟨rfl, rfl⟩ := hq
          have nu0 := nuF_le (b := (Z.2.1 46)) (len := len) (k := k + 1) (by omega)
          refine XW.eqs (h' := HP (sI (sA (sA Z 47 (upd (Z.2.1 47) q (bh (Z.2.1 46) len k))) 48 (upd (Z.2.1 48) q (nuF (Z.2.1 46) len (k + 1)).2.2)) 45 2 (nI ((nuF (Z.2.1 46) len (k + 1)).2.1)))) rfl rfl rfl ?_
          refine XW.eqs (st' := [.int (b2i ((nuF (Z.2.1 46) len (k + 1)).1))]) rfl rfl rfl ?_
          refine XW.if_eqB 175 164 dX2_readOrder_161 (by decide) rfl (fun c_161 => ?_) (fun c_161 => ?_)
          · refine XW.iconst 176 dX2_readOrder_175 (v := 0) (by decide) rfl ?_
            exact XW.iret dX2_readOrder_176 rfl (by have e : oC (Z.2.1 46) len q k (Z.2.1 48) (Z.2.1 49) = _ := by { unfold oC; simp only [*, if_true, if_false, reduceIte, Bool.false_eq_true, true_or, or_true, or_false, false_or]; rfl }; rw [e]; exact ⟨rfl, rfl⟩)
          · refine XW.aload_n 165 dX2_readOrder_164 rfl rfl ?_
            refine XW.callV 168 (vs := []) (rest := []) (mcr := 0) (msr := 0) c2_48 dX2_readOrder_165 rfl rfl (by decide) (Nat.le_of_ble_eq_true rfl) rfl rfl (Nat.le_of_ble_eq_true rfl) rfl (c_readEnd (Z := sA (sA Z 47 (upd (Z.2.1 47) q (bh (Z.2.1 46) len k))) 48 (upd (Z.2.1 48) q (nuF (Z.2.1 46) len (k + 1)).2.2)) (k := (nuF (Z.2.1 46) len (k + 1)).2.1) hlen l120 (by omega)) (fun r h1 hq => ?_)
            obtain ⟨rfl, rfl⟩ := hq
            have en := enF_le (b := (Z.2.1 46)) (len := len) (k := (nuF (Z.2.1 46) len (k + 1)).2.1) (by omega)
            refine XW.eqs (h' := HP (sI (sA (sA Z 47 (upd (Z.2.1 47) q (bh (Z.2.1 46) len k))) 48 (upd (Z.2.1 48) q (nuF (Z.2.1 46) len (k + 1)).2.2)) 45 2 (nI ((enF (Z.2.1 46) len ((nuF (Z.2.1 46) len (k + 1)).2.1)).2)))) rfl rfl rfl ?_
            refine XW.eqs (st' := [.int (b2i ((enF (Z.2.1 46) len ((nuF (Z.2.1 46) len (k + 1)).2.1)).1))]) rfl rfl rfl ?_
            refine XW.if_eqB 175 171 dX2_readOrder_168 (by decide) rfl (fun c_168 => ?_) (fun c_168 => ?_)
            · refine XW.iconst 176 dX2_readOrder_175 (v := 0) (by decide) rfl ?_
              exact XW.iret dX2_readOrder_176 rfl (by have e : oC (Z.2.1 46) len q k (Z.2.1 48) (Z.2.1 49) = _ := by { unfold oC; simp only [*, if_true, if_false, reduceIte, Bool.false_eq_true, true_or, or_true, or_false, false_or]; rfl }; rw [e]; exact ⟨rfl, rfl⟩)
            · refine XW.iconst 172 dX2_readOrder_171 (v := 1) (by decide) rfl ?_
              refine XW.goto 176 dX2_readOrder_172 (by decide) ?_
              exact XW.iret dX2_readOrder_176 rfl (by have e : oC (Z.2.1 46) len q k (Z.2.1 48) (Z.2.1 49) = _ := by { unfold oC; simp only [*, if_true, if_false, reduceIte, Bool.false_eq_true, true_or, or_true, or_false, false_or]; rfl }; rw [e]; exact ⟨rfl, rfl⟩)
        · have n_e112 := i32_ne (z := 112) (by decide) e112
          by_cases e115 : bh (Z.2.1 46) len k = 115
          · refine XW.lookup 177 dX2_readOrder_16 (by decide) (by rw [e115] <;> rfl) (by decide) ?_
            refine XW.aload_n 178 dX2_readOrder_177 rfl rfl ?_
            refine XW.dup 179 dX2_readOrder_178 rfl rfl ?_
            refine XW.getf 182 (v := .int (nI k)) f2_19 dX2_readOrder_179 rfl rfl rfl ?_
            refine XW.iconst 183 dX2_readOrder_182 (v := 1) (by decide) rfl ?_
            refine XW.iadd 184 dX2_readOrder_183 rfl ?_
            refine XW.putf 187 (h' := HP (sI (sA Z 47 (upd (Z.2.1 47) q (bh (Z.2.1 46) len k))) 45 2 ((nI k) + 1))) (p2_19 _) dX2_readOrder_184 rfl (Nat.le_of_ble_eq_true rfl) (xfit_i _) rfl rfl ?_
            refine XW.eqs (h' := HP (sI (sA Z 47 (upd (Z.2.1 47) q (bh (Z.2.1 46) len k))) 45 2 (nI (k + 1)))) rfl rfl (by rw [nI_1]) ?_
            refine XW.aload_n 188 dX2_readOrder_187 rfl rfl ?_
            refine XW.callV 191 (vs := []) (rest := []) (mcr := 0) (msr := 0) c2_48 dX2_readOrder_188 rfl rfl (by decide) (Nat.le_of_ble_eq_true rfl) rfl rfl (Nat.le_of_ble_eq_true rfl) rfl (c_readEnd (Z := sA Z 47 (upd (Z.2.1 47) q (bh (Z.2.1 46) len k))) (k := k + 1) hlen l120 (by omega)) (fun r h1 hq => ?_)
            obtain ⟨rfl, rfl⟩ := hq
            have en := enF_le (b := (Z.2.1 46)) (len := len) (k := k + 1) (by omega)
            refine XW.eqs (h' := HP (sI (sA Z 47 (upd (Z.2.1 47) q (bh (Z.2.1 46) len k))) 45 2 (nI ((enF (Z.2.1 46) len (k + 1)).2)))) rfl rfl rfl ?_
            refine XW.eqs (st' := [.int (b2i ((enF (Z.2.1 46) len (k + 1)).1))]) rfl rfl rfl ?_
            exact XW.iret dX2_readOrder_191 (xnar_b _) (by have e : oC (Z.2.1 46) len q k (Z.2.1 48) (Z.2.1 49) = _ := by { unfold oC; simp only [*, if_true, if_false, reduceIte, Bool.false_eq_true, true_or, or_true, or_false, false_or]; rfl }; rw [e]; exact ⟨rfl, rfl⟩)
          · have n_e115 := i32_ne (z := 115) (by decide) e115
            refine XW.lookup 192 (off := 176) dX2_readOrder_16 (by decide) ((if_neg n_e99).trans ((if_neg n_e102).trans ((if_neg n_e108).trans ((if_neg n_e112).trans ((if_neg n_e115).trans rfl))))) (by decide) ?_
            refine XW.iconst 193 dX2_readOrder_192 (v := 0) (by decide) rfl ?_
            exact XW.iret dX2_readOrder_193 rfl (by have e : oC (Z.2.1 46) len q k (Z.2.1 48) (Z.2.1 49) = _ := by { unfold oC; simp only [*, if_true, if_false, reduceIte, Bool.false_eq_true, true_or, or_true, or_false, false_or]; rfl }; rw [e]; exact ⟨rfl, rfl⟩)
