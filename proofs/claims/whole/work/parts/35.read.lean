/-! The class: the whole text -/
theorem sI_comm (Z : xZ) {a j b k : Nat} (h : a ≠ b ∨ j ≠ k) (u v : Int32) : sI (sI Z a j u) b k v = sI (sI Z b k v) a j u := by
  unfold sI
  refine Prod.ext ?_ rfl
  funext x y
  show up2 (up2 Z.1 a j u) b k v x y = up2 (up2 Z.1 b k v) a j u x y
  unfold up2
  by_cases h1 : x = a
  · by_cases h2 : x = b
    · by_cases h3 : y = j
      · by_cases h4 : y = k
        · omega
        · simp only [if_pos h1, if_pos h2, if_pos h3, if_neg h4]
      · by_cases h4 : y = k
        · simp only [if_pos h1, if_pos h2, if_neg h3, if_pos h4]
        · simp only [if_pos h1, if_pos h2, if_neg h3, if_neg h4]
    · simp only [if_pos h1, if_neg h2]
  · by_cases h2 : x = b
    · simp only [if_neg h1, if_pos h2]
    · simp only [if_neg h1, if_neg h2]
theorem sI_same (Z : xZ) (a j : Nat) (u v : Int32) : sI (sI Z a j u) a j v = sI Z a j v := by
  unfold sI
  refine Prod.ext ?_ rfl
  funext x y
  show up2 (up2 Z.1 a j u) a j v x y = up2 Z.1 a j v x y
  unfold up2
  by_cases h1 : x = a <;> by_cases h3 : y = j <;> simp [h1, h3]
theorem sA_same (Z : xZ) (a : Nat) (f g : Nat → Int32) : sA (sA Z a f) a g = sA Z a g := by
  unfold sA
  refine Prod.ext rfl (Prod.ext ?_ rfl)
  funext x
  show va_up (va_up Z.2.1 a f) a g x = va_up Z.2.1 a g x
  unfold va_up
  by_cases h1 : x = a <;> simp [h1]
theorem sA_comm (Z : xZ) {a b : Nat} (h : a ≠ b) (f g : Nat → Int32) : sA (sA Z a f) b g = sA (sA Z b g) a f := by
  unfold sA
  refine Prod.ext rfl (Prod.ext ?_ rfl)
  funext x
  show va_up (va_up Z.2.1 a f) b g x = va_up (va_up Z.2.1 b g) a f x
  unfold va_up
  by_cases h1 : x = a
  · by_cases h2 : x = b
    · omega
    · simp only [if_pos h1, if_neg h2]
  · by_cases h2 : x = b
    · simp only [if_neg h1, if_pos h2]
    · simp only [if_neg h1, if_neg h2]
theorem oC_le {b : Nat → Int32} {len q k : Nat} {f1 f2 : Nat → Int32} (h : k < len) : (oC b len q k f1 f2).2.1 ≤ len ∧ ((oC b len q k f1 f2).1 = true → k + 2 ≤ (oC b len q k f1 f2).2.1) := by
  have s1 := sxF_le (b := b) (len := len) (k := k + 1) (by omega)
  have n1 := nuF_le (b := b) (len := len) (k := k + 1) (by omega)
  have n2 := nuF_le (b := b) (len := len) (k := (nuF b len (k + 1)).2.1) (by omega)
  have e1 := enF_le (b := b) (len := len) (k := (sxF b len (k + 1)).2.1) (by omega)
  have e2 := enF_le (b := b) (len := len) (k := (nuF b len (nuF b len (k + 1)).2.1).2.1) (by omega)
  have e3 := enF_le (b := b) (len := len) (k := (nuF b len (k + 1)).2.1) (by omega)
  have e4 := enF_le (b := b) (len := len) (k := k + 1) (by omega)
  unfold oC
  split
  · split
    · dsimp only; refine ⟨e1.2.1, fun q => ?_⟩; have := e1.2.2 q; omega
    · dsimp only; exact ⟨s1.2, fun q => by cases q⟩
  · split
    · split
      · split
        · dsimp only; refine ⟨e2.2.1, fun q => ?_⟩; have := e2.2.2 q; omega
        · dsimp only; exact ⟨n2.2, fun q => by cases q⟩
      · dsimp only; exact ⟨n1.2, fun q => by cases q⟩
    · split
      · split
        · dsimp only; refine ⟨e3.2.1, fun q => ?_⟩; have := e3.2.2 q; omega
        · dsimp only; exact ⟨n1.2, fun q => by cases q⟩
      · split
        · dsimp only; refine ⟨e4.2.1, fun q => ?_⟩; have := e4.2.2 q; omega
        · dsimp only; exact ⟨by omega, fun q => by cases q⟩
abbrev rdT : Type := Int32 × Nat × Nat × (Nat → Int32) × (Nat → Int32) × (Nat → Int32)
/-- THE TEXT as the class reads it: the fault or -1, how many orders, where it stands, the three rows -/
def rdC (b : Nat → Int32) (len : Nat) : Nat → Nat → Nat → (Nat → Int32) → (Nat → Int32) → (Nat → Int32) → rdT
  | 0, q, k, kn, f1, f2 => (-1, q, k, kn, f1, f2)
  | m + 1, q, k, kn, f1, f2 => if k < len then
      (if (oC b len q k f1 f2).1 = true then rdC b len m (q + 1) (skF b len (oC b len q k f1 f2).2.1) (upd kn q (bh b len k)) (oC b len q k f1 f2).2.2.1 (oC b len q k f1 f2).2.2.2
       else (nI (oC b len q k f1 f2).2.1, q, (oC b len q k f1 f2).2.1, upd kn q (bh b len k), (oC b len q k f1 f2).2.2.1, (oC b len q k f1 f2).2.2.2))
    else (-1, q, k, kn, f1, f2)
theorem rdC_e {b : Nat → Int32} {len m q k : Nat} {kn f1 f2 : Nat → Int32} (h : ¬ k < len) : rdC b len m q k kn f1 f2 = (-1, q, k, kn, f1, f2) := by
  cases m with
  | zero => rfl
  | succ m => exact if_neg h
theorem rdC_t {b : Nat → Int32} {len m q k : Nat} {kn f1 f2 : Nat → Int32} (h : k < len) (h2 : (oC b len q k f1 f2).1 = true) : rdC b len (m + 1) q k kn f1 f2 = rdC b len m (q + 1) (skF b len (oC b len q k f1 f2).2.1) (upd kn q (bh b len k)) (oC b len q k f1 f2).2.2.1 (oC b len q k f1 f2).2.2.2 := by
  show (if _ then _ else _) = _; rw [if_pos h, if_pos h2]
theorem rdC_f {b : Nat → Int32} {len m q k : Nat} {kn f1 f2 : Nat → Int32} (h : k < len) (h2 : (oC b len q k f1 f2).1 = false) : rdC b len (m + 1) q k kn f1 f2 = (nI (oC b len q k f1 f2).2.1, q, (oC b len q k f1 f2).2.1, upd kn q (bh b len k), (oC b len q k f1 f2).2.2.1, (oC b len q k f1 f2).2.2.2) := by
  show (if _ then _ else _) = _; rw [if_pos h, if_neg (by rw [h2]; decide)]
def rdAll (b : Nat → Int32) (len : Nat) (kn f1 f2 : Nat → Int32) : rdT := if skF b len 0 = len then (nI len, 0, len, kn, f1, f2) else rdC b len (len + 1) 0 (skF b len 0) kn f1 f2
set_option maxHeartbeats 400000 in
set_option maxRecDepth 100000 in
theorem l_read {Z : xZ} {len : Nat} (hlen : Z.1 45 1 = nI len) (l120 : len ≤ 120) : ∀ (m : Nat) (q k : Nat) (kn f1 f2 : Nat → Int32), k ≤ len → len < k + m → 2 * q ≤ k → XW mX2_read 4 0 0 30 [some (.ref 45)] [] (HP (sI (sA (sA (sA (sI Z 45 3 (nI q)) 47 kn) 48 f1) 49 f2) 45 2 (nI k))) (fun r h' => r = some (.int (rdC (Z.2.1 46) len m q k kn f1 f2).1) ∧ h' = HP (sI (sA (sA (sA (sI Z 45 3 (nI (rdC (Z.2.1 46) len m q k kn f1 f2).2.1)) 47 (rdC (Z.2.1 46) len m q k kn f1 f2).2.2.2.1) 48 (rdC (Z.2.1 46) len m q k kn f1 f2).2.2.2.2.1) 49 (rdC (Z.2.1 46) len m q k kn f1 f2).2.2.2.2.2) 45 2 (nI (rdC (Z.2.1 46) len m q k kn f1 f2).2.2.1))) := by
  intro m
  induction m with
  | zero => intro q k kn f1 f2 g0 g1; omega
  | succ m ih =>
    intro q k kn f1 f2 g0 g1 g2
    refine XW.aload_n 31 dX2_read_30 rfl rfl ?_
    refine XW.getf 34 (v := .int (nI k)) f2_19 dX2_read_31 rfl rfl rfl ?_
    refine XW.aload_n 35 dX2_read_34 rfl rfl ?_
    refine XW.getf 38 (v := .int (Z.1 45 1)) f2_15 dX2_read_35 rfl rfl rfl ?_
    refine XW.icmp_geN 79 41 k len dX2_read_38 (by decide) rfl rfl hlen (by omega) (by omega) (fun c_38 => ?_) (fun c_38 => ?_)
    · have e0 : rdC (Z.2.1 46) len (m + 1) q k kn f1 f2 = (-1, q, k, kn, f1, f2) := rdC_e (by omega)
      refine XW.iconst 80 dX2_read_79 (v := -1) (by decide) rfl ?_
      exact XW.iret dX2_read_80 rfl (⟨by rw [e0], by rw [e0]⟩)
    · refine XW.aload_n 42 dX2_read_41 rfl rfl ?_
      refine XW.getf 45 (v := .int (nI q)) f2_22 dX2_read_42 rfl rfl rfl ?_
      refine XW.bipush 47 dX2_read_45 (v := 60) (by decide) rfl ?_
      refine XW.icmp_geN 79 50 q 60 dX2_read_47 (by decide) rfl rfl rfl (by omega) (by omega) (fun c_47 => ?_) (fun c_47 => ?_)
      · omega
      · refine XW.aload_n 51 dX2_read_50 rfl rfl ?_
        refine XW.callV 54 (vs := []) (rest := []) (mcr := 0) (msr := 0) c2_37 dX2_read_51 rfl rfl (by decide) (Nat.le_of_ble_eq_true rfl) rfl rfl (Nat.le_of_ble_eq_true rfl) rfl (c_readOrder (Z := sA (sA (sA (sI Z 45 3 (nI q)) 47 kn) 48 f1) 49 f2) (q := q) (k := k) hlen l120 rfl (by omega) (by omega)) (fun r h1 hq => ?_)
        obtain ⟨rfl, rfl⟩ := hq
        have ol := oC_le (b := (Z.2.1 46)) (q := q) (f1 := f1) (f2 := f2) c_38
        refine XW.eqs (st' := [.int (b2i (oC (Z.2.1 46) len q k f1 f2).1)]) (h' := HP (sI (sA (sA (sA (sI Z 45 3 (nI q)) 47 (upd kn q (bh (Z.2.1 46) len k))) 48 ((oC (Z.2.1 46) len q k f1 f2).2.2.1)) 49 ((oC (Z.2.1 46) len q k f1 f2).2.2.2)) 45 2 (nI ((oC (Z.2.1 46) len q k f1 f2).2.1)))) rfl rfl rfl ?_
        generalize eO : oC (Z.2.1 46) len q k f1 f2 = so at ol ⊢
        obtain ⟨ok, k2, gA, gB⟩ := so
        dsimp only at ol
        refine XW.eqs (st' := [.int (b2i ok)]) (h' := HP (sI (sA (sA (sA (sI Z 45 3 (nI q)) 47 (upd kn q (bh (Z.2.1 46) len k))) 48 gA) 49 gB) 45 2 (nI k2))) rfl rfl rfl ?_
        refine XW.eqs (st' := [.int (b2i ok)]) rfl rfl rfl ?_
        refine XW.if_neB 62 57 dX2_read_54 (by decide) rfl (fun c_54 => ?_) (fun c_54 => ?_)
        · refine XW.aload_n 63 dX2_read_62 rfl rfl ?_
          refine XW.dup 64 dX2_read_63 rfl rfl ?_
          refine XW.getf 67 (v := .int (nI q)) f2_22 dX2_read_64 rfl rfl rfl ?_
          refine XW.iconst 68 dX2_read_67 (v := 1) (by decide) rfl ?_
          refine XW.iadd 69 dX2_read_68 rfl ?_
          refine XW.putf 72 (h' := HP (sI (sI (sA (sA (sA (sI Z 45 3 (nI q)) 47 (upd kn q (bh (Z.2.1 46) len k))) 48 gA) 49 gB) 45 2 (nI k2)) 45 3 ((nI q) + 1))) (p2_22 _) dX2_read_69 rfl (Nat.le_of_ble_eq_true rfl) (xfit_i _) rfl rfl ?_
          refine XW.eqs (h' := HP (sI (sA (sA (sA (sI Z 45 3 (nI (q + 1))) 47 (upd kn q (bh (Z.2.1 46) len k))) 48 gA) 49 gB) 45 2 (nI k2))) rfl rfl (congrArg HP ?_) ?_
          · rw [nI_1, sI_comm _ (by decide)]
            show sI (sA (sA (sA (sI (sI Z 45 3 (nI q)) 45 3 (nI (q + 1))) 47 _) 48 _) 49 _) 45 2 _ = _
            rw [sI_same]
          refine XW.aload_n 73 dX2_read_72 rfl rfl ?_
          refine XW.callV 76 (vs := []) (rest := []) (mcr := 0) (msr := 0) c2_34 dX2_read_73 rfl rfl (by decide) (Nat.le_of_ble_eq_true rfl) rfl rfl (Nat.le_of_ble_eq_true rfl) rfl (c_skip (Z := sA (sA (sA (sI Z 45 3 (nI (q + 1))) 47 (upd kn q (bh (Z.2.1 46) len k))) 48 gA) 49 gB) (k := k2) hlen l120 (by omega)) (fun r h1 hq => ?_)
          obtain ⟨rfl, rfl⟩ := hq
          have sk := skF_le (b := (Z.2.1 46)) (len := len) (k := k2) (by omega)
          refine XW.eqs (h' := HP (sI (sA (sA (sA (sI Z 45 3 (nI (q + 1))) 47 (upd kn q (bh (Z.2.1 46) len k))) 48 gA) 49 gB) 45 2 (nI (skF (Z.2.1 46) len k2)))) rfl rfl rfl ?_
          refine XW.goto 30 dX2_read_76 (by decide) ?_
          refine XW.eqs (h' := HP (sI (sA (sA (sA (sI Z 45 3 (nI (q + 1))) 47 (upd kn q (bh (Z.2.1 46) len k))) 48 gA) 49 gB) 45 2 (nI (skF (Z.2.1 46) len k2)))) rfl rfl (by rfl) ?_
          have o2 := ol.2 c_54
          refine XW.post (ih (q + 1) (skF (Z.2.1 46) len k2) _ _ _ (by omega) (by omega) (by have := ol.2 c_54; omega)) (fun r h1 hq => ?_)
          rw [rdC_t c_38 (by rw [eO]; exact c_54), eO]; exact hq
        · refine XW.aload_n 58 dX2_read_57 rfl rfl ?_
          refine XW.getf 61 (v := .int (nI k2)) f2_19 dX2_read_58 rfl rfl rfl ?_
          exact XW.iret dX2_read_61 rfl (⟨by rw [rdC_f c_38 (by rw [eO]; exact c_54), eO], by rw [rdC_f c_38 (by rw [eO]; exact c_54), eO]⟩)
set_option maxHeartbeats 400000 in
set_option maxRecDepth 100000 in
theorem c_read {Z : xZ} {len : Nat} (hlen : Z.1 45 1 = nI len) (l120 : len ≤ 120) : XC mX2_read 4 0 0 [.ref 45] (HP Z) (fun r h' => r = some (.int (rdAll (Z.2.1 46) len (Z.2.1 47) (Z.2.1 48) (Z.2.1 49)).1) ∧ h' = HP (sI (sA (sA (sA (sI Z 45 3 (nI (rdAll (Z.2.1 46) len (Z.2.1 47) (Z.2.1 48) (Z.2.1 49)).2.1)) 47 (rdAll (Z.2.1 46) len (Z.2.1 47) (Z.2.1 48) (Z.2.1 49)).2.2.2.1) 48 (rdAll (Z.2.1 46) len (Z.2.1 47) (Z.2.1 48) (Z.2.1 49)).2.2.2.2.1) 49 (rdAll (Z.2.1 46) len (Z.2.1 47) (Z.2.1 48) (Z.2.1 49)).2.2.2.2.2) 45 2 (nI (rdAll (Z.2.1 46) len (Z.2.1 47) (Z.2.1 48) (Z.2.1 49)).2.2.1))) := by
  show XW mX2_read 4 0 0 0 [some (.ref 45)] [] (HP Z) _
  refine XW.aload_n 1 dX2_read_0 rfl rfl ?_
  refine XW.iconst 2 dX2_read_1 (v := 0) (by decide) rfl ?_
  refine XW.putf 5 (h' := HP (sI Z 45 2 0)) (p2_19 _) dX2_read_2 rfl (Nat.le_of_ble_eq_true rfl) (xfit_i _) rfl rfl ?_
  refine XW.aload_n 6 dX2_read_5 rfl rfl ?_
  refine XW.iconst 7 dX2_read_6 (v := 0) (by decide) rfl ?_
  refine XW.putf 10 (h' := HP (sI (sI Z 45 3 0) 45 2 0)) (p2_22 _) dX2_read_7 rfl (Nat.le_of_ble_eq_true rfl) (xfit_i _) rfl rfl ?_
  refine XW.eqs (h' := HP (sI (sI Z 45 3 (nI 0)) 45 2 (nI 0))) rfl rfl rfl ?_
  refine XW.aload_n 11 dX2_read_10 rfl rfl ?_
  refine XW.callV 14 (vs := []) (rest := []) (mcr := 0) (msr := 0) c2_34 dX2_read_11 rfl rfl (by decide) (Nat.le_of_ble_eq_true rfl) rfl rfl (Nat.le_of_ble_eq_true rfl) rfl (c_skip (Z := sI Z 45 3 (nI 0)) (k := 0) hlen l120 (by omega)) (fun r h1 hq => ?_)
  obtain ⟨rfl, rfl⟩ := hq
  have sk := skF_le (b := (Z.2.1 46)) (len := len) (k := 0) (by omega)
  refine XW.eqs (h' := HP (sI (sI Z 45 3 (nI 0)) 45 2 (nI (skF (Z.2.1 46) len 0)))) rfl rfl rfl ?_
  refine XW.aload_n 15 dX2_read_14 rfl rfl ?_
  refine XW.getf 18 (v := .int (nI (skF (Z.2.1 46) len 0))) f2_19 dX2_read_15 rfl rfl rfl ?_
  refine XW.aload_n 19 dX2_read_18 rfl rfl ?_
  refine XW.getf 22 (v := .int (Z.1 45 1)) f2_15 dX2_read_19 rfl rfl rfl ?_
  refine XW.icmp_neN 30 25 (skF (Z.2.1 46) len 0) len dX2_read_22 (by decide) rfl rfl hlen (by omega) (by omega) (fun c_22 => ?_) (fun c_22 => ?_)
  · have e0 : rdAll (Z.2.1 46) len (Z.2.1 47) (Z.2.1 48) (Z.2.1 49) = rdC (Z.2.1 46) len (len + 1) 0 (skF (Z.2.1 46) len 0) (Z.2.1 47) (Z.2.1 48) (Z.2.1 49) := if_neg c_22
    refine XW.eqs (h' := HP (sI (sA (sA (sA (sI Z 45 3 (nI 0)) 47 (Z.2.1 47)) 48 (Z.2.1 48)) 49 (Z.2.1 49)) 45 2 (nI (skF (Z.2.1 46) len 0)))) rfl rfl rfl ?_
    rw [e0]
    exact l_read hlen l120 (len + 1) 0 (skF (Z.2.1 46) len 0) _ _ _ (by omega) (by omega) (by omega)
  · have e0 : rdAll (Z.2.1 46) len (Z.2.1 47) (Z.2.1 48) (Z.2.1 49) = (nI len, 0, len, Z.2.1 47, Z.2.1 48, Z.2.1 49) := if_pos c_22
    refine XW.aload_n 26 dX2_read_25 rfl rfl ?_
    refine XW.getf 29 (v := .int (Z.1 45 1)) f2_15 dX2_read_26 rfl rfl rfl ?_
    exact XW.iret dX2_read_29 rfl (⟨by rw [e0, hlen], by rw [e0, c_22]; rfl⟩)
