/-! The class: the script -/
/-- the byte at a place; -1 behind the end -/
def bh (b : Nat → Int32) (len k : Nat) : Int32 := if k < len then b k else -1
def skA (b : Nat → Int32) (len : Nat) : Nat → Nat → Nat
  | 0, k => k
  | m + 1, k => if k < len ∧ b k = 32 then skA b len m (k + 1) else k
/-- behind the blanks -/
def skF (b : Nat → Int32) (len k : Nat) : Nat := skA b len (len - k) k
theorem skF_t {b : Nat → Int32} {len k : Nat} (h1 : k < len) (h2 : b k = 32) : skF b len k = skF b len (k + 1) := by
  unfold skF; rw [show len - k = (len - (k + 1)) + 1 by omega]; exact if_pos ⟨h1, h2⟩
theorem skF_f {b : Nat → Int32} {len k : Nat} (h : ¬ (k < len ∧ b k = 32)) : skF b len k = k := by
  unfold skF
  by_cases e : len - k = 0
  · rw [e]; rfl
  · rw [show len - k = (len - k - 1) + 1 by omega]; exact if_neg h
theorem skA_le (b : Nat → Int32) (len : Nat) : ∀ m k, k ≤ len → k ≤ skA b len m k ∧ skA b len m k ≤ len
  | 0, k, h => ⟨Nat.le_refl _, h⟩
  | m + 1, k, h => by
    by_cases c : k < len ∧ b k = 32
    · have := skA_le b len m (k + 1) (by omega)
      rw [show skA b len (m + 1) k = skA b len m (k + 1) from if_pos c]; omega
    · rw [show skA b len (m + 1) k = k from if_neg c]; omega
theorem skF_le {b : Nat → Int32} {len k : Nat} (h : k ≤ len) : k ≤ skF b len k ∧ skF b len k ≤ len := skA_le b len _ k h
def nuA (b : Nat → Int32) (len : Nat) : Nat → Nat → Int32 → Nat × Int32
  | 0, k, v => (k, v)
  | m + 1, k, v => if inF (bh b len k) 48 57 = true then nuA b len m (k + 1) (10 * v + figF (bh b len k)) else (k, v)
theorem nuA_t {b : Nat → Int32} {len m k : Nat} {v : Int32} (h : inF (bh b len k) 48 57 = true) : nuA b len (m + 1) k v = nuA b len m (k + 1) (10 * v + figF (bh b len k)) := if_pos h
theorem nuA_f {b : Nat → Int32} {len m k : Nat} {v : Int32} (h : inF (bh b len k) 48 57 = false) : nuA b len m k v = (k, v) := by
  cases m with
  | zero => rfl
  | succ m => exact if_neg (by rw [h]; decide)
theorem bh_in {b : Nat → Int32} {len k : Nat} (h : ¬ bh b len k = -1) : k < len := by
  by_cases c : k < len
  · exact c
  · exact absurd (if_neg c) h
theorem bh_ten {b : Nat → Int32} {len k : Nat} (h : inF (bh b len k) 48 57 = true) : k < len := bh_in (fun q => by rw [q] at h; revert h; decide)
theorem nuA_le (b : Nat → Int32) (len : Nat) : ∀ m k v, k ≤ len → k ≤ (nuA b len m k v).1 ∧ (nuA b len m k v).1 ≤ len
  | 0, k, v, h => ⟨Nat.le_refl _, h⟩
  | m + 1, k, v, h => by
    cases c : inF (bh b len k) 48 57 with
    | true =>
      rw [nuA_t c]
      have h1 := bh_ten c
      have := nuA_le b len m (k + 1) (10 * v + figF (bh b len k)) (by omega)
      omega
    | false => rw [nuA_f c]; exact ⟨Nat.le_refl _, h⟩
/-- a number: whether it is well, where it ends, the number -/
def nuF (b : Nat → Int32) (len k : Nat) : Bool × Nat × Int32 := (decide (skF b len k < (nuA b len 3 (skF b len k) 0).1) && !inF (bh b len (nuA b len 3 (skF b len k) 0).1) 48 57, nuA b len 3 (skF b len k) 0)
def sxA (b : Nat → Int32) (len : Nat) : Nat → Nat → Int32 → Bool × Nat × Int32
  | 0, k, v => (true, k, v)
  | m + 1, k, v => if figF (bh b len k) = -1 then (false, k, v) else sxA b len m (k + 1) (16 * v + figF (bh b len k))
theorem sxA_t {b : Nat → Int32} {len m k : Nat} {v : Int32} (h : ¬ figF (bh b len k) = -1) : sxA b len (m + 1) k v = sxA b len m (k + 1) (16 * v + figF (bh b len k)) := if_neg h
theorem sxA_f {b : Nat → Int32} {len m k : Nat} {v : Int32} (h : figF (bh b len k) = -1) : sxA b len (m + 1) k v = (false, k, v) := if_pos h
theorem figF_m1 : figF (-1) = -1 := by decide
theorem sxA_le (b : Nat → Int32) (len : Nat) : ∀ m k v, k ≤ len → k ≤ (sxA b len m k v).2.1 ∧ (sxA b len m k v).2.1 ≤ len
  | 0, k, v, h => ⟨Nat.le_refl _, h⟩
  | m + 1, k, v, h => by
    by_cases c : figF (bh b len k) = -1
    · rw [sxA_f c]; exact ⟨Nat.le_refl _, h⟩
    · have h1 : k < len := bh_in (fun q => c (by rw [q]; exact figF_m1))
      rw [sxA_t c]
      have := sxA_le b len m (k + 1) (16 * v + figF (bh b len k)) (by omega)
      omega
def sxF (b : Nat → Int32) (len k : Nat) : Bool × Nat × Int32 := sxA b len 6 (skF b len k) 0
/-- the end of an order -/
def enF (b : Nat → Int32) (len k : Nat) : Bool × Nat := if bh b len (skF b len k) = 59 then (true, skF b len k + 1) else (false, skF b len k)
theorem nuF_le {b : Nat → Int32} {len k : Nat} (h : k ≤ len) : k ≤ (nuF b len k).2.1 ∧ (nuF b len k).2.1 ≤ len := by
  have h1 := skF_le (b := b) h
  have h2 := nuA_le b len 3 (skF b len k) 0 h1.2
  show k ≤ (nuA b len 3 (skF b len k) 0).1 ∧ (nuA b len 3 (skF b len k) 0).1 ≤ len
  omega
theorem sxF_le {b : Nat → Int32} {len k : Nat} (h : k ≤ len) : k ≤ (sxF b len k).2.1 ∧ (sxF b len k).2.1 ≤ len := by
  have h1 := skF_le (b := b) h
  have h2 := sxA_le b len 6 (skF b len k) 0 h1.2
  unfold sxF; omega
theorem enF_le {b : Nat → Int32} {len k : Nat} (h : k ≤ len) : k ≤ (enF b len k).2 ∧ (enF b len k).2 ≤ len ∧ ((enF b len k).1 = true → k < (enF b len k).2) := by
  have h1 := skF_le (b := b) h
  unfold enF
  by_cases c : bh b len (skF b len k) = 59
  · have h2 : skF b len k < len := bh_in (fun q => by rw [c] at q; revert q; decide)
    rw [if_pos c]; dsimp only; omega
  · rw [if_neg c]; dsimp only; refine ⟨h1.1, h1.2, fun q => by cases q⟩
set_option maxHeartbeats 400000 in
set_option maxRecDepth 100000 in
theorem c_byteHere {Z : xZ} {len k : Nat} (hlen : Z.1 45 1 = nI len) (l120 : len ≤ 120) (kl : k ≤ len) : XC mX2_byteHere 0 0 0 [.ref 45] (HP (sI Z 45 2 (nI k))) (fun r h' => r = some (.int (bh (Z.2.1 46) len k)) ∧ h' = HP (sI Z 45 2 (nI k))) := by
  show XW mX2_byteHere 0 0 0 0 [some (.ref 45)] [] (HP (sI Z 45 2 (nI k))) _
  refine XW.aload_n 1 dX2_byteHere_0 rfl rfl ?_
  refine XW.getf 4 (v := .int (nI k)) f2_19 dX2_byteHere_1 rfl rfl rfl ?_
  refine XW.aload_n 5 dX2_byteHere_4 rfl rfl ?_
  refine XW.getf 8 (v := .int (Z.1 45 1)) f2_15 dX2_byteHere_5 rfl rfl rfl ?_
  refine XW.icmp_geN 23 11 k len dX2_byteHere_8 (by decide) rfl rfl hlen (by omega) (by omega) (fun c_8 => ?_) (fun c_8 => ?_)
  · refine XW.iconst 24 dX2_byteHere_23 (v := -1) (by decide) rfl ?_
    exact XW.iret dX2_byteHere_24 rfl (⟨by unfold bh; rw [if_neg (by omega)], rfl⟩)
  · refine XW.aload_n 12 dX2_byteHere_11 rfl rfl ?_
    refine XW.getf 15 (v := .ref 46) f2_9 dX2_byteHere_12 rfl rfl rfl ?_
    refine XW.aload_n 16 dX2_byteHere_15 rfl rfl ?_
    refine XW.getf 19 (v := .int (nI k)) f2_19 dX2_byteHere_16 rfl rfl rfl ?_
    refine XW.iald 20 k dX2_byteHere_19 rfl rfl (by omega) (by decide) rfl ?_
    refine XW.goto 24 dX2_byteHere_20 (by decide) ?_
    exact XW.iret dX2_byteHere_24 rfl (⟨by unfold bh; rw [if_pos c_8]; rfl, rfl⟩)
set_option maxHeartbeats 400000 in
set_option maxRecDepth 100000 in
theorem l_skip {Z : xZ} {len : Nat} (hlen : Z.1 45 1 = nI len) (l120 : len ≤ 120) : ∀ (n : Nat) (k : Nat), k ≤ len → len < k + n → XW mX2_skipBlanks 1 0 0 0 [some (.ref 45)] [] (HP (sI Z 45 2 (nI k))) (fun r h' => r = none ∧ h' = HP (sI Z 45 2 (nI (skF (Z.2.1 46) len k)))) := by
  intro n
  induction n with
  | zero => intro k g0 g1; omega
  | succ n ih =>
    intro k g0 g1
    refine XW.aload_n 1 dX2_skipBlanks_0 rfl rfl ?_
    refine XW.getf 4 (v := .int (nI k)) f2_19 dX2_skipBlanks_1 rfl rfl rfl ?_
    refine XW.aload_n 5 dX2_skipBlanks_4 rfl rfl ?_
    refine XW.getf 8 (v := .int (Z.1 45 1)) f2_15 dX2_skipBlanks_5 rfl rfl rfl ?_
    refine XW.icmp_geN 33 11 k len dX2_skipBlanks_8 (by decide) rfl rfl hlen (by omega) (by omega) (fun c_8 => ?_) (fun c_8 => ?_)
    · have e0 : skF (Z.2.1 46) len k = k := skF_f (fun q => by omega)
      exact XW.vret dX2_skipBlanks_33 trivial (⟨rfl, by rw [e0]⟩)
    · refine XW.aload_n 12 dX2_skipBlanks_11 rfl rfl ?_
      refine XW.callV 15 (vs := []) (rest := []) (mcr := 0) (msr := 0) c2_41 dX2_skipBlanks_12 rfl rfl (by decide) (Nat.le_of_ble_eq_true rfl) rfl rfl (Nat.le_of_ble_eq_true rfl) rfl (c_byteHere (Z := Z) (k := k) hlen l120 (by omega)) (fun r h1 hq => ?_)
      obtain ⟨rfl, rfl⟩ := hq
      refine XW.eqs (st' := [.int (bh (Z.2.1 46) len k)]) rfl rfl rfl ?_
      refine XW.bipush 17 dX2_skipBlanks_15 (v := 32) (by decide) rfl ?_
      refine XW.icmp_ne 33 20 dX2_skipBlanks_17 (by decide) rfl (fun c_17 => ?_) (fun c_17 => ?_)
      · have e0 : skF (Z.2.1 46) len k = k := skF_f (fun q => c_17 (by unfold bh; rw [if_pos q.1]; exact q.2))
        exact XW.vret dX2_skipBlanks_33 trivial (⟨rfl, by rw [e0]⟩)
      · refine XW.aload_n 21 dX2_skipBlanks_20 rfl rfl ?_
        refine XW.dup 22 dX2_skipBlanks_21 rfl rfl ?_
        refine XW.getf 25 (v := .int (nI k)) f2_19 dX2_skipBlanks_22 rfl rfl rfl ?_
        refine XW.iconst 26 dX2_skipBlanks_25 (v := 1) (by decide) rfl ?_
        refine XW.iadd 27 dX2_skipBlanks_26 rfl ?_
        refine XW.putf 30 (h' := HP (sI Z 45 2 ((nI k) + 1))) (p2_19 _) dX2_skipBlanks_27 rfl (Nat.le_of_ble_eq_true rfl) (xfit_i _) rfl rfl ?_
        refine XW.eqs (h' := HP (sI Z 45 2 (nI (k + 1)))) rfl rfl (by rw [nI_1]) ?_
        refine XW.goto 0 dX2_skipBlanks_30 (by decide) ?_
        refine XW.post (ih (k + 1) (by omega) (by omega)) (fun r h1 hq => ?_)
        rw [skF_t c_8 (by have := c_17; unfold bh at this; rw [if_pos c_8] at this; exact this)]; exact hq
theorem c_skip {Z : xZ} {len k : Nat} (hlen : Z.1 45 1 = nI len) (l120 : len ≤ 120) (kl : k ≤ len) : XC mX2_skipBlanks 1 0 0 [.ref 45] (HP (sI Z 45 2 (nI k))) (fun r h' => r = none ∧ h' = HP (sI Z 45 2 (nI (skF (Z.2.1 46) len k)))) := l_skip hlen l120 (len + 1) k kl (by omega)
set_option maxHeartbeats 400000 in
set_option maxRecDepth 100000 in
theorem c_readEnd {Z : xZ} {len k : Nat} (hlen : Z.1 45 1 = nI len) (l120 : len ≤ 120) (kl : k ≤ len) : XC mX2_readEnd 2 0 0 [.ref 45] (HP (sI Z 45 2 (nI k))) (fun r h' => r = some (.int (b2i (enF (Z.2.1 46) len k).1)) ∧ h' = HP (sI Z 45 2 (nI (enF (Z.2.1 46) len k).2))) := by
  show XW mX2_readEnd 2 0 0 0 [some (.ref 45)] [] (HP (sI Z 45 2 (nI k))) _
  refine XW.aload_n 1 dX2_readEnd_0 rfl rfl ?_
  refine XW.callV 4 (vs := []) (rest := []) (mcr := 0) (msr := 0) c2_34 dX2_readEnd_1 rfl rfl (by decide) (Nat.le_of_ble_eq_true rfl) rfl rfl (Nat.le_of_ble_eq_true rfl) rfl (c_skip (Z := Z) (k := k) hlen l120 (by omega)) (fun r h1 hq => ?_)
  obtain ⟨rfl, rfl⟩ := hq
  have sk := skF_le (b := (Z.2.1 46)) (len := len) (k := k) (by omega)
  refine XW.eqs (h' := HP (sI Z 45 2 (nI (skF (Z.2.1 46) len k)))) rfl rfl rfl ?_
  refine XW.aload_n 5 dX2_readEnd_4 rfl rfl ?_
  refine XW.callV 8 (vs := []) (rest := []) (mcr := 0) (msr := 0) c2_41 dX2_readEnd_5 rfl rfl (by decide) (Nat.le_of_ble_eq_true rfl) rfl rfl (Nat.le_of_ble_eq_true rfl) rfl (c_byteHere (Z := Z) (k := skF (Z.2.1 46) len k) hlen l120 (by omega)) (fun r h1 hq => ?_)
  obtain ⟨rfl, rfl⟩ := hq
  refine XW.eqs (st' := [.int (bh (Z.2.1 46) len (skF (Z.2.1 46) len k))]) rfl rfl rfl ?_
  refine XW.bipush 10 dX2_readEnd_8 (v := 59) (by decide) rfl ?_
  refine XW.icmp_eq 15 13 dX2_readEnd_10 (by decide) rfl (fun c_10 => ?_) (fun c_10 => ?_)
  · have e0 : enF (Z.2.1 46) len k = (true, skF (Z.2.1 46) len k + 1) := if_pos c_10
    refine XW.aload_n 16 dX2_readEnd_15 rfl rfl ?_
    refine XW.dup 17 dX2_readEnd_16 rfl rfl ?_
    refine XW.getf 20 (v := .int (nI (skF (Z.2.1 46) len k))) f2_19 dX2_readEnd_17 rfl rfl rfl ?_
    refine XW.iconst 21 dX2_readEnd_20 (v := 1) (by decide) rfl ?_
    refine XW.iadd 22 dX2_readEnd_21 rfl ?_
    refine XW.putf 25 (h' := HP (sI Z 45 2 ((nI (skF (Z.2.1 46) len k)) + 1))) (p2_19 _) dX2_readEnd_22 rfl (Nat.le_of_ble_eq_true rfl) (xfit_i _) rfl rfl ?_
    refine XW.eqs (h' := HP (sI Z 45 2 (nI ((skF (Z.2.1 46) len k) + 1)))) rfl rfl (by rw [nI_1]) ?_
    refine XW.iconst 26 dX2_readEnd_25 (v := 1) (by decide) rfl ?_
    exact XW.iret dX2_readEnd_26 rfl (⟨by rw [e0]; rfl, by rw [e0]⟩)
  · have e0 : enF (Z.2.1 46) len k = (false, skF (Z.2.1 46) len k) := if_neg c_10
    refine XW.iconst 14 dX2_readEnd_13 (v := 0) (by decide) rfl ?_
    exact XW.iret dX2_readEnd_14 rfl (⟨by rw [e0]; rfl, by rw [e0]⟩)
set_option maxHeartbeats 400000 in
set_option maxRecDepth 100000 in
theorem l_six {Z : xZ} {len q : Nat} (hlen : Z.1 45 1 = nI len) (l120 : len ≤ 120) (hq3 : Z.1 45 3 = nI q) (q60 : q < 60) : ∀ (n : Nat) (j : Nat) (k : Nat) (v : Int32), j ≤ 6 → 6 < j + n → k ≤ len → XW mX2_readSixFigures 2 0 0 8 [some (.ref 45), some (.int v), some (.int (nI j)), none] [] (HP (sI Z 45 2 (nI k))) (fun r h' => r = some (.int (b2i (sxA (Z.2.1 46) len (6 - j) k v).1)) ∧ h' = HP (sI (if (sxA (Z.2.1 46) len (6 - j) k v).1 = true then sA Z 48 (upd (Z.2.1 48) q (sxA (Z.2.1 46) len (6 - j) k v).2.2) else Z) 45 2 (nI (sxA (Z.2.1 46) len (6 - j) k v).2.1))) := by
  intro n
  induction n with
  | zero => intro j k v g0 g1 g2; omega
  | succ n ih =>
    intro j k v g0 g1 g2
    refine XW.iload_n 9 dX2_readSixFigures_8 rfl rfl ?_
    refine XW.bipush 11 dX2_readSixFigures_9 (v := 6) (by decide) rfl ?_
    refine XW.icmp_geN 52 14 j 6 dX2_readSixFigures_11 (by decide) rfl rfl rfl (by omega) (by omega) (fun c_11 => ?_) (fun c_11 => ?_)
    · have e0 : sxA (Z.2.1 46) len (6 - j) k v = (true, k, v) := by rw [show 6 - j = 0 by omega]; rfl
      refine XW.aload_n 53 dX2_readSixFigures_52 rfl rfl ?_
      refine XW.getf 56 (v := .ref 48) f2_28 dX2_readSixFigures_53 rfl rfl rfl ?_
      refine XW.aload_n 57 dX2_readSixFigures_56 rfl rfl ?_
      refine XW.getf 60 (v := .int (Z.1 45 3)) f2_22 dX2_readSixFigures_57 rfl rfl rfl ?_
      refine XW.iload_n 61 dX2_readSixFigures_60 rfl rfl ?_
      refine XW.iast 62 (h' := HP (sI (sA Z 48 (upd (Z.2.1 48) q v)) 45 2 (nI k))) q dX2_readSixFigures_61 rfl hq3 (by omega) (by decide) rfl rfl ?_
      refine XW.iconst 63 dX2_readSixFigures_62 (v := 1) (by decide) rfl ?_
      exact XW.iret dX2_readSixFigures_63 rfl (⟨by rw [e0]; rfl, by rw [e0]; rfl⟩)
    · refine XW.aload_n 15 dX2_readSixFigures_14 rfl rfl ?_
      refine XW.callV 18 (vs := []) (rest := []) (mcr := 0) (msr := 0) c2_41 dX2_readSixFigures_15 rfl rfl (by decide) (Nat.le_of_ble_eq_true rfl) rfl rfl (Nat.le_of_ble_eq_true rfl) rfl (c_byteHere (Z := Z) (k := k) hlen l120 (by omega)) (fun r h1 hq => ?_)
      obtain ⟨rfl, rfl⟩ := hq
      refine XW.eqs (st' := [.int (bh (Z.2.1 46) len k)]) rfl rfl rfl ?_
      refine XW.callS 21 (vs := [.int (bh (Z.2.1 46) len k)]) (rest := []) (mcr := 0) (msr := 0) c2_55 dX2_readSixFigures_18 rfl (by decide) (Nat.le_of_ble_eq_true rfl) rfl rfl (Nat.le_of_ble_eq_true rfl) rfl (c_figureOf _ _) (fun r h1 hq => ?_)
      obtain ⟨rfl, rfl⟩ := hq
      refine XW.eqs (st' := [.int (figF (bh (Z.2.1 46) len k))]) rfl rfl rfl ?_
      refine XW.istore_n 22 (L' := [some (.ref 45), some (.int v), some (.int (nI j)), some (.int (figF (bh (Z.2.1 46) len k)))]) dX2_readSixFigures_21 (by decide) rfl rfl rfl ?_
      refine XW.iload_n 23 dX2_readSixFigures_22 rfl rfl ?_
      refine XW.iconst 24 dX2_readSixFigures_23 (v := -1) (by decide) rfl ?_
      refine XW.icmp_ne 29 27 dX2_readSixFigures_24 (by decide) rfl (fun c_24 => ?_) (fun c_24 => ?_)
      · refine XW.bipush 31 dX2_readSixFigures_29 (v := 16) (by decide) rfl ?_
        refine XW.iload_n 32 dX2_readSixFigures_31 rfl rfl ?_
        refine XW.imul 33 dX2_readSixFigures_32 rfl ?_
        refine XW.iload_n 34 dX2_readSixFigures_33 rfl rfl ?_
        refine XW.iadd 35 dX2_readSixFigures_34 rfl ?_
        refine XW.istore_n 36 (L' := [some (.ref 45), some (.int ((16 * v) + (figF (bh (Z.2.1 46) len k)))), some (.int (nI j)), some (.int (figF (bh (Z.2.1 46) len k)))]) dX2_readSixFigures_35 (by decide) rfl rfl rfl ?_
        refine XW.aload_n 37 dX2_readSixFigures_36 rfl rfl ?_
        refine XW.dup 38 dX2_readSixFigures_37 rfl rfl ?_
        refine XW.getf 41 (v := .int (nI k)) f2_19 dX2_readSixFigures_38 rfl rfl rfl ?_
        refine XW.iconst 42 dX2_readSixFigures_41 (v := 1) (by decide) rfl ?_
        refine XW.iadd 43 dX2_readSixFigures_42 rfl ?_
        refine XW.putf 46 (h' := HP (sI Z 45 2 ((nI k) + 1))) (p2_19 _) dX2_readSixFigures_43 rfl (Nat.le_of_ble_eq_true rfl) (xfit_i _) rfl rfl ?_
        refine XW.eqs (h' := HP (sI Z 45 2 (nI (k + 1)))) rfl rfl (by rw [nI_1]) ?_
        refine XW.iinc 49 (y := nI (j + 1)) (L' := [some (.ref 45), some (.int ((16 * v) + (figF (bh (Z.2.1 46) len k)))), some (.int (nI (j + 1))), some (.int (figF (bh (Z.2.1 46) len k)))]) dX2_readSixFigures_46 rfl (na rfl rfl) (by decide) rfl rfl rfl ?_
        refine XW.goto 8 dX2_readSixFigures_49 (by decide) ?_
        refine XW.weak [true, true, true, false] (L' := [some (.ref 45), some (.int ((16 * v) + (figF (bh (Z.2.1 46) len k)))), some (.int (nI (j + 1))), none]) rfl ?_
        refine XW.post (ih (j + 1) (k + 1) _ (by omega) (by omega) (by have := bh_in (b := (Z.2.1 46)) (len := len) (k := k) (fun q => c_24 (by rw [q]; exact figF_m1)); omega)) (fun r h1 hq => ?_)
        rw [show 6 - j = (6 - (j + 1)) + 1 by omega, sxA_t c_24]; exact hq
      · have e0 : sxA (Z.2.1 46) len (6 - j) k v = (false, k, v) := by rw [show 6 - j = (6 - (j + 1)) + 1 by omega]; exact sxA_f c_24
        refine XW.iconst 28 dX2_readSixFigures_27 (v := 0) (by decide) rfl ?_
        exact XW.iret dX2_readSixFigures_28 rfl (⟨by rw [e0]; rfl, by rw [e0]; rfl⟩)
set_option maxHeartbeats 400000 in
set_option maxRecDepth 100000 in
theorem c_six {Z : xZ} {len q k : Nat} (hlen : Z.1 45 1 = nI len) (l120 : len ≤ 120) (hq3 : Z.1 45 3 = nI q) (q60 : q < 60) (kl : k ≤ len) : XC mX2_readSixFigures 2 0 0 [.ref 45] (HP (sI Z 45 2 (nI k))) (fun r h' => r = some (.int (b2i (sxF (Z.2.1 46) len k).1)) ∧ h' = HP (sI (if (sxF (Z.2.1 46) len k).1 = true then sA Z 48 (upd (Z.2.1 48) q (sxF (Z.2.1 46) len k).2.2) else Z) 45 2 (nI (sxF (Z.2.1 46) len k).2.1))) := by
  show XW mX2_readSixFigures 2 0 0 0 [some (.ref 45), none, none, none] [] (HP (sI Z 45 2 (nI k))) _
  refine XW.aload_n 1 dX2_readSixFigures_0 rfl rfl ?_
  refine XW.callV 4 (vs := []) (rest := []) (mcr := 0) (msr := 0) c2_34 dX2_readSixFigures_1 rfl rfl (by decide) (Nat.le_of_ble_eq_true rfl) rfl rfl (Nat.le_of_ble_eq_true rfl) rfl (c_skip (Z := Z) (k := k) hlen l120 (by omega)) (fun r h1 hq => ?_)
  obtain ⟨rfl, rfl⟩ := hq
  have sk := skF_le (b := (Z.2.1 46)) (len := len) (k := k) (by omega)
  refine XW.eqs (h' := HP (sI Z 45 2 (nI (skF (Z.2.1 46) len k)))) rfl rfl rfl ?_
  refine XW.iconst 5 dX2_readSixFigures_4 (v := 0) (by decide) rfl ?_
  refine XW.istore_n 6 (L' := [some (.ref 45), some (.int 0), none, none]) dX2_readSixFigures_5 (by decide) rfl rfl rfl ?_
  refine XW.iconst 7 dX2_readSixFigures_6 (v := 0) (by decide) rfl ?_
  refine XW.istore_n 8 (L' := [some (.ref 45), some (.int 0), some (.int 0), none]) dX2_readSixFigures_7 (by decide) rfl rfl rfl ?_
  exact l_six hlen l120 hq3 q60 7 0 (skF (Z.2.1 46) len k) 0 (by omega) (by omega) (by omega)
theorem nI_le0 {j : Nat} (h : j < 2 ^ 31) : nI j ≤ 0 ↔ j = 0 := by
  rw [show (0 : Int32) = nI 0 from rfl, nI_leI h (by omega)]; omega
set_option maxHeartbeats 400000 in
set_option maxRecDepth 100000 in
theorem l_num48 {Z : xZ} {len q k1 : Nat} (hlen : Z.1 45 1 = nI len) (l120 : len ≤ 120) (hq3 : Z.1 45 3 = nI q) (q60 : q < 60) : ∀ (n : Nat) (j : Nat) (v : Int32), j ≤ 3 → 3 < j + n → k1 + j ≤ len → XW mX2_readNumber 2 0 0 8 [some (.ref 45), some (.ref 48), some (.int v), some (.int (nI j))] [] (HP (sI Z 45 2 (nI (k1 + j)))) (fun r h' => r = some (.int (b2i (decide (k1 < (nuA (Z.2.1 46) len (3 - j) (k1 + j) v).1) && !inF (bh (Z.2.1 46) len (nuA (Z.2.1 46) len (3 - j) (k1 + j) v).1) 48 57))) ∧ h' = HP (sI (sA Z 48 (upd (Z.2.1 48) q (nuA (Z.2.1 46) len (3 - j) (k1 + j) v).2)) 45 2 (nI (nuA (Z.2.1 46) len (3 - j) (k1 + j) v).1))) := by
  intro n
  induction n with
  | zero => intro j v g0 g1 g2; omega
  | succ n ih =>
    intro j v g0 g1 g2
    refine XW.iload_n 9 dX2_readNumber_8 rfl rfl ?_
    refine XW.iconst 10 dX2_readNumber_9 (v := 3) (by decide) rfl ?_
    refine XW.icmp_geN 52 13 j 3 dX2_readNumber_10 (by decide) rfl rfl rfl (by omega) (by omega) (fun c_10 => ?_) (fun c_10 => ?_)
    · have e0 : nuA (Z.2.1 46) len (3 - j) (k1 + j) v = (k1 + j, v) := by rw [show 3 - j = 0 by omega]; rfl
      refine XW.aload_n 53 dX2_readNumber_52 rfl rfl ?_
      refine XW.aload_n 54 dX2_readNumber_53 rfl rfl ?_
      refine XW.getf 57 (v := .int (Z.1 45 3)) f2_22 dX2_readNumber_54 rfl rfl rfl ?_
      refine XW.iload_n 58 dX2_readNumber_57 rfl rfl ?_
      refine XW.iast 59 (h' := HP (sI (sA Z 48 (upd (Z.2.1 48) q v)) 45 2 (nI (k1 + j)))) q dX2_readNumber_58 rfl hq3 (by omega) (by decide) rfl rfl ?_
      refine XW.iload_n 60 dX2_readNumber_59 rfl rfl ?_
      refine XW.if_le 77 63 dX2_readNumber_60 (by decide) rfl (fun c_60 => ?_) (fun c_60 => ?_)
      · have j0 := (nI_le0 (by omega)).mp c_60
        have e1 : (decide (k1 < k1 + j) && !inF (bh (Z.2.1 46) len (k1 + j)) 48 57) = false := by rw [decide_eq_false (by omega)]; rfl
        refine XW.iconst 78 dX2_readNumber_77 (v := 0) (by decide) rfl ?_
        exact XW.iret dX2_readNumber_78 rfl (⟨by rw [e0]; exact pF e1, by rw [e0]⟩)
      · have j0 : ¬ j = 0 := fun q => c_60 ((nI_le0 (by omega)).mpr q)
        refine XW.aload_n 64 dX2_readNumber_63 rfl rfl ?_
        refine XW.callV 67 (vs := []) (rest := []) (mcr := 0) (msr := 0) c2_41 dX2_readNumber_64 rfl rfl (by decide) (Nat.le_of_ble_eq_true rfl) rfl rfl (Nat.le_of_ble_eq_true rfl) rfl (c_byteHere (Z := sA Z 48 (upd (Z.2.1 48) q v)) (k := k1 + j) hlen l120 (by omega)) (fun r h1 hq => ?_)
        obtain ⟨rfl, rfl⟩ := hq
        refine XW.eqs (st' := [.int (bh (Z.2.1 46) len (k1 + j))]) rfl rfl rfl ?_
        refine XW.callS 70 (vs := [.int (bh (Z.2.1 46) len (k1 + j))]) (rest := []) (mcr := 0) (msr := 0) c2_59 dX2_readNumber_67 rfl (by decide) (Nat.le_of_ble_eq_true rfl) rfl rfl (Nat.le_of_ble_eq_true rfl) rfl (c_isTen _ _) (fun r h1 hq => ?_)
        obtain ⟨rfl, rfl⟩ := hq
        refine XW.eqs (st' := [.int (b2i (inF (bh (Z.2.1 46) len (k1 + j)) 48 57))]) rfl rfl rfl ?_
        refine XW.if_neB 77 73 dX2_readNumber_70 (by decide) rfl (fun c_70 => ?_) (fun c_70 => ?_)
        · have e1 : (decide (k1 < k1 + j) && !inF (bh (Z.2.1 46) len (k1 + j)) 48 57) = false := by rw [c_70]; simp
          refine XW.iconst 78 dX2_readNumber_77 (v := 0) (by decide) rfl ?_
          exact XW.iret dX2_readNumber_78 rfl (⟨by rw [e0]; exact pF e1, by rw [e0]⟩)
        · refine XW.iconst 74 dX2_readNumber_73 (v := 1) (by decide) rfl ?_
          refine XW.goto 78 dX2_readNumber_74 (by decide) ?_
          exact XW.iret dX2_readNumber_78 rfl (⟨by rw [e0]; exact pT (by rw [c_70, decide_eq_true (by omega)]; rfl), by rw [e0]⟩)
    · refine XW.aload_n 14 dX2_readNumber_13 rfl rfl ?_
      refine XW.callV 17 (vs := []) (rest := []) (mcr := 0) (msr := 0) c2_41 dX2_readNumber_14 rfl rfl (by decide) (Nat.le_of_ble_eq_true rfl) rfl rfl (Nat.le_of_ble_eq_true rfl) rfl (c_byteHere (Z := Z) (k := k1 + j) hlen l120 (by omega)) (fun r h1 hq => ?_)
      obtain ⟨rfl, rfl⟩ := hq
      refine XW.eqs (st' := [.int (bh (Z.2.1 46) len (k1 + j))]) rfl rfl rfl ?_
      refine XW.callS 20 (vs := [.int (bh (Z.2.1 46) len (k1 + j))]) (rest := []) (mcr := 0) (msr := 0) c2_59 dX2_readNumber_17 rfl (by decide) (Nat.le_of_ble_eq_true rfl) rfl rfl (Nat.le_of_ble_eq_true rfl) rfl (c_isTen _ _) (fun r h1 hq => ?_)
      obtain ⟨rfl, rfl⟩ := hq
      refine XW.eqs (st' := [.int (b2i (inF (bh (Z.2.1 46) len (k1 + j)) 48 57))]) rfl rfl rfl ?_
      refine XW.if_eqB 52 23 dX2_readNumber_20 (by decide) rfl (fun c_20 => ?_) (fun c_20 => ?_)
      · have e0 : nuA (Z.2.1 46) len (3 - j) (k1 + j) v = (k1 + j, v) := nuA_f c_20
        refine XW.aload_n 53 dX2_readNumber_52 rfl rfl ?_
        refine XW.aload_n 54 dX2_readNumber_53 rfl rfl ?_
        refine XW.getf 57 (v := .int (Z.1 45 3)) f2_22 dX2_readNumber_54 rfl rfl rfl ?_
        refine XW.iload_n 58 dX2_readNumber_57 rfl rfl ?_
        refine XW.iast 59 (h' := HP (sI (sA Z 48 (upd (Z.2.1 48) q v)) 45 2 (nI (k1 + j)))) q dX2_readNumber_58 rfl hq3 (by omega) (by decide) rfl rfl ?_
        refine XW.iload_n 60 dX2_readNumber_59 rfl rfl ?_
        refine XW.if_le 77 63 dX2_readNumber_60 (by decide) rfl (fun c_60 => ?_) (fun c_60 => ?_)
        · have j0 := (nI_le0 (by omega)).mp c_60
          have e1 : (decide (k1 < k1 + j) && !inF (bh (Z.2.1 46) len (k1 + j)) 48 57) = false := by rw [decide_eq_false (by omega)]; rfl
          refine XW.iconst 78 dX2_readNumber_77 (v := 0) (by decide) rfl ?_
          exact XW.iret dX2_readNumber_78 rfl (⟨by rw [e0]; exact pF e1, by rw [e0]⟩)
        · have j0 : ¬ j = 0 := fun q => c_60 ((nI_le0 (by omega)).mpr q)
          refine XW.aload_n 64 dX2_readNumber_63 rfl rfl ?_
          refine XW.callV 67 (vs := []) (rest := []) (mcr := 0) (msr := 0) c2_41 dX2_readNumber_64 rfl rfl (by decide) (Nat.le_of_ble_eq_true rfl) rfl rfl (Nat.le_of_ble_eq_true rfl) rfl (c_byteHere (Z := sA Z 48 (upd (Z.2.1 48) q v)) (k := k1 + j) hlen l120 (by omega)) (fun r h1 hq => ?_)
          obtain ⟨rfl, rfl⟩ := hq
          refine XW.eqs (st' := [.int (bh (Z.2.1 46) len (k1 + j))]) rfl rfl rfl ?_
          refine XW.callS 70 (vs := [.int (bh (Z.2.1 46) len (k1 + j))]) (rest := []) (mcr := 0) (msr := 0) c2_59 dX2_readNumber_67 rfl (by decide) (Nat.le_of_ble_eq_true rfl) rfl rfl (Nat.le_of_ble_eq_true rfl) rfl (c_isTen _ _) (fun r h1 hq => ?_)
          obtain ⟨rfl, rfl⟩ := hq
          refine XW.eqs (st' := [.int (b2i (inF (bh (Z.2.1 46) len (k1 + j)) 48 57))]) rfl rfl rfl ?_
          refine XW.if_neB 77 73 dX2_readNumber_70 (by decide) rfl (fun c_70 => ?_) (fun c_70 => ?_)
          · have e1 : (decide (k1 < k1 + j) && !inF (bh (Z.2.1 46) len (k1 + j)) 48 57) = false := by rw [c_70]; simp
            refine XW.iconst 78 dX2_readNumber_77 (v := 0) (by decide) rfl ?_
            exact XW.iret dX2_readNumber_78 rfl (⟨by rw [e0]; exact pF e1, by rw [e0]⟩)
          · refine XW.iconst 74 dX2_readNumber_73 (v := 1) (by decide) rfl ?_
            refine XW.goto 78 dX2_readNumber_74 (by decide) ?_
            exact XW.iret dX2_readNumber_78 rfl (⟨by rw [e0]; exact pT (by rw [c_70, decide_eq_true (by omega)]; rfl), by rw [e0]⟩)
      · refine XW.bipush 25 dX2_readNumber_23 (v := 10) (by decide) rfl ?_
        refine XW.iload_n 26 dX2_readNumber_25 rfl rfl ?_
        refine XW.imul 27 dX2_readNumber_26 rfl ?_
        refine XW.aload_n 28 dX2_readNumber_27 rfl rfl ?_
        refine XW.callV 31 (vs := []) (rest := [.int (10 * v)]) (mcr := 0) (msr := 0) c2_41 dX2_readNumber_28 rfl rfl (by decide) (Nat.le_of_ble_eq_true rfl) rfl rfl (Nat.le_of_ble_eq_true rfl) rfl (c_byteHere (Z := Z) (k := k1 + j) hlen l120 (by omega)) (fun r h1 hq => ?_)
        obtain ⟨rfl, rfl⟩ := hq
        refine XW.eqs (st' := [.int (bh (Z.2.1 46) len (k1 + j)), .int (10 * v)]) rfl rfl rfl ?_
        refine XW.callS 34 (vs := [.int (bh (Z.2.1 46) len (k1 + j))]) (rest := [.int (10 * v)]) (mcr := 0) (msr := 0) c2_55 dX2_readNumber_31 rfl (by decide) (Nat.le_of_ble_eq_true rfl) rfl rfl (Nat.le_of_ble_eq_true rfl) rfl (c_figureOf _ _) (fun r h1 hq => ?_)
        obtain ⟨rfl, rfl⟩ := hq
        refine XW.eqs (st' := [.int (figF (bh (Z.2.1 46) len (k1 + j))), .int (10 * v)]) rfl rfl rfl ?_
        refine XW.iadd 35 dX2_readNumber_34 rfl ?_
        refine XW.istore_n 36 (L' := [some (.ref 45), some (.ref 48), some (.int ((10 * v) + (figF (bh (Z.2.1 46) len (k1 + j))))), some (.int (nI j))]) dX2_readNumber_35 (by decide) rfl rfl rfl ?_
        refine XW.iinc 39 (y := nI (j + 1)) (L' := [some (.ref 45), some (.ref 48), some (.int ((10 * v) + (figF (bh (Z.2.1 46) len (k1 + j))))), some (.int (nI (j + 1)))]) dX2_readNumber_36 rfl (na rfl rfl) (by decide) rfl rfl rfl ?_
        refine XW.aload_n 40 dX2_readNumber_39 rfl rfl ?_
        refine XW.dup 41 dX2_readNumber_40 rfl rfl ?_
        refine XW.getf 44 (v := .int (nI (k1 + j))) f2_19 dX2_readNumber_41 rfl rfl rfl ?_
        refine XW.iconst 45 dX2_readNumber_44 (v := 1) (by decide) rfl ?_
        refine XW.iadd 46 dX2_readNumber_45 rfl ?_
        refine XW.putf 49 (h' := HP (sI Z 45 2 ((nI (k1 + j)) + 1))) (p2_19 _) dX2_readNumber_46 rfl (Nat.le_of_ble_eq_true rfl) (xfit_i _) rfl rfl ?_
        refine XW.eqs (h' := HP (sI Z 45 2 (nI ((k1 + j) + 1)))) rfl rfl (by rw [nI_1]) ?_
        refine XW.goto 8 dX2_readNumber_49 (by decide) ?_
        refine XW.post (ih (j + 1) _ (by omega) (by omega) (by have := bh_ten c_20; omega)) (fun r h1 hq => ?_)
        rw [show 3 - j = (3 - (j + 1)) + 1 by omega, nuA_t c_20]; exact hq
set_option maxHeartbeats 400000 in
set_option maxRecDepth 100000 in
theorem c_num48 {Z : xZ} {len q k : Nat} (hlen : Z.1 45 1 = nI len) (l120 : len ≤ 120) (hq3 : Z.1 45 3 = nI q) (q60 : q < 60) (kl : k ≤ len) : XC mX2_readNumber 2 0 0 [.ref 45, .ref 48] (HP (sI Z 45 2 (nI k))) (fun r h' => r = some (.int (b2i (nuF (Z.2.1 46) len k).1)) ∧ h' = HP (sI (sA Z 48 (upd (Z.2.1 48) q (nuF (Z.2.1 46) len k).2.2)) 45 2 (nI (nuF (Z.2.1 46) len k).2.1))) := by
  show XW mX2_readNumber 2 0 0 0 [some (.ref 45), some (.ref 48), none, none] [] (HP (sI Z 45 2 (nI k))) _
  refine XW.aload_n 1 dX2_readNumber_0 rfl rfl ?_
  refine XW.callV 4 (vs := []) (rest := []) (mcr := 0) (msr := 0) c2_34 dX2_readNumber_1 rfl rfl (by decide) (Nat.le_of_ble_eq_true rfl) rfl rfl (Nat.le_of_ble_eq_true rfl) rfl (c_skip (Z := Z) (k := k) hlen l120 (by omega)) (fun r h1 hq => ?_)
  obtain ⟨rfl, rfl⟩ := hq
  have sk := skF_le (b := (Z.2.1 46)) (len := len) (k := k) (by omega)
  refine XW.eqs (h' := HP (sI Z 45 2 (nI (skF (Z.2.1 46) len k)))) rfl rfl rfl ?_
  refine XW.iconst 5 dX2_readNumber_4 (v := 0) (by decide) rfl ?_
  refine XW.istore_n 6 (L' := [some (.ref 45), some (.ref 48), some (.int 0), none]) dX2_readNumber_5 (by decide) rfl rfl rfl ?_
  refine XW.iconst 7 dX2_readNumber_6 (v := 0) (by decide) rfl ?_
  refine XW.istore_n 8 (L' := [some (.ref 45), some (.ref 48), some (.int 0), some (.int 0)]) dX2_readNumber_7 (by decide) rfl rfl rfl ?_
  refine XW.eqs (L' := [some (.ref 45), some (.ref 48), some (.int 0), some (.int (nI 0))]) (h' := HP (sI Z 45 2 (nI (skF (Z.2.1 46) len k + 0)))) (by rfl) rfl (by rfl) ?_
  exact l_num48 hlen l120 hq3 q60 (k1 := skF (Z.2.1 46) len k) 4 0 0 (by omega) (by omega) (by omega)
set_option maxHeartbeats 400000 in
set_option maxRecDepth 100000 in
theorem l_num49 {Z : xZ} {len q k1 : Nat} (hlen : Z.1 45 1 = nI len) (l120 : len ≤ 120) (hq3 : Z.1 45 3 = nI q) (q60 : q < 60) : ∀ (n : Nat) (j : Nat) (v : Int32), j ≤ 3 → 3 < j + n → k1 + j ≤ len → XW mX2_readNumber 2 0 0 8 [some (.ref 45), some (.ref 49), some (.int v), some (.int (nI j))] [] (HP (sI Z 45 2 (nI (k1 + j)))) (fun r h' => r = some (.int (b2i (decide (k1 < (nuA (Z.2.1 46) len (3 - j) (k1 + j) v).1) && !inF (bh (Z.2.1 46) len (nuA (Z.2.1 46) len (3 - j) (k1 + j) v).1) 48 57))) ∧ h' = HP (sI (sA Z 49 (upd (Z.2.1 49) q (nuA (Z.2.1 46) len (3 - j) (k1 + j) v).2)) 45 2 (nI (nuA (Z.2.1 46) len (3 - j) (k1 + j) v).1))) := by
  intro n
  induction n with
  | zero => intro j v g0 g1 g2; omega
  | succ n ih =>
    intro j v g0 g1 g2
    refine XW.iload_n 9 dX2_readNumber_8 rfl rfl ?_
    refine XW.iconst 10 dX2_readNumber_9 (v := 3) (by decide) rfl ?_
    refine XW.icmp_geN 52 13 j 3 dX2_readNumber_10 (by decide) rfl rfl rfl (by omega) (by omega) (fun c_10 => ?_) (fun c_10 => ?_)
    · have e0 : nuA (Z.2.1 46) len (3 - j) (k1 + j) v = (k1 + j, v) := by rw [show 3 - j = 0 by omega]; rfl
      refine XW.aload_n 53 dX2_readNumber_52 rfl rfl ?_
      refine XW.aload_n 54 dX2_readNumber_53 rfl rfl ?_
      refine XW.getf 57 (v := .int (Z.1 45 3)) f2_22 dX2_readNumber_54 rfl rfl rfl ?_
      refine XW.iload_n 58 dX2_readNumber_57 rfl rfl ?_
      refine XW.iast 59 (h' := HP (sI (sA Z 49 (upd (Z.2.1 49) q v)) 45 2 (nI (k1 + j)))) q dX2_readNumber_58 rfl hq3 (by omega) (by decide) rfl rfl ?_
      refine XW.iload_n 60 dX2_readNumber_59 rfl rfl ?_
      refine XW.if_le 77 63 dX2_readNumber_60 (by decide) rfl (fun c_60 => ?_) (fun c_60 => ?_)
      · have j0 := (nI_le0 (by omega)).mp c_60
        have e1 : (decide (k1 < k1 + j) && !inF (bh (Z.2.1 46) len (k1 + j)) 48 57) = false := by rw [decide_eq_false (by omega)]; rfl
        refine XW.iconst 78 dX2_readNumber_77 (v := 0) (by decide) rfl ?_
        exact XW.iret dX2_readNumber_78 rfl (⟨by rw [e0]; exact pF e1, by rw [e0]⟩)
      · have j0 : ¬ j = 0 := fun q => c_60 ((nI_le0 (by omega)).mpr q)
        refine XW.aload_n 64 dX2_readNumber_63 rfl rfl ?_
        refine XW.callV 67 (vs := []) (rest := []) (mcr := 0) (msr := 0) c2_41 dX2_readNumber_64 rfl rfl (by decide) (Nat.le_of_ble_eq_true rfl) rfl rfl (Nat.le_of_ble_eq_true rfl) rfl (c_byteHere (Z := sA Z 49 (upd (Z.2.1 49) q v)) (k := k1 + j) hlen l120 (by omega)) (fun r h1 hq => ?_)
        obtain ⟨rfl, rfl⟩ := hq
        refine XW.eqs (st' := [.int (bh (Z.2.1 46) len (k1 + j))]) rfl rfl rfl ?_
        refine XW.callS 70 (vs := [.int (bh (Z.2.1 46) len (k1 + j))]) (rest := []) (mcr := 0) (msr := 0) c2_59 dX2_readNumber_67 rfl (by decide) (Nat.le_of_ble_eq_true rfl) rfl rfl (Nat.le_of_ble_eq_true rfl) rfl (c_isTen _ _) (fun r h1 hq => ?_)
        obtain ⟨rfl, rfl⟩ := hq
        refine XW.eqs (st' := [.int (b2i (inF (bh (Z.2.1 46) len (k1 + j)) 48 57))]) rfl rfl rfl ?_
        refine XW.if_neB 77 73 dX2_readNumber_70 (by decide) rfl (fun c_70 => ?_) (fun c_70 => ?_)
        · have e1 : (decide (k1 < k1 + j) && !inF (bh (Z.2.1 46) len (k1 + j)) 48 57) = false := by rw [c_70]; simp
          refine XW.iconst 78 dX2_readNumber_77 (v := 0) (by decide) rfl ?_
          exact XW.iret dX2_readNumber_78 rfl (⟨by rw [e0]; exact pF e1, by rw [e0]⟩)
        · refine XW.iconst 74 dX2_readNumber_73 (v := 1) (by decide) rfl ?_
          refine XW.goto 78 dX2_readNumber_74 (by decide) ?_
          exact XW.iret dX2_readNumber_78 rfl (⟨by rw [e0]; exact pT (by rw [c_70, decide_eq_true (by omega)]; rfl), by rw [e0]⟩)
    · refine XW.aload_n 14 dX2_readNumber_13 rfl rfl ?_
      refine XW.callV 17 (vs := []) (rest := []) (mcr := 0) (msr := 0) c2_41 dX2_readNumber_14 rfl rfl (by decide) (Nat.le_of_ble_eq_true rfl) rfl rfl (Nat.le_of_ble_eq_true rfl) rfl (c_byteHere (Z := Z) (k := k1 + j) hlen l120 (by omega)) (fun r h1 hq => ?_)
      obtain ⟨rfl, rfl⟩ := hq
      refine XW.eqs (st' := [.int (bh (Z.2.1 46) len (k1 + j))]) rfl rfl rfl ?_
      refine XW.callS 20 (vs := [.int (bh (Z.2.1 46) len (k1 + j))]) (rest := []) (mcr := 0) (msr := 0) c2_59 dX2_readNumber_17 rfl (by decide) (Nat.le_of_ble_eq_true rfl) rfl rfl (Nat.le_of_ble_eq_true rfl) rfl (c_isTen _ _) (fun r h1 hq => ?_)
      obtain ⟨rfl, rfl⟩ := hq
      refine XW.eqs (st' := [.int (b2i (inF (bh (Z.2.1 46) len (k1 + j)) 48 57))]) rfl rfl rfl ?_
      refine XW.if_eqB 52 23 dX2_readNumber_20 (by decide) rfl (fun c_20 => ?_) (fun c_20 => ?_)
      · have e0 : nuA (Z.2.1 46) len (3 - j) (k1 + j) v = (k1 + j, v) := nuA_f c_20
        refine XW.aload_n 53 dX2_readNumber_52 rfl rfl ?_
        refine XW.aload_n 54 dX2_readNumber_53 rfl rfl ?_
        refine XW.getf 57 (v := .int (Z.1 45 3)) f2_22 dX2_readNumber_54 rfl rfl rfl ?_
        refine XW.iload_n 58 dX2_readNumber_57 rfl rfl ?_
        refine XW.iast 59 (h' := HP (sI (sA Z 49 (upd (Z.2.1 49) q v)) 45 2 (nI (k1 + j)))) q dX2_readNumber_58 rfl hq3 (by omega) (by decide) rfl rfl ?_
        refine XW.iload_n 60 dX2_readNumber_59 rfl rfl ?_
        refine XW.if_le 77 63 dX2_readNumber_60 (by decide) rfl (fun c_60 => ?_) (fun c_60 => ?_)
        · have j0 := (nI_le0 (by omega)).mp c_60
          have e1 : (decide (k1 < k1 + j) && !inF (bh (Z.2.1 46) len (k1 + j)) 48 57) = false := by rw [decide_eq_false (by omega)]; rfl
          refine XW.iconst 78 dX2_readNumber_77 (v := 0) (by decide) rfl ?_
          exact XW.iret dX2_readNumber_78 rfl (⟨by rw [e0]; exact pF e1, by rw [e0]⟩)
        · have j0 : ¬ j = 0 := fun q => c_60 ((nI_le0 (by omega)).mpr q)
          refine XW.aload_n 64 dX2_readNumber_63 rfl rfl ?_
          refine XW.callV 67 (vs := []) (rest := []) (mcr := 0) (msr := 0) c2_41 dX2_readNumber_64 rfl rfl (by decide) (Nat.le_of_ble_eq_true rfl) rfl rfl (Nat.le_of_ble_eq_true rfl) rfl (c_byteHere (Z := sA Z 49 (upd (Z.2.1 49) q v)) (k := k1 + j) hlen l120 (by omega)) (fun r h1 hq => ?_)
          obtain ⟨rfl, rfl⟩ := hq
          refine XW.eqs (st' := [.int (bh (Z.2.1 46) len (k1 + j))]) rfl rfl rfl ?_
          refine XW.callS 70 (vs := [.int (bh (Z.2.1 46) len (k1 + j))]) (rest := []) (mcr := 0) (msr := 0) c2_59 dX2_readNumber_67 rfl (by decide) (Nat.le_of_ble_eq_true rfl) rfl rfl (Nat.le_of_ble_eq_true rfl) rfl (c_isTen _ _) (fun r h1 hq => ?_)
          obtain ⟨rfl, rfl⟩ := hq
          refine XW.eqs (st' := [.int (b2i (inF (bh (Z.2.1 46) len (k1 + j)) 48 57))]) rfl rfl rfl ?_
          refine XW.if_neB 77 73 dX2_readNumber_70 (by decide) rfl (fun c_70 => ?_) (fun c_70 => ?_)
          · have e1 : (decide (k1 < k1 + j) && !inF (bh (Z.2.1 46) len (k1 + j)) 48 57) = false := by rw [c_70]; simp
            refine XW.iconst 78 dX2_readNumber_77 (v := 0) (by decide) rfl ?_
            exact XW.iret dX2_readNumber_78 rfl (⟨by rw [e0]; exact pF e1, by rw [e0]⟩)
          · refine XW.iconst 74 dX2_readNumber_73 (v := 1) (by decide) rfl ?_
            refine XW.goto 78 dX2_readNumber_74 (by decide) ?_
            exact XW.iret dX2_readNumber_78 rfl (⟨by rw [e0]; exact pT (by rw [c_70, decide_eq_true (by omega)]; rfl), by rw [e0]⟩)
      · refine XW.bipush 25 dX2_readNumber_23 (v := 10) (by decide) rfl ?_
        refine XW.iload_n 26 dX2_readNumber_25 rfl rfl ?_
        refine XW.imul 27 dX2_readNumber_26 rfl ?_
        refine XW.aload_n 28 dX2_readNumber_27 rfl rfl ?_
        refine XW.callV 31 (vs := []) (rest := [.int (10 * v)]) (mcr := 0) (msr := 0) c2_41 dX2_readNumber_28 rfl rfl (by decide) (Nat.le_of_ble_eq_true rfl) rfl rfl (Nat.le_of_ble_eq_true rfl) rfl (c_byteHere (Z := Z) (k := k1 + j) hlen l120 (by omega)) (fun r h1 hq => ?_)
        obtain ⟨rfl, rfl⟩ := hq
        refine XW.eqs (st' := [.int (bh (Z.2.1 46) len (k1 + j)), .int (10 * v)]) rfl rfl rfl ?_
        refine XW.callS 34 (vs := [.int (bh (Z.2.1 46) len (k1 + j))]) (rest := [.int (10 * v)]) (mcr := 0) (msr := 0) c2_55 dX2_readNumber_31 rfl (by decide) (Nat.le_of_ble_eq_true rfl) rfl rfl (Nat.le_of_ble_eq_true rfl) rfl (c_figureOf _ _) (fun r h1 hq => ?_)
        obtain ⟨rfl, rfl⟩ := hq
        refine XW.eqs (st' := [.int (figF (bh (Z.2.1 46) len (k1 + j))), .int (10 * v)]) rfl rfl rfl ?_
        refine XW.iadd 35 dX2_readNumber_34 rfl ?_
        refine XW.istore_n 36 (L' := [some (.ref 45), some (.ref 49), some (.int ((10 * v) + (figF (bh (Z.2.1 46) len (k1 + j))))), some (.int (nI j))]) dX2_readNumber_35 (by decide) rfl rfl rfl ?_
        refine XW.iinc 39 (y := nI (j + 1)) (L' := [some (.ref 45), some (.ref 49), some (.int ((10 * v) + (figF (bh (Z.2.1 46) len (k1 + j))))), some (.int (nI (j + 1)))]) dX2_readNumber_36 rfl (na rfl rfl) (by decide) rfl rfl rfl ?_
        refine XW.aload_n 40 dX2_readNumber_39 rfl rfl ?_
        refine XW.dup 41 dX2_readNumber_40 rfl rfl ?_
        refine XW.getf 44 (v := .int (nI (k1 + j))) f2_19 dX2_readNumber_41 rfl rfl rfl ?_
        refine XW.iconst 45 dX2_readNumber_44 (v := 1) (by decide) rfl ?_
        refine XW.iadd 46 dX2_readNumber_45 rfl ?_
        refine XW.putf 49 (h' := HP (sI Z 45 2 ((nI (k1 + j)) + 1))) (p2_19 _) dX2_readNumber_46 rfl (Nat.le_of_ble_eq_true rfl) (xfit_i _) rfl rfl ?_
        refine XW.eqs (h' := HP (sI Z 45 2 (nI ((k1 + j) + 1)))) rfl rfl (by rw [nI_1]) ?_
        refine XW.goto 8 dX2_readNumber_49 (by decide) ?_
        refine XW.post (ih (j + 1) _ (by omega) (by omega) (by have := bh_ten c_20; omega)) (fun r h1 hq => ?_)
        rw [show 3 - j = (3 - (j + 1)) + 1 by omega, nuA_t c_20]; exact hq
set_option maxHeartbeats 400000 in
set_option maxRecDepth 100000 in
theorem c_num49 {Z : xZ} {len q k : Nat} (hlen : Z.1 45 1 = nI len) (l120 : len ≤ 120) (hq3 : Z.1 45 3 = nI q) (q60 : q < 60) (kl : k ≤ len) : XC mX2_readNumber 2 0 0 [.ref 45, .ref 49] (HP (sI Z 45 2 (nI k))) (fun r h' => r = some (.int (b2i (nuF (Z.2.1 46) len k).1)) ∧ h' = HP (sI (sA Z 49 (upd (Z.2.1 49) q (nuF (Z.2.1 46) len k).2.2)) 45 2 (nI (nuF (Z.2.1 46) len k).2.1))) := by
  show XW mX2_readNumber 2 0 0 0 [some (.ref 45), some (.ref 49), none, none] [] (HP (sI Z 45 2 (nI k))) _
  refine XW.aload_n 1 dX2_readNumber_0 rfl rfl ?_
  refine XW.callV 4 (vs := []) (rest := []) (mcr := 0) (msr := 0) c2_34 dX2_readNumber_1 rfl rfl (by decide) (Nat.le_of_ble_eq_true rfl) rfl rfl (Nat.le_of_ble_eq_true rfl) rfl (c_skip (Z := Z) (k := k) hlen l120 (by omega)) (fun r h1 hq => ?_)
  obtain ⟨rfl, rfl⟩ := hq
  have sk := skF_le (b := (Z.2.1 46)) (len := len) (k := k) (by omega)
  refine XW.eqs (h' := HP (sI Z 45 2 (nI (skF (Z.2.1 46) len k)))) rfl rfl rfl ?_
  refine XW.iconst 5 dX2_readNumber_4 (v := 0) (by decide) rfl ?_
  refine XW.istore_n 6 (L' := [some (.ref 45), some (.ref 49), some (.int 0), none]) dX2_readNumber_5 (by decide) rfl rfl rfl ?_
  refine XW.iconst 7 dX2_readNumber_6 (v := 0) (by decide) rfl ?_
  refine XW.istore_n 8 (L' := [some (.ref 45), some (.ref 49), some (.int 0), some (.int 0)]) dX2_readNumber_7 (by decide) rfl rfl rfl ?_
  refine XW.eqs (L' := [some (.ref 45), some (.ref 49), some (.int 0), some (.int (nI 0))]) (h' := HP (sI Z 45 2 (nI (skF (Z.2.1 46) len k + 0)))) (by rfl) rfl (by rfl) ?_
  exact l_num49 hlen l120 hq3 q60 (k1 := skF (Z.2.1 46) len k) 4 0 0 (by omega) (by omega) (by omega)
