/-! The class: the chooser, what is measured and read -/
def apG (ey rgb : Nat → Int32) (i j : Nat) : UInt32 := if j < i then apartF ey rgb i j else apartF ey rgb j i
theorem apG_lt {ey rgb : Nat → Int32} {i j : Nat} (h : j < i) : apG ey rgb i j = apartF ey rgb i j := if_pos h
theorem apG_gt {ey rgb : Nat → Int32} {i j : Nat} (h : i < j) : apG ey rgb i j = apartF ey rgb j i := if_neg (by omega)
theorem apG_sym {ey rgb : Nat → Int32} {i j : Nat} (h : i ≠ j) : apG ey rgb i j = apG ey rgb j i := by
  rcases Nat.lt_or_gt_of_ne h with q | q
  · rw [apG_gt q, apG_lt q]
  · rw [apG_lt q, apG_gt q]
theorem apG_NF {rgb gr ey lm : Nat → Int32} (ok : okS rgb gr ey lm) {i j : Nat} (hi : i < 20) (hj : j < 20) : NF (apG ey rgb i j) := by
  unfold apG; split
  · exact apartF_NF ok hi hj
  · exact apartF_NF ok hj hi
/-- the table of APART is laid for c COLOURS -/
def gapOK (G : Nat → UInt32) (ey rgb : Nat → Int32) (c : Nat) : Prop := ∀ i j, i < c → j < c → i ≠ j → G (20 * i + j) = apG ey rgb i j
theorem gap_ne {a b x y : Nat} (hb : b < 20) (hy : y < 20) (h : 20 * a + b = 20 * x + y) : a = x ∧ b = y := by omega
theorem ms_step {ap : Nat → Nat → UInt32} {G : Nat → UInt32} {i j : Nat} (hi : i < 20) (hj : j < i) (g : ∀ a b, b < a → (a < i ∨ (a = i ∧ b < j)) → G (20 * a + b) = ap a b ∧ G (20 * b + a) = ap a b) :
    ∀ a b, b < a → (a < i ∨ (a = i ∧ b < j + 1)) → vf_upd (vf_upd G (20 * i + j) (ap i j)) (20 * j + i) (ap i j) (20 * a + b) = ap a b ∧ vf_upd (vf_upd G (20 * i + j) (ap i j)) (20 * j + i) (ap i j) (20 * b + a) = ap a b := by
  intro a b hb h
  have e1 : ¬ 20 * b + a = 20 * i + j := fun q => by have := gap_ne (by omega) (by omega) q; omega
  have e2 : ¬ 20 * a + b = 20 * j + i := fun q => by have := gap_ne (by omega) (by omega) q; omega
  unfold vf_upd
  by_cases e : a = i ∧ b = j
  · obtain ⟨rfl, rfl⟩ := e
    simp
  · have e3 : ¬ 20 * a + b = 20 * i + j := fun q => by have := gap_ne (by omega) (by omega) q; omega
    have e4 : ¬ 20 * b + a = 20 * j + i := fun q => by have := gap_ne (by omega) (by omega) q; omega
    simp only [e1, e2, e3, e4, if_false]
    exact g a b hb (by omega)
set_option maxHeartbeats 4000000 in
set_option maxRecDepth 100000 in
theorem l_measure_i {Z : xZ} {c : Nat} (hc : Z.1 1 0 = nI c) (c20 : c ≤ 20) (ok : okS (Z.2.1 2) (Z.2.1 3) (Z.2.1 4) (Z.2.1 5)) {i : Nat} (ic : i < c) (KK : ∀ G : Nat → UInt32, (∀ a b, b < a → a < i + 1 → G (20 * a + b) = apartF (Z.2.1 4) (Z.2.1 2) a b ∧ G (20 * b + a) = apartF (Z.2.1 4) (Z.2.1 2) a b) → XW mX0_measure 3 0 0 2 [some (.ref 50), some (.ref 1), some (.int (nI (i + 1))), none, none] [] (HP (sF Z 51 G)) (fun r h' => r = none ∧ ∃ G, gapOK G (Z.2.1 4) (Z.2.1 2) c ∧ h' = HP (sF Z 51 G))) : ∀ (n : Nat) (j : Nat) (G : Nat → UInt32), j ≤ i → i < j + n → (∀ a b, b < a → (a < i ∨ (a = i ∧ b < j)) → G (20 * a + b) = apartF (Z.2.1 4) (Z.2.1 2) a b ∧ G (20 * b + a) = apartF (Z.2.1 4) (Z.2.1 2) a b) → XW mX0_measure 3 0 0 12 [some (.ref 50), some (.ref 1), some (.int (nI i)), some (.int (nI j)), none] [] (HP (sF Z 51 G)) (fun r h' => r = none ∧ ∃ G, gapOK G (Z.2.1 4) (Z.2.1 2) c ∧ h' = HP (sF Z 51 G)) := by
  intro n
  induction n with
  | zero => intro j G g0 g1 g2; omega
  | succ n ih =>
    intro j G g0 g1 g2
    refine XW.iload_n 13 dX0_measure_12 rfl rfl ?_
    refine XW.iload_n 14 dX0_measure_13 rfl rfl ?_
    refine XW.icmp_geN 57 17 j i dX0_measure_14 (by decide) rfl rfl rfl (by omega) (by omega) (fun c_14 => ?_) (fun c_14 => ?_)
    · refine XW.iinc 60 (y := nI (i + 1)) (L' := [some (.ref 50), some (.ref 1), some (.int (nI (i + 1))), some (.int (nI j)), none]) dX0_measure_57 rfl (na rfl rfl) (by decide) rfl rfl rfl ?_
      refine XW.goto 2 dX0_measure_60 (by decide) ?_
      refine XW.weak [true, true, true, false, true] (L' := [some (.ref 50), some (.ref 1), some (.int (nI (i + 1))), none, none]) rfl ?_
      exact KK G (fun a b h1 h2 => g2 a b h1 (by omega))
    · refine XW.aload_n 18 dX0_measure_17 rfl rfl ?_
      refine XW.iload_n 19 dX0_measure_18 rfl rfl ?_
      refine XW.iload_n 20 dX0_measure_19 rfl rfl ?_
      refine XW.callV 23 (vs := [.int (nI i), .int (nI j)]) (rest := []) (mcr := 0) (msr := 0) c0_25 dX0_measure_20 rfl rfl (by decide) (Nat.le_of_ble_eq_true rfl) rfl rfl (Nat.le_of_ble_eq_true rfl) rfl (c_apartOf (i := i) (j := j) rfl rfl (by omega) (by omega) ok) (fun r h1 hq => ?_)
      obtain ⟨rfl, rfl⟩ := hq
      refine XW.fstore 25 (L' := [some (.ref 50), some (.ref 1), some (.int (nI i)), some (.int (nI j)), some (.float (apartF (Z.2.1 4) (Z.2.1 2) i j))]) dX0_measure_23 (by decide) rfl rfl rfl ?_
      refine XW.aload_n 26 dX0_measure_25 rfl rfl ?_
      refine XW.getf 29 (v := .ref 51) f0_9 dX0_measure_26 rfl rfl rfl ?_
      refine XW.bipush 31 dX0_measure_29 (v := 20) (by decide) rfl ?_
      refine XW.iload_n 32 dX0_measure_31 rfl rfl ?_
      refine XW.imul 33 dX0_measure_32 rfl ?_
      refine XW.iload_n 34 dX0_measure_33 rfl rfl ?_
      refine XW.iadd 35 dX0_measure_34 rfl ?_
      refine XW.fload 37 dX0_measure_35 rfl rfl ?_
      refine XW.fast 38 (h' := HP (sF (sF Z 51 G) 51 (vf_upd G ((20 * i) + j) (apartF (Z.2.1 4) (Z.2.1 2) i j)))) ((20 * i) + j) dX0_measure_37 rfl (na (nm rfl rfl) rfl) (by omega) (by decide) rfl rfl ?_
      refine XW.aload_n 39 dX0_measure_38 rfl rfl ?_
      refine XW.getf 42 (v := .ref 51) f0_9 dX0_measure_39 rfl rfl rfl ?_
      refine XW.bipush 44 dX0_measure_42 (v := 20) (by decide) rfl ?_
      refine XW.iload_n 45 dX0_measure_44 rfl rfl ?_
      refine XW.imul 46 dX0_measure_45 rfl ?_
      refine XW.iload_n 47 dX0_measure_46 rfl rfl ?_
      refine XW.iadd 48 dX0_measure_47 rfl ?_
      refine XW.fload 50 dX0_measure_48 rfl rfl ?_
      refine XW.fast 51 (h' := HP (sF (sF (sF Z 51 G) 51 (vf_upd G ((20 * i) + j) (apartF (Z.2.1 4) (Z.2.1 2) i j))) 51 (vf_upd (vf_upd G ((20 * i) + j) (apartF (Z.2.1 4) (Z.2.1 2) i j)) ((20 * j) + i) (apartF (Z.2.1 4) (Z.2.1 2) i j)))) ((20 * j) + i) dX0_measure_50 rfl (na (nm rfl rfl) rfl) (by omega) (by decide) rfl rfl ?_
      refine XW.iinc 54 (y := nI (j + 1)) (L' := [some (.ref 50), some (.ref 1), some (.int (nI i)), some (.int (nI (j + 1))), some (.float (apartF (Z.2.1 4) (Z.2.1 2) i j))]) dX0_measure_51 rfl (na rfl rfl) (by decide) rfl rfl rfl ?_
      refine XW.goto 12 dX0_measure_54 (by decide) ?_
      refine XW.weak [true, true, true, true, false] (L' := [some (.ref 50), some (.ref 1), some (.int (nI i)), some (.int (nI (j + 1))), none]) rfl ?_
      exact ih (j + 1) _ (by omega) (by omega) (ms_step (by omega) (by omega) g2)
set_option maxHeartbeats 4000000 in
set_option maxRecDepth 100000 in
theorem l_measure_o {Z : xZ} {c : Nat} (hc : Z.1 1 0 = nI c) (c20 : c ≤ 20) (ok : okS (Z.2.1 2) (Z.2.1 3) (Z.2.1 4) (Z.2.1 5)) : ∀ (n : Nat) (i : Nat) (G : Nat → UInt32), i ≤ c → c < i + n → (∀ a b, b < a → a < i → G (20 * a + b) = apartF (Z.2.1 4) (Z.2.1 2) a b ∧ G (20 * b + a) = apartF (Z.2.1 4) (Z.2.1 2) a b) → XW mX0_measure 3 0 0 2 [some (.ref 50), some (.ref 1), some (.int (nI i)), none, none] [] (HP (sF Z 51 G)) (fun r h' => r = none ∧ ∃ G, gapOK G (Z.2.1 4) (Z.2.1 2) c ∧ h' = HP (sF Z 51 G)) := by
  intro n
  induction n with
  | zero => intro i G g0 g1 g2; omega
  | succ n ih =>
    intro i G g0 g1 g2
    refine XW.iload_n 3 dX0_measure_2 rfl rfl ?_
    refine XW.aload_n 4 dX0_measure_3 rfl rfl ?_
    refine XW.getf 7 (v := .int (Z.1 1 0)) f0_19 dX0_measure_4 rfl rfl rfl ?_
    refine XW.icmp_geN 63 10 i c dX0_measure_7 (by decide) rfl rfl hc (by omega) (by omega) (fun c_7 => ?_) (fun c_7 => ?_)
    · exact XW.vret dX0_measure_63 trivial (⟨rfl, G, fun a b h1 h2 h3 => by
            rcases Nat.lt_or_gt_of_ne h3 with q | q
            · rw [apG_gt q]; exact (g2 b a q (by omega)).2
            · rw [apG_lt q]; exact (g2 a b q (by omega)).1, rfl⟩)
    · refine XW.iconst 11 dX0_measure_10 (v := 0) (by decide) rfl ?_
      refine XW.istore_n 12 (L' := [some (.ref 50), some (.ref 1), some (.int (nI i)), some (.int 0), none]) dX0_measure_11 (by decide) rfl rfl rfl ?_
      exact l_measure_i hc c20 ok (by omega) (fun G hG => ih (i + 1) G (by omega) (by omega) hG) (i + 1) 0 G (by omega) (by omega) (fun a b h1 h2 => g2 a b h1 (by omega))
set_option maxHeartbeats 4000000 in
set_option maxRecDepth 100000 in
theorem c_measure {Z : xZ} {c : Nat} (hc : Z.1 1 0 = nI c) (c20 : c ≤ 20) (ok : okS (Z.2.1 2) (Z.2.1 3) (Z.2.1 4) (Z.2.1 5)) : XC mX0_measure 3 0 0 [.ref 50, .ref 1] (HP Z) (fun r h' => r = none ∧ ∃ G, gapOK G (Z.2.1 4) (Z.2.1 2) c ∧ h' = HP (sF Z 51 G)) := by
  show XW mX0_measure 3 0 0 0 [some (.ref 50), some (.ref 1), none, none, none] [] (HP Z) _
  refine XW.iconst 1 dX0_measure_0 (v := 0) (by decide) rfl ?_
  refine XW.istore_n 2 (L' := [some (.ref 50), some (.ref 1), some (.int 0), none, none]) dX0_measure_1 (by decide) rfl rfl rfl ?_
  exact l_measure_o hc c20 ok (c + 1) 0 (Z.2.2.1 51) (by omega) (by omega) (fun a b h1 h2 => absurd h2 (by omega))
set_option maxHeartbeats 4000000 in
set_option maxRecDepth 100000 in
theorem c_gap {Z : xZ} {x y : Int32} {i j : Nat} (hx : x = nI i) (hy : y = nI j) (i20 : i < 20) (j20 : j < 20) : XC mX0_gap 0 0 0 [.ref 50, .int x, .int y] (HP Z) (fun r h' => r = some (.float (Z.2.2.1 51 (20 * i + j))) ∧ h' = HP Z) := by
  show XW mX0_gap 0 0 0 0 [some (.ref 50), some (.int x), some (.int y)] [] (HP Z) _
  refine XW.aload_n 1 dX0_gap_0 rfl rfl ?_
  refine XW.getf 4 (v := .ref 51) f0_9 dX0_gap_1 rfl rfl rfl ?_
  refine XW.bipush 6 dX0_gap_4 (v := 20) (by decide) rfl ?_
  refine XW.iload_n 7 dX0_gap_6 rfl rfl ?_
  refine XW.imul 8 dX0_gap_7 rfl ?_
  refine XW.iload_n 9 dX0_gap_8 rfl rfl ?_
  refine XW.iadd 10 dX0_gap_9 rfl ?_
  refine XW.fald 11 ((20 * i) + j) dX0_gap_10 rfl (na (nm rfl hx) hy) (by omega) (by decide) rfl ?_
  exact XW.fret dX0_gap_11 trivial (⟨rfl, rfl⟩)
/-- the number at a place of a row -/
def rv (f : Nat → Int32) (p : Nat) : Nat := (f p).toNatClampNeg
def rowOK (f : Nat → Int32) (l c : Nat) : Prop := ∀ p, p < l → f p = nI (rv f p) ∧ rv f p < c
def rowDI (f : Nat → Int32) (l : Nat) : Prop := ∀ a b, a < b → b < l → rv f a ≠ rv f b
/-- LEAST of the first l of a row q, by the table ap -/
def LEA (ap : Nat → Nat → UInt32) (q : Nat → Nat) (l : Nat) (v : UInt32) : Prop := (l < 2 → v = FP.fconst0) ∧ (2 ≤ l → (∃ a b, a < b ∧ b < l ∧ v = ap (q a) (q b)) ∧ ∀ a b, a < b → b < l → v ≤ ap (q a) (q b))
theorem LEA.one {ap : Nat → Nat → UInt32} {q : Nat → Nat} {l : Nat} {v w : UInt32} (h1 : LEA ap q l v) (h2 : LEA ap q l w) : v = w := by
  by_cases hl : l < 2
  · rw [h1.1 hl, h2.1 hl]
  · obtain ⟨⟨a, b, q1, q2, e1⟩, g1⟩ := h1.2 (by omega)
    obtain ⟨⟨a', b', q1', q2', e2⟩, g2⟩ := h2.2 (by omega)
    apply UInt32.le_antisymm
    · rw [e2]; exact g1 a' b' q1' q2'
    · rw [e1]; exact g2 a b q1 q2
theorem LEA.NF {ap : Nat → Nat → UInt32} {q : Nat → Nat} {l : Nat} {v : UInt32} (h : LEA ap q l v) (hn : ∀ a b, a < b → b < l → NF (ap (q a) (q b))) : NF v := by
  by_cases hl : l < 2
  · rw [h.1 hl]; exact NF_0
  · obtain ⟨⟨a, b, q1, q2, e1⟩, g1⟩ := h.2 (by omega)
    rw [e1]; exact hn a b q1 q2
set_option maxHeartbeats 4000000 in
set_option maxRecDepth 100000 in
theorem l_leastOf6_i {Z : xZ} {c l : Nat} {xl : Int32} (hxl : xl = nI l) (l8 : l ≤ 8) (c20 : c ≤ 20) (hf : rowOK (Z.2.1 6) l c) (hdi : rowDI (Z.2.1 6) l) (hG : gapOK (Z.2.2.1 51) (Z.2.1 4) (Z.2.1 2) c) (ok : okS (Z.2.1 2) (Z.2.1 3) (Z.2.1 4) (Z.2.1 5)) {i : Nat} (il : i < l) (KK : ∀ v, ((∃ a b, a < b ∧ b < l ∧ v = (apG (Z.2.1 4) (Z.2.1 2)) (rv (Z.2.1 6) a) (rv (Z.2.1 6) b)) ∧ ∀ a b, a < b → b < l → a < i + 1 → v ≤ (apG (Z.2.1 4) (Z.2.1 2)) (rv (Z.2.1 6) a) (rv (Z.2.1 6) b)) → XW mX0_leastOf 1 0 0 21 [some (.ref 50), some (.ref 6), some (.int xl), some (.float v), some (.int (nI (i + 1))), none, none] [] (HP Z) (fun r h' => (∃ v, r = some (.float v) ∧ LEA (apG (Z.2.1 4) (Z.2.1 2)) (rv (Z.2.1 6)) l v) ∧ h' = HP Z)) : ∀ (n : Nat) (j : Nat) (v : UInt32), j ≤ l → l < j + n → i < j ∧ ((∃ a b, a < b ∧ b < l ∧ v = (apG (Z.2.1 4) (Z.2.1 2)) (rv (Z.2.1 6) a) (rv (Z.2.1 6) b)) ∧ ∀ a b, a < b → b < l → (a < i ∨ (a = i ∧ b < j)) → v ≤ (apG (Z.2.1 4) (Z.2.1 2)) (rv (Z.2.1 6) a) (rv (Z.2.1 6) b)) → XW mX0_leastOf 1 0 0 33 [some (.ref 50), some (.ref 6), some (.int xl), some (.float v), some (.int (nI i)), some (.int (nI j)), none] [] (HP Z) (fun r h' => (∃ v, r = some (.float v) ∧ LEA (apG (Z.2.1 4) (Z.2.1 2)) (rv (Z.2.1 6)) l v) ∧ h' = HP Z) := by
  intro n
  induction n with
  | zero => intro j v g0 g1 g2; omega
  | succ n ih =>
    intro j v g0 g1 g2
    obtain ⟨gij, g2⟩ := g2
    refine XW.iload 35 dX0_leastOf_33 rfl rfl ?_
    refine XW.iload_n 36 dX0_leastOf_35 rfl rfl ?_
    refine XW.icmp_geN 73 39 j l dX0_leastOf_36 (by decide) rfl rfl hxl (by omega) (by omega) (fun c_36 => ?_) (fun c_36 => ?_)
    · refine XW.iinc 76 (y := nI (i + 1)) (L' := [some (.ref 50), some (.ref 6), some (.int xl), some (.float v), some (.int (nI (i + 1))), some (.int (nI j)), none]) dX0_leastOf_73 rfl (na rfl rfl) (by decide) rfl rfl rfl ?_
      refine XW.goto 21 dX0_leastOf_76 (by decide) ?_
      refine XW.weak [true, true, true, true, true, false, true] (L' := [some (.ref 50), some (.ref 6), some (.int xl), some (.float v), some (.int (nI (i + 1))), none, none]) rfl ?_
      exact KK v ⟨g2.1, fun a b p1 p2 p3 => g2.2 a b p1 p2 (by omega)⟩
    · have b1 := (hf i (by omega)).2
      have b2 := (hf j (by omega)).2
      have b3 := hdi i j (by omega) (by omega)
      have b4 := hG _ _ b1 b2 b3
      have b5 : NF (Z.2.2.1 51 (20 * rv (Z.2.1 6) i + rv (Z.2.1 6) j)) := by rw [b4]; exact apG_NF ok (by omega) (by omega)
      have b6 : NF v := by obtain ⟨⟨a, b, p1, p2, p3⟩, -⟩ := g2; rw [p3]; exact apG_NF ok (by have := (hf a (by omega)).2; omega) (by have := (hf b (by omega)).2; omega)
      refine XW.aload_n 40 dX0_leastOf_39 rfl rfl ?_
      refine XW.aload_n 41 dX0_leastOf_40 rfl rfl ?_
      refine XW.iload 43 dX0_leastOf_41 rfl rfl ?_
      refine XW.iald 44 i dX0_leastOf_43 rfl rfl (by omega) (by decide) rfl ?_
      refine XW.aload_n 45 dX0_leastOf_44 rfl rfl ?_
      refine XW.iload 47 dX0_leastOf_45 rfl rfl ?_
      refine XW.iald 48 j dX0_leastOf_47 rfl rfl (by omega) (by decide) rfl ?_
      refine XW.callV 51 (vs := [.int (Z.2.1 6 i), .int (Z.2.1 6 j)]) (rest := []) (mcr := 0) (msr := 0) c0_29 dX0_leastOf_48 rfl rfl (by decide) (Nat.le_of_ble_eq_true rfl) rfl rfl (Nat.le_of_ble_eq_true rfl) rfl (c_gap (i := rv (Z.2.1 6) i) (j := rv (Z.2.1 6) j) (hf _ (by omega)).1 (hf _ (by omega)).1 (by omega) (by omega)) (fun r h1 hq => ?_)
      obtain ⟨rfl, rfl⟩ := hq
      refine XW.fstore 53 (L' := [some (.ref 50), some (.ref 6), some (.int xl), some (.float v), some (.int (nI i)), some (.int (nI j)), some (.float (Z.2.2.1 51 (20 * (rv (Z.2.1 6) i) + (rv (Z.2.1 6) j))))]) dX0_leastOf_51 (by decide) rfl rfl rfl ?_
      refine XW.fload 55 dX0_leastOf_53 rfl rfl ?_
      refine XW.fload_n 56 dX0_leastOf_55 rfl rfl ?_
      refine XW.fcmpU 57 dX0_leastOf_56 b5 b6 rfl ?_
      refine XW.if_geU 65 60 dX0_leastOf_57 (by decide) rfl (fun c_57 => ?_) (fun c_57 => ?_)
      · refine XW.fload_n 66 dX0_leastOf_65 rfl rfl ?_
        refine XW.fstore_n 67 (L' := [some (.ref 50), some (.ref 6), some (.int xl), some (.float v), some (.int (nI i)), some (.int (nI j)), some (.float (Z.2.2.1 51 (20 * (rv (Z.2.1 6) i) + (rv (Z.2.1 6) j))))]) dX0_leastOf_66 (by decide) rfl rfl rfl ?_
        refine XW.iinc 70 (y := nI (j + 1)) (L' := [some (.ref 50), some (.ref 6), some (.int xl), some (.float v), some (.int (nI i)), some (.int (nI (j + 1))), some (.float (Z.2.2.1 51 (20 * (rv (Z.2.1 6) i) + (rv (Z.2.1 6) j))))]) dX0_leastOf_67 rfl (na rfl rfl) (by decide) rfl rfl rfl ?_
        refine XW.goto 33 dX0_leastOf_70 (by decide) ?_
        refine XW.weak [true, true, true, true, true, true, false] (L' := [some (.ref 50), some (.ref 6), some (.int xl), some (.float v), some (.int (nI i)), some (.int (nI (j + 1))), none]) rfl ?_
        exact ih (j + 1) _ (by omega) (by omega) ⟨by omega, g2.1, fun a b p1 p2 p3 => by
              by_cases e : a = i ∧ b = j
              · obtain ⟨rfl, rfl⟩ := e; rw [← b4]; exact UInt32.not_lt.mp c_57
              · exact g2.2 a b p1 p2 (by omega)⟩
      · refine XW.fload 62 dX0_leastOf_60 rfl rfl ?_
        refine XW.goto 66 dX0_leastOf_62 (by decide) ?_
        refine XW.fstore_n 67 (L' := [some (.ref 50), some (.ref 6), some (.int xl), some (.float (Z.2.2.1 51 (20 * (rv (Z.2.1 6) i) + (rv (Z.2.1 6) j)))), some (.int (nI i)), some (.int (nI j)), some (.float (Z.2.2.1 51 (20 * (rv (Z.2.1 6) i) + (rv (Z.2.1 6) j))))]) dX0_leastOf_66 (by decide) rfl rfl rfl ?_
        refine XW.iinc 70 (y := nI (j + 1)) (L' := [some (.ref 50), some (.ref 6), some (.int xl), some (.float (Z.2.2.1 51 (20 * (rv (Z.2.1 6) i) + (rv (Z.2.1 6) j)))), some (.int (nI i)), some (.int (nI (j + 1))), some (.float (Z.2.2.1 51 (20 * (rv (Z.2.1 6) i) + (rv (Z.2.1 6) j))))]) dX0_leastOf_67 rfl (na rfl rfl) (by decide) rfl rfl rfl ?_
        refine XW.goto 33 dX0_leastOf_70 (by decide) ?_
        refine XW.weak [true, true, true, true, true, true, false] (L' := [some (.ref 50), some (.ref 6), some (.int xl), some (.float (Z.2.2.1 51 (20 * (rv (Z.2.1 6) i) + (rv (Z.2.1 6) j)))), some (.int (nI i)), some (.int (nI (j + 1))), none]) rfl ?_
        exact ih (j + 1) _ (by omega) (by omega) ⟨by omega, ⟨i, j, by omega, by omega, b4⟩, fun a b p1 p2 p3 => by
              by_cases e : a = i ∧ b = j
              · obtain ⟨rfl, rfl⟩ := e; rw [b4]; exact UInt32.le_refl _
              · exact UInt32.le_of_lt (UInt32.lt_of_lt_of_le c_57 (g2.2 a b p1 p2 (by omega)))⟩
set_option maxHeartbeats 4000000 in
set_option maxRecDepth 100000 in
theorem l_leastOf6_o {Z : xZ} {c l : Nat} {xl : Int32} (hxl : xl = nI l) (l8 : l ≤ 8) (c20 : c ≤ 20) (hf : rowOK (Z.2.1 6) l c) (hdi : rowDI (Z.2.1 6) l) (hG : gapOK (Z.2.2.1 51) (Z.2.1 4) (Z.2.1 2) c) (ok : okS (Z.2.1 2) (Z.2.1 3) (Z.2.1 4) (Z.2.1 5)) (l2 : 2 ≤ l) : ∀ (n : Nat) (i : Nat) (v : UInt32), i ≤ l → l < i + n → ((∃ a b, a < b ∧ b < l ∧ v = (apG (Z.2.1 4) (Z.2.1 2)) (rv (Z.2.1 6) a) (rv (Z.2.1 6) b)) ∧ ∀ a b, a < b → b < l → a < i → v ≤ (apG (Z.2.1 4) (Z.2.1 2)) (rv (Z.2.1 6) a) (rv (Z.2.1 6) b)) → XW mX0_leastOf 1 0 0 21 [some (.ref 50), some (.ref 6), some (.int xl), some (.float v), some (.int (nI i)), none, none] [] (HP Z) (fun r h' => (∃ v, r = some (.float v) ∧ LEA (apG (Z.2.1 4) (Z.2.1 2)) (rv (Z.2.1 6)) l v) ∧ h' = HP Z) := by
  intro n
  induction n with
  | zero => intro i v g0 g1 g2; omega
  | succ n ih =>
    intro i v g0 g1 g2
    refine XW.iload 23 dX0_leastOf_21 rfl rfl ?_
    refine XW.iload_n 24 dX0_leastOf_23 rfl rfl ?_
    refine XW.icmp_geN 79 27 i l dX0_leastOf_24 (by decide) rfl rfl hxl (by omega) (by omega) (fun c_24 => ?_) (fun c_24 => ?_)
    · refine XW.fload_n 80 dX0_leastOf_79 rfl rfl ?_
      exact XW.fret dX0_leastOf_80 trivial (⟨⟨v, rfl, fun q => absurd q (by omega), fun _ => ⟨g2.1, fun a b p1 p2 => g2.2 a b p1 p2 (by omega)⟩⟩, rfl⟩)
    · refine XW.iload 29 dX0_leastOf_27 rfl rfl ?_
      refine XW.iconst 30 dX0_leastOf_29 (v := 1) (by decide) rfl ?_
      refine XW.iadd 31 dX0_leastOf_30 rfl ?_
      refine XW.istore 33 (L' := [some (.ref 50), some (.ref 6), some (.int xl), some (.float v), some (.int (nI i)), some (.int ((nI i) + 1)), none]) dX0_leastOf_31 (by decide) rfl rfl rfl ?_
      refine XW.eqs (L' := [some (.ref 50), some (.ref 6), some (.int xl), some (.float v), some (.int (nI i)), some (.int (nI (i + 1))), none]) (by rw [nI_1]) rfl rfl ?_
      exact l_leastOf6_i hxl l8 c20 hf hdi hG ok (by omega) (fun v hv => ih (i + 1) v (by omega) (by omega) hv) (l + 1) (i + 1) v (by omega) (by omega) ⟨by omega, g2.1, fun a b p1 p2 p3 => g2.2 a b p1 p2 (by omega)⟩
set_option maxHeartbeats 4000000 in
set_option maxRecDepth 100000 in
theorem c_leastOf6 {Z : xZ} {c l : Nat} {xl : Int32} (hxl : xl = nI l) (l8 : l ≤ 8) (c20 : c ≤ 20) (hf : rowOK (Z.2.1 6) l c) (hdi : rowDI (Z.2.1 6) l) (hG : gapOK (Z.2.2.1 51) (Z.2.1 4) (Z.2.1 2) c) (ok : okS (Z.2.1 2) (Z.2.1 3) (Z.2.1 4) (Z.2.1 5)) : XC mX0_leastOf 1 0 0 [.ref 50, .ref 6, .int xl] (HP Z) (fun r h' => (∃ v, r = some (.float v) ∧ LEA (apG (Z.2.1 4) (Z.2.1 2)) (rv (Z.2.1 6)) l v) ∧ h' = HP Z) := by
  show XW mX0_leastOf 1 0 0 0 [some (.ref 50), some (.ref 6), some (.int xl), none, none, none, none] [] (HP Z) _
  refine XW.iload_n 1 dX0_leastOf_0 rfl rfl ?_
  refine XW.iconst 2 dX0_leastOf_1 (v := 2) (by decide) rfl ?_
  refine XW.icmp_geN 7 5 l 2 dX0_leastOf_2 (by decide) rfl hxl rfl (by omega) (by omega) (fun c_2 => ?_) (fun c_2 => ?_)
  · have b1 := (hf 0 (by omega)).2
    have b2 := (hf 1 (by omega)).2
    have b3 := hdi 0 1 (by omega) (by omega)
    have b4 := hG _ _ b1 b2 b3
    refine XW.aload_n 8 dX0_leastOf_7 rfl rfl ?_
    refine XW.aload_n 9 dX0_leastOf_8 rfl rfl ?_
    refine XW.iconst 10 dX0_leastOf_9 (v := 0) (by decide) rfl ?_
    refine XW.iald 11 0 dX0_leastOf_10 rfl rfl (by omega) (by decide) rfl ?_
    refine XW.aload_n 12 dX0_leastOf_11 rfl rfl ?_
    refine XW.iconst 13 dX0_leastOf_12 (v := 1) (by decide) rfl ?_
    refine XW.iald 14 1 dX0_leastOf_13 rfl rfl (by omega) (by decide) rfl ?_
    refine XW.callV 17 (vs := [.int (Z.2.1 6 0), .int (Z.2.1 6 1)]) (rest := []) (mcr := 0) (msr := 0) c0_29 dX0_leastOf_14 rfl rfl (by decide) (Nat.le_of_ble_eq_true rfl) rfl rfl (Nat.le_of_ble_eq_true rfl) rfl (c_gap (i := rv (Z.2.1 6) 0) (j := rv (Z.2.1 6) 1) (hf _ (by omega)).1 (hf _ (by omega)).1 (by omega) (by omega)) (fun r h1 hq => ?_)
    obtain ⟨rfl, rfl⟩ := hq
    refine XW.fstore_n 18 (L' := [some (.ref 50), some (.ref 6), some (.int xl), some (.float (Z.2.2.1 51 (20 * (rv (Z.2.1 6) 0) + (rv (Z.2.1 6) 1)))), none, none, none]) dX0_leastOf_17 (by decide) rfl rfl rfl ?_
    refine XW.iconst 19 dX0_leastOf_18 (v := 0) (by decide) rfl ?_
    refine XW.istore 21 (L' := [some (.ref 50), some (.ref 6), some (.int xl), some (.float (Z.2.2.1 51 (20 * (rv (Z.2.1 6) 0) + (rv (Z.2.1 6) 1)))), some (.int 0), none, none]) dX0_leastOf_19 (by decide) rfl rfl rfl ?_
    exact l_leastOf6_o hxl l8 c20 hf hdi hG ok (by omega) (l + 1) 0 _ (by omega) (by omega) ⟨⟨0, 1, by omega, by omega, b4⟩, fun a b p1 p2 p3 => absurd p3 (by omega)⟩
  · refine XW.fconst0 6 dX0_leastOf_5 rfl ?_
    exact XW.fret dX0_leastOf_6 trivial (⟨⟨_, rfl, fun _ => rfl, fun q => absurd q (by omega)⟩, rfl⟩)
set_option maxHeartbeats 4000000 in
set_option maxRecDepth 100000 in
theorem l_leastOf52_i {Z : xZ} {c l : Nat} {xl : Int32} (hxl : xl = nI l) (l8 : l ≤ 4) (c20 : c ≤ 20) (hf : rowOK (Z.2.1 52) l c) (hdi : rowDI (Z.2.1 52) l) (hG : gapOK (Z.2.2.1 51) (Z.2.1 4) (Z.2.1 2) c) (ok : okS (Z.2.1 2) (Z.2.1 3) (Z.2.1 4) (Z.2.1 5)) {i : Nat} (il : i < l) (KK : ∀ v, ((∃ a b, a < b ∧ b < l ∧ v = (apG (Z.2.1 4) (Z.2.1 2)) (rv (Z.2.1 52) a) (rv (Z.2.1 52) b)) ∧ ∀ a b, a < b → b < l → a < i + 1 → v ≤ (apG (Z.2.1 4) (Z.2.1 2)) (rv (Z.2.1 52) a) (rv (Z.2.1 52) b)) → XW mX0_leastOf 1 0 0 21 [some (.ref 50), some (.ref 52), some (.int xl), some (.float v), some (.int (nI (i + 1))), none, none] [] (HP Z) (fun r h' => (∃ v, r = some (.float v) ∧ LEA (apG (Z.2.1 4) (Z.2.1 2)) (rv (Z.2.1 52)) l v) ∧ h' = HP Z)) : ∀ (n : Nat) (j : Nat) (v : UInt32), j ≤ l → l < j + n → i < j ∧ ((∃ a b, a < b ∧ b < l ∧ v = (apG (Z.2.1 4) (Z.2.1 2)) (rv (Z.2.1 52) a) (rv (Z.2.1 52) b)) ∧ ∀ a b, a < b → b < l → (a < i ∨ (a = i ∧ b < j)) → v ≤ (apG (Z.2.1 4) (Z.2.1 2)) (rv (Z.2.1 52) a) (rv (Z.2.1 52) b)) → XW mX0_leastOf 1 0 0 33 [some (.ref 50), some (.ref 52), some (.int xl), some (.float v), some (.int (nI i)), some (.int (nI j)), none] [] (HP Z) (fun r h' => (∃ v, r = some (.float v) ∧ LEA (apG (Z.2.1 4) (Z.2.1 2)) (rv (Z.2.1 52)) l v) ∧ h' = HP Z) := by
  intro n
  induction n with
  | zero => intro j v g0 g1 g2; omega
  | succ n ih =>
    intro j v g0 g1 g2
    obtain ⟨gij, g2⟩ := g2
    refine XW.iload 35 dX0_leastOf_33 rfl rfl ?_
    refine XW.iload_n 36 dX0_leastOf_35 rfl rfl ?_
    refine XW.icmp_geN 73 39 j l dX0_leastOf_36 (by decide) rfl rfl hxl (by omega) (by omega) (fun c_36 => ?_) (fun c_36 => ?_)
    · refine XW.iinc 76 (y := nI (i + 1)) (L' := [some (.ref 50), some (.ref 52), some (.int xl), some (.float v), some (.int (nI (i + 1))), some (.int (nI j)), none]) dX0_leastOf_73 rfl (na rfl rfl) (by decide) rfl rfl rfl ?_
      refine XW.goto 21 dX0_leastOf_76 (by decide) ?_
      refine XW.weak [true, true, true, true, true, false, true] (L' := [some (.ref 50), some (.ref 52), some (.int xl), some (.float v), some (.int (nI (i + 1))), none, none]) rfl ?_
      exact KK v ⟨g2.1, fun a b p1 p2 p3 => g2.2 a b p1 p2 (by omega)⟩
    · have b1 := (hf i (by omega)).2
      have b2 := (hf j (by omega)).2
      have b3 := hdi i j (by omega) (by omega)
      have b4 := hG _ _ b1 b2 b3
      have b5 : NF (Z.2.2.1 51 (20 * rv (Z.2.1 52) i + rv (Z.2.1 52) j)) := by rw [b4]; exact apG_NF ok (by omega) (by omega)
      have b6 : NF v := by obtain ⟨⟨a, b, p1, p2, p3⟩, -⟩ := g2; rw [p3]; exact apG_NF ok (by have := (hf a (by omega)).2; omega) (by have := (hf b (by omega)).2; omega)
      refine XW.aload_n 40 dX0_leastOf_39 rfl rfl ?_
      refine XW.aload_n 41 dX0_leastOf_40 rfl rfl ?_
      refine XW.iload 43 dX0_leastOf_41 rfl rfl ?_
      refine XW.iald 44 i dX0_leastOf_43 rfl rfl (by omega) (by decide) rfl ?_
      refine XW.aload_n 45 dX0_leastOf_44 rfl rfl ?_
      refine XW.iload 47 dX0_leastOf_45 rfl rfl ?_
      refine XW.iald 48 j dX0_leastOf_47 rfl rfl (by omega) (by decide) rfl ?_
      refine XW.callV 51 (vs := [.int (Z.2.1 52 i), .int (Z.2.1 52 j)]) (rest := []) (mcr := 0) (msr := 0) c0_29 dX0_leastOf_48 rfl rfl (by decide) (Nat.le_of_ble_eq_true rfl) rfl rfl (Nat.le_of_ble_eq_true rfl) rfl (c_gap (i := rv (Z.2.1 52) i) (j := rv (Z.2.1 52) j) (hf _ (by omega)).1 (hf _ (by omega)).1 (by omega) (by omega)) (fun r h1 hq => ?_)
      obtain ⟨rfl, rfl⟩ := hq
      refine XW.fstore 53 (L' := [some (.ref 50), some (.ref 52), some (.int xl), some (.float v), some (.int (nI i)), some (.int (nI j)), some (.float (Z.2.2.1 51 (20 * (rv (Z.2.1 52) i) + (rv (Z.2.1 52) j))))]) dX0_leastOf_51 (by decide) rfl rfl rfl ?_
      refine XW.fload 55 dX0_leastOf_53 rfl rfl ?_
      refine XW.fload_n 56 dX0_leastOf_55 rfl rfl ?_
      refine XW.fcmpU 57 dX0_leastOf_56 b5 b6 rfl ?_
      refine XW.if_geU 65 60 dX0_leastOf_57 (by decide) rfl (fun c_57 => ?_) (fun c_57 => ?_)
      · refine XW.fload_n 66 dX0_leastOf_65 rfl rfl ?_
        refine XW.fstore_n 67 (L' := [some (.ref 50), some (.ref 52), some (.int xl), some (.float v), some (.int (nI i)), some (.int (nI j)), some (.float (Z.2.2.1 51 (20 * (rv (Z.2.1 52) i) + (rv (Z.2.1 52) j))))]) dX0_leastOf_66 (by decide) rfl rfl rfl ?_
        refine XW.iinc 70 (y := nI (j + 1)) (L' := [some (.ref 50), some (.ref 52), some (.int xl), some (.float v), some (.int (nI i)), some (.int (nI (j + 1))), some (.float (Z.2.2.1 51 (20 * (rv (Z.2.1 52) i) + (rv (Z.2.1 52) j))))]) dX0_leastOf_67 rfl (na rfl rfl) (by decide) rfl rfl rfl ?_
        refine XW.goto 33 dX0_leastOf_70 (by decide) ?_
        refine XW.weak [true, true, true, true, true, true, false] (L' := [some (.ref 50), some (.ref 52), some (.int xl), some (.float v), some (.int (nI i)), some (.int (nI (j + 1))), none]) rfl ?_
        exact ih (j + 1) _ (by omega) (by omega) ⟨by omega, g2.1, fun a b p1 p2 p3 => by
              by_cases e : a = i ∧ b = j
              · obtain ⟨rfl, rfl⟩ := e; rw [← b4]; exact UInt32.not_lt.mp c_57
              · exact g2.2 a b p1 p2 (by omega)⟩
      · refine XW.fload 62 dX0_leastOf_60 rfl rfl ?_
        refine XW.goto 66 dX0_leastOf_62 (by decide) ?_
        refine XW.fstore_n 67 (L' := [some (.ref 50), some (.ref 52), some (.int xl), some (.float (Z.2.2.1 51 (20 * (rv (Z.2.1 52) i) + (rv (Z.2.1 52) j)))), some (.int (nI i)), some (.int (nI j)), some (.float (Z.2.2.1 51 (20 * (rv (Z.2.1 52) i) + (rv (Z.2.1 52) j))))]) dX0_leastOf_66 (by decide) rfl rfl rfl ?_
        refine XW.iinc 70 (y := nI (j + 1)) (L' := [some (.ref 50), some (.ref 52), some (.int xl), some (.float (Z.2.2.1 51 (20 * (rv (Z.2.1 52) i) + (rv (Z.2.1 52) j)))), some (.int (nI i)), some (.int (nI (j + 1))), some (.float (Z.2.2.1 51 (20 * (rv (Z.2.1 52) i) + (rv (Z.2.1 52) j))))]) dX0_leastOf_67 rfl (na rfl rfl) (by decide) rfl rfl rfl ?_
        refine XW.goto 33 dX0_leastOf_70 (by decide) ?_
        refine XW.weak [true, true, true, true, true, true, false] (L' := [some (.ref 50), some (.ref 52), some (.int xl), some (.float (Z.2.2.1 51 (20 * (rv (Z.2.1 52) i) + (rv (Z.2.1 52) j)))), some (.int (nI i)), some (.int (nI (j + 1))), none]) rfl ?_
        exact ih (j + 1) _ (by omega) (by omega) ⟨by omega, ⟨i, j, by omega, by omega, b4⟩, fun a b p1 p2 p3 => by
              by_cases e : a = i ∧ b = j
              · obtain ⟨rfl, rfl⟩ := e; rw [b4]; exact UInt32.le_refl _
              · exact UInt32.le_of_lt (UInt32.lt_of_lt_of_le c_57 (g2.2 a b p1 p2 (by omega)))⟩
set_option maxHeartbeats 4000000 in
set_option maxRecDepth 100000 in
theorem l_leastOf52_o {Z : xZ} {c l : Nat} {xl : Int32} (hxl : xl = nI l) (l8 : l ≤ 4) (c20 : c ≤ 20) (hf : rowOK (Z.2.1 52) l c) (hdi : rowDI (Z.2.1 52) l) (hG : gapOK (Z.2.2.1 51) (Z.2.1 4) (Z.2.1 2) c) (ok : okS (Z.2.1 2) (Z.2.1 3) (Z.2.1 4) (Z.2.1 5)) (l2 : 2 ≤ l) : ∀ (n : Nat) (i : Nat) (v : UInt32), i ≤ l → l < i + n → ((∃ a b, a < b ∧ b < l ∧ v = (apG (Z.2.1 4) (Z.2.1 2)) (rv (Z.2.1 52) a) (rv (Z.2.1 52) b)) ∧ ∀ a b, a < b → b < l → a < i → v ≤ (apG (Z.2.1 4) (Z.2.1 2)) (rv (Z.2.1 52) a) (rv (Z.2.1 52) b)) → XW mX0_leastOf 1 0 0 21 [some (.ref 50), some (.ref 52), some (.int xl), some (.float v), some (.int (nI i)), none, none] [] (HP Z) (fun r h' => (∃ v, r = some (.float v) ∧ LEA (apG (Z.2.1 4) (Z.2.1 2)) (rv (Z.2.1 52)) l v) ∧ h' = HP Z) := by
  intro n
  induction n with
  | zero => intro i v g0 g1 g2; omega
  | succ n ih =>
    intro i v g0 g1 g2
    refine XW.iload 23 dX0_leastOf_21 rfl rfl ?_
    refine XW.iload_n 24 dX0_leastOf_23 rfl rfl ?_
    refine XW.icmp_geN 79 27 i l dX0_leastOf_24 (by decide) rfl rfl hxl (by omega) (by omega) (fun c_24 => ?_) (fun c_24 => ?_)
    · refine XW.fload_n 80 dX0_leastOf_79 rfl rfl ?_
      exact XW.fret dX0_leastOf_80 trivial (⟨⟨v, rfl, fun q => absurd q (by omega), fun _ => ⟨g2.1, fun a b p1 p2 => g2.2 a b p1 p2 (by omega)⟩⟩, rfl⟩)
    · refine XW.iload 29 dX0_leastOf_27 rfl rfl ?_
      refine XW.iconst 30 dX0_leastOf_29 (v := 1) (by decide) rfl ?_
      refine XW.iadd 31 dX0_leastOf_30 rfl ?_
      refine XW.istore 33 (L' := [some (.ref 50), some (.ref 52), some (.int xl), some (.float v), some (.int (nI i)), some (.int ((nI i) + 1)), none]) dX0_leastOf_31 (by decide) rfl rfl rfl ?_
      refine XW.eqs (L' := [some (.ref 50), some (.ref 52), some (.int xl), some (.float v), some (.int (nI i)), some (.int (nI (i + 1))), none]) (by rw [nI_1]) rfl rfl ?_
      exact l_leastOf52_i hxl l8 c20 hf hdi hG ok (by omega) (fun v hv => ih (i + 1) v (by omega) (by omega) hv) (l + 1) (i + 1) v (by omega) (by omega) ⟨by omega, g2.1, fun a b p1 p2 p3 => g2.2 a b p1 p2 (by omega)⟩
set_option maxHeartbeats 4000000 in
set_option maxRecDepth 100000 in
theorem c_leastOf52 {Z : xZ} {c l : Nat} {xl : Int32} (hxl : xl = nI l) (l8 : l ≤ 4) (c20 : c ≤ 20) (hf : rowOK (Z.2.1 52) l c) (hdi : rowDI (Z.2.1 52) l) (hG : gapOK (Z.2.2.1 51) (Z.2.1 4) (Z.2.1 2) c) (ok : okS (Z.2.1 2) (Z.2.1 3) (Z.2.1 4) (Z.2.1 5)) : XC mX0_leastOf 1 0 0 [.ref 50, .ref 52, .int xl] (HP Z) (fun r h' => (∃ v, r = some (.float v) ∧ LEA (apG (Z.2.1 4) (Z.2.1 2)) (rv (Z.2.1 52)) l v) ∧ h' = HP Z) := by
  show XW mX0_leastOf 1 0 0 0 [some (.ref 50), some (.ref 52), some (.int xl), none, none, none, none] [] (HP Z) _
  refine XW.iload_n 1 dX0_leastOf_0 rfl rfl ?_
  refine XW.iconst 2 dX0_leastOf_1 (v := 2) (by decide) rfl ?_
  refine XW.icmp_geN 7 5 l 2 dX0_leastOf_2 (by decide) rfl hxl rfl (by omega) (by omega) (fun c_2 => ?_) (fun c_2 => ?_)
  · have b1 := (hf 0 (by omega)).2
    have b2 := (hf 1 (by omega)).2
    have b3 := hdi 0 1 (by omega) (by omega)
    have b4 := hG _ _ b1 b2 b3
    refine XW.aload_n 8 dX0_leastOf_7 rfl rfl ?_
    refine XW.aload_n 9 dX0_leastOf_8 rfl rfl ?_
    refine XW.iconst 10 dX0_leastOf_9 (v := 0) (by decide) rfl ?_
    refine XW.iald 11 0 dX0_leastOf_10 rfl rfl (by omega) (by decide) rfl ?_
    refine XW.aload_n 12 dX0_leastOf_11 rfl rfl ?_
    refine XW.iconst 13 dX0_leastOf_12 (v := 1) (by decide) rfl ?_
    refine XW.iald 14 1 dX0_leastOf_13 rfl rfl (by omega) (by decide) rfl ?_
    refine XW.callV 17 (vs := [.int (Z.2.1 52 0), .int (Z.2.1 52 1)]) (rest := []) (mcr := 0) (msr := 0) c0_29 dX0_leastOf_14 rfl rfl (by decide) (Nat.le_of_ble_eq_true rfl) rfl rfl (Nat.le_of_ble_eq_true rfl) rfl (c_gap (i := rv (Z.2.1 52) 0) (j := rv (Z.2.1 52) 1) (hf _ (by omega)).1 (hf _ (by omega)).1 (by omega) (by omega)) (fun r h1 hq => ?_)
    obtain ⟨rfl, rfl⟩ := hq
    refine XW.fstore_n 18 (L' := [some (.ref 50), some (.ref 52), some (.int xl), some (.float (Z.2.2.1 51 (20 * (rv (Z.2.1 52) 0) + (rv (Z.2.1 52) 1)))), none, none, none]) dX0_leastOf_17 (by decide) rfl rfl rfl ?_
    refine XW.iconst 19 dX0_leastOf_18 (v := 0) (by decide) rfl ?_
    refine XW.istore 21 (L' := [some (.ref 50), some (.ref 52), some (.int xl), some (.float (Z.2.2.1 51 (20 * (rv (Z.2.1 52) 0) + (rv (Z.2.1 52) 1)))), some (.int 0), none, none]) dX0_leastOf_19 (by decide) rfl rfl rfl ?_
    exact l_leastOf52_o hxl l8 c20 hf hdi hG ok (by omega) (l + 1) 0 _ (by omega) (by omega) ⟨⟨0, 1, by omega, by omega, b4⟩, fun a b p1 p2 p3 => absurd p3 (by omega)⟩
  · refine XW.fconst0 6 dX0_leastOf_5 rfl ?_
    exact XW.fret dX0_leastOf_6 trivial (⟨⟨_, rfl, fun _ => rfl, fun q => absurd q (by omega)⟩, rfl⟩)
