/-! The reference: an order, the whole text -/
theorem oC_99t {b : Nat → Int32} {len q k : Nat} {f1 f2 : Nat → Int32} (h : bh b len k = 99) (h2 : (sxF b len (k + 1)).1 = true) : oC b len q k f1 f2 = ((enF b len (sxF b len (k + 1)).2.1).1, (enF b len (sxF b len (k + 1)).2.1).2, upd f1 q (sxF b len (k + 1)).2.2, f2) := by unfold oC; rw [if_pos h, if_pos h2]
theorem oC_99f {b : Nat → Int32} {len q k : Nat} {f1 f2 : Nat → Int32} (h : bh b len k = 99) (h2 : (sxF b len (k + 1)).1 = false) : oC b len q k f1 f2 = (false, (sxF b len (k + 1)).2.1, f1, f2) := by unfold oC; rw [if_pos h, if_neg (by rw [h2]; decide)]
theorem oC_2t {b : Nat → Int32} {len q k : Nat} {f1 f2 : Nat → Int32} (h : bh b len k = 102 ∨ bh b len k = 108) (h2 : ((nuF b len (k + 1)).1 && (nuF b len (nuF b len (k + 1)).2.1).1) = true) : oC b len q k f1 f2 = ((enF b len (nuF b len (nuF b len (k + 1)).2.1).2.1).1, (enF b len (nuF b len (nuF b len (k + 1)).2.1).2.1).2, upd f1 q (nuF b len (k + 1)).2.2, upd f2 q (nuF b len (nuF b len (k + 1)).2.1).2.2) := by
  rw [Bool.and_eq_true] at h2
  unfold oC; rw [if_neg (by rcases h with h | h <;> rw [h] <;> decide), if_pos h, if_pos h2.1, if_pos h2.2]
theorem oC_2f {b : Nat → Int32} {len q k : Nat} {f1 f2 : Nat → Int32} (h : bh b len k = 102 ∨ bh b len k = 108) (h2 : ((nuF b len (k + 1)).1 && (nuF b len (nuF b len (k + 1)).2.1).1) = false) : (oC b len q k f1 f2).1 = false ∧ (oC b len q k f1 f2).2.1 = if (nuF b len (k + 1)).1 = true then (nuF b len (nuF b len (k + 1)).2.1).2.1 else (nuF b len (k + 1)).2.1 := by
  unfold oC; rw [if_neg (by rcases h with h | h <;> rw [h] <;> decide), if_pos h]
  cases e : (nuF b len (k + 1)).1 with
  | true =>
    rw [e, Bool.true_and] at h2
    rw [if_pos rfl, if_neg (by rw [h2]; decide), if_pos rfl]; exact ⟨rfl, rfl⟩
  | false => rw [if_neg (by decide), if_neg (by decide)]; exact ⟨rfl, rfl⟩
theorem oC_112t {b : Nat → Int32} {len q k : Nat} {f1 f2 : Nat → Int32} (h : bh b len k = 112) (h2 : (nuF b len (k + 1)).1 = true) : oC b len q k f1 f2 = ((enF b len (nuF b len (k + 1)).2.1).1, (enF b len (nuF b len (k + 1)).2.1).2, upd f1 q (nuF b len (k + 1)).2.2, f2) := by
  unfold oC; rw [if_neg (by rw [h]; decide), if_neg (by rw [h]; decide), if_pos h, if_pos h2]
theorem oC_112f {b : Nat → Int32} {len q k : Nat} {f1 f2 : Nat → Int32} (h : bh b len k = 112) (h2 : (nuF b len (k + 1)).1 = false) : oC b len q k f1 f2 = (false, (nuF b len (k + 1)).2.1, upd f1 q (nuF b len (k + 1)).2.2, f2) := by
  unfold oC; rw [if_neg (by rw [h]; decide), if_neg (by rw [h]; decide), if_pos h, if_neg (by rw [h2]; decide)]
theorem oC_115 {b : Nat → Int32} {len q k : Nat} {f1 f2 : Nat → Int32} (h : bh b len k = 115) : oC b len q k f1 f2 = ((enF b len (k + 1)).1, (enF b len (k + 1)).2, f1, f2) := by
  unfold oC; rw [if_neg (by rw [h]; decide), if_neg (by rw [h]; decide), if_neg (by rw [h]; decide), if_pos h]
theorem oC_no {b : Nat → Int32} {len q k : Nat} {f1 f2 : Nat → Int32} (h1 : ¬ bh b len k = 99) (h2 : ¬ bh b len k = 102) (h3 : ¬ bh b len k = 108) (h4 : ¬ bh b len k = 112) (h5 : ¬ bh b len k = 115) : oC b len q k f1 f2 = (false, k, f1, f2) := by
  unfold oC; rw [if_neg h1, if_neg (by rintro (h | h); exact h2 h; exact h3 h), if_neg h4, if_neg h5]
theorem in1 {x a : Int32} : inF x a a = true ↔ x = a := by
  rw [inF_iff]; constructor
  · rintro ⟨h1, h2⟩; exact Int32.le_antisymm h2 h1
  · rintro rfl; exact ⟨Int32.le_refl _, Int32.le_refl _⟩
theorem enF_t {b : Nat → Int32} {len k : Nat} (h : inF (bh b len (skF b len k)) 59 59 = true) : enF b len k = (true, skF b len k + 1) := if_pos (in1.mp h)
theorem enF_f {b : Nat → Int32} {len k : Nat} (h : inF (bh b len (skF b len k)) 59 59 = false) : enF b len k = (false, skF b len k) := if_neg (fun q => by rw [in1.mpr q] at h; cases h)
/-- what reading may change -/
def MCH (Z V : xZ) : Prop := (∀ a j, a ≠ 53 ∨ (j ≠ 12 ∧ j ≠ 13 ∧ j ≠ 14) → V.1 a j = Z.1 a j) ∧ (∀ a, a ≠ 61 → a ≠ 62 → V.2.1 a = Z.2.1 a) ∧ V.2.2 = Z.2.2
theorem MCH.rfl' {Z : xZ} : MCH Z Z := ⟨fun _ _ _ => rfl, fun _ _ _ => rfl, rfl⟩
theorem MCH.i {Z V : xZ} (h : MCH Z V) {j : Nat} {v : Int32} (hj : j = 12 ∨ j = 13 ∨ j = 14) : MCH Z (sI V 53 j v) := ⟨fun a k hk => by rw [sI_2 _ _ (by omega)]; exact h.1 a k hk, h.2.1, h.2.2⟩
theorem MCH.a {Z V : xZ} (h : MCH Z V) {x : Nat} {f : Nat → Int32} (hx : x = 61 ∨ x = 62) : MCH Z (sA V x f) := ⟨h.1, fun a h1 h2 => by rw [sA_2 _ _ (by omega)]; exact h.2.1 a h1 h2, h.2.2⟩
theorem MCH.trans {Z V W : xZ} (h : MCH Z V) (h2 : MCH V W) : MCH Z W := ⟨fun a j hj => (h2.1 a j hj).trans (h.1 a j hj), fun a h3 h4 => (h2.2.1 a h3 h4).trans (h.2.1 a h3 h4), h2.2.2.trans h.2.2⟩
def NUM (c : Int32) (q : Nat) (nu f1 f2 : Nat → Int32) : Prop := ((c = 99 ∨ c = 102 ∨ c = 108 ∨ c = 112) → nu (2 * q) = f1 q) ∧ ((c = 102 ∨ c = 108) → nu (2 * q + 1) = f2 q)
set_option maxHeartbeats 400000 in
set_option maxRecDepth 100000 in
theorem k_tn_99 {Z : xZ} {len : Nat} (hb : Z.1 53 6 = nI len) (l120 : len ≤ 120) {k : Nat} (kl : k ≤ len) {q : Nat} (ho : Z.1 53 12 = nI q) (q60 : q < 60) : XC mX4_takesNumbers 4 0 0 [.ref 53, .int 99] (HP (sI Z 53 13 (nI k))) (fun r h' => r = some (.int (b2i (sxF (Z.2.1 58) len k).1)) ∧ ((sxF (Z.2.1 58) len k).1 = true → h' = HP (sI (sA Z 62 (upd (Z.2.1 62) (2 * q) (sxF (Z.2.1 58) len k).2.2)) 53 13 (nI (sxF (Z.2.1 58) len k).2.1))) ∧ ((sxF (Z.2.1 58) len k).1 = false → ∃ nu, h' = HP (sI (sI (sA Z 62 nu) 53 14 (nI (sxF (Z.2.1 58) len k).2.1)) 53 13 (nI (sxF (Z.2.1 58) len k).2.1)))) := by
  show XW mX4_takesNumbers 4 0 0 0 [some (.ref 53), some (.int 99), none] [] (HP (sI Z 53 13 (nI k))) _
  refine XW.iconst 1 dX4_takesNumbers_0 (v := 2) (by decide) rfl ?_
  refine XW.aload_n 2 dX4_takesNumbers_1 rfl rfl ?_
  refine XW.getf 5 (v := .int (Z.1 53 12)) f4_216 dX4_takesNumbers_2 rfl rfl rfl ?_
  refine XW.imul 6 dX4_takesNumbers_5 rfl ?_
  refine XW.istore_n 7 (L' := [some (.ref 53), some (.int 99), some (.int (2 * (Z.1 53 12)))]) dX4_takesNumbers_6 (by decide) rfl rfl rfl ?_
  refine XW.iload_n 8 dX4_takesNumbers_7 rfl rfl ?_
  refine XW.lookup 52 (off := 44) dX4_takesNumbers_8 (by decide) (by decide) (by decide) ?_
  refine XW.aload_n 53 dX4_takesNumbers_52 rfl rfl ?_
  refine XW.iload_n 54 dX4_takesNumbers_53 rfl rfl ?_
  refine XW.callV 57 (vs := [.int (2 * (Z.1 53 12))]) (rest := []) (mcr := 0) (msr := 0) c4_219 dX4_takesNumbers_54 rfl rfl (by decide) (Nat.le_of_ble_eq_true rfl) rfl rfl (Nat.le_of_ble_eq_true rfl) rfl (k_takesSix (Z := Z) (k := k) hb l120 (by omega) (a := 2 * q) (nm rfl ho) (by omega)) (fun r h1 hq => ?_)
  obtain ⟨rfl, ht, hf⟩ := hq
  refine XW.eqs (st' := [.int (b2i ((sxF (Z.2.1 58) len k).1))]) rfl rfl rfl ?_
  exact XW.iret dX4_takesNumbers_57 (xnar_b _) (⟨rfl, ht, hf⟩)
set_option maxHeartbeats 400000 in
set_option maxRecDepth 100000 in
theorem k_tn_112 {Z : xZ} {len : Nat} (hb : Z.1 53 6 = nI len) (l120 : len ≤ 120) {k : Nat} (kl : k ≤ len) {q : Nat} (ho : Z.1 53 12 = nI q) (q60 : q < 60) : XC mX4_takesNumbers 4 0 0 [.ref 53, .int 112] (HP (sI Z 53 13 (nI k))) (fun r h' => r = some (.int (b2i (nuF (Z.2.1 58) len k).1)) ∧ ((nuF (Z.2.1 58) len k).1 = true → h' = HP (sI (sA Z 62 (upd (Z.2.1 62) (2 * q) (nuF (Z.2.1 58) len k).2.2)) 53 13 (nI (nuF (Z.2.1 58) len k).2.1))) ∧ ((nuF (Z.2.1 58) len k).1 = false → ∃ nu, h' = HP (sI (sI (sA Z 62 nu) 53 14 (nI (nuF (Z.2.1 58) len k).2.1)) 53 13 (nI (nuF (Z.2.1 58) len k).2.1)))) := by
  show XW mX4_takesNumbers 4 0 0 0 [some (.ref 53), some (.int 112), none] [] (HP (sI Z 53 13 (nI k))) _
  refine XW.iconst 1 dX4_takesNumbers_0 (v := 2) (by decide) rfl ?_
  refine XW.aload_n 2 dX4_takesNumbers_1 rfl rfl ?_
  refine XW.getf 5 (v := .int (Z.1 53 12)) f4_216 dX4_takesNumbers_2 rfl rfl rfl ?_
  refine XW.imul 6 dX4_takesNumbers_5 rfl ?_
  refine XW.istore_n 7 (L' := [some (.ref 53), some (.int 112), some (.int (2 * (Z.1 53 12)))]) dX4_takesNumbers_6 (by decide) rfl rfl rfl ?_
  refine XW.iload_n 8 dX4_takesNumbers_7 rfl rfl ?_
  refine XW.lookup 58 (off := 50) dX4_takesNumbers_8 (by decide) (by decide) (by decide) ?_
  refine XW.aload_n 59 dX4_takesNumbers_58 rfl rfl ?_
  refine XW.iload_n 60 dX4_takesNumbers_59 rfl rfl ?_
  refine XW.callV 63 (vs := [.int (2 * (Z.1 53 12))]) (rest := []) (mcr := 0) (msr := 0) c4_222 dX4_takesNumbers_60 rfl rfl (by decide) (Nat.le_of_ble_eq_true rfl) rfl rfl (Nat.le_of_ble_eq_true rfl) rfl (k_takesNumber (Z := Z) (k := k) hb l120 (by omega) (a := 2 * q) (nm rfl ho) (by omega)) (fun r h1 hq => ?_)
  obtain ⟨rfl, ht, hf⟩ := hq
  refine XW.eqs (st' := [.int (b2i ((nuF (Z.2.1 58) len k).1))]) rfl rfl rfl ?_
  exact XW.iret dX4_takesNumbers_63 (xnar_b _) (⟨rfl, ht, hf⟩)
set_option maxHeartbeats 400000 in
set_option maxRecDepth 100000 in
theorem k_tn_102 {Z : xZ} {len : Nat} (hb : Z.1 53 6 = nI len) (l120 : len ≤ 120) {k : Nat} (kl : k ≤ len) {q : Nat} (ho : Z.1 53 12 = nI q) (q60 : q < 60) : XC mX4_takesNumbers 4 0 0 [.ref 53, .int 102] (HP (sI Z 53 13 (nI k))) (fun r h' => r = some (.int (b2i ((nuF (Z.2.1 58) len k).1 && (nuF (Z.2.1 58) len (nuF (Z.2.1 58) len k).2.1).1))) ∧ (((nuF (Z.2.1 58) len k).1 && (nuF (Z.2.1 58) len (nuF (Z.2.1 58) len k).2.1).1) = true → h' = HP (sI (sA Z 62 (upd (upd (Z.2.1 62) (2 * q) (nuF (Z.2.1 58) len k).2.2) (2 * q + 1) (nuF (Z.2.1 58) len (nuF (Z.2.1 58) len k).2.1).2.2)) 53 13 (nI (nuF (Z.2.1 58) len (nuF (Z.2.1 58) len k).2.1).2.1))) ∧ (((nuF (Z.2.1 58) len k).1 && (nuF (Z.2.1 58) len (nuF (Z.2.1 58) len k).2.1).1) = false → ∃ nu, h' = HP (sI (sI (sA Z 62 nu) 53 14 (nI (if (nuF (Z.2.1 58) len k).1 = true then (nuF (Z.2.1 58) len (nuF (Z.2.1 58) len k).2.1).2.1 else (nuF (Z.2.1 58) len k).2.1))) 53 13 (nI (if (nuF (Z.2.1 58) len k).1 = true then (nuF (Z.2.1 58) len (nuF (Z.2.1 58) len k).2.1).2.1 else (nuF (Z.2.1 58) len k).2.1))))) := by
  show XW mX4_takesNumbers 4 0 0 0 [some (.ref 53), some (.int 102), none] [] (HP (sI Z 53 13 (nI k))) _
  refine XW.iconst 1 dX4_takesNumbers_0 (v := 2) (by decide) rfl ?_
  refine XW.aload_n 2 dX4_takesNumbers_1 rfl rfl ?_
  refine XW.getf 5 (v := .int (Z.1 53 12)) f4_216 dX4_takesNumbers_2 rfl rfl rfl ?_
  refine XW.imul 6 dX4_takesNumbers_5 rfl ?_
  refine XW.istore_n 7 (L' := [some (.ref 53), some (.int 102), some (.int (2 * (Z.1 53 12)))]) dX4_takesNumbers_6 (by decide) rfl rfl rfl ?_
  refine XW.iload_n 8 dX4_takesNumbers_7 rfl rfl ?_
  refine XW.lookup 64 (off := 56) dX4_takesNumbers_8 (by decide) (by decide) (by decide) ?_
  refine XW.aload_n 65 dX4_takesNumbers_64 rfl rfl ?_
  refine XW.iload_n 66 dX4_takesNumbers_65 rfl rfl ?_
  refine XW.callV 69 (vs := [.int (2 * (Z.1 53 12))]) (rest := []) (mcr := 0) (msr := 0) c4_222 dX4_takesNumbers_66 rfl rfl (by decide) (Nat.le_of_ble_eq_true rfl) rfl rfl (Nat.le_of_ble_eq_true rfl) rfl (k_takesNumber (Z := Z) (k := k) hb l120 (by omega) (a := 2 * q) (nm rfl ho) (by omega)) (fun r h1 hq => ?_)
  obtain ⟨rfl, ht, hf⟩ := hq
  refine XW.eqs (st' := [.int (b2i ((nuF (Z.2.1 58) len k).1))]) rfl rfl rfl ?_
  refine XW.if_eqB 86 72 dX4_takesNumbers_69 (by decide) rfl (fun c_69 => ?_) (fun c_69 => ?_)
  · skip
    refine XW.iconst 87 dX4_takesNumbers_86 (v := 0) (by decide) rfl ?_
    exact XW.iret dX4_takesNumbers_87 rfl (⟨by rw [c_69]; rfl, fun q => absurd q (by rw [c_69, Bool.false_and]; decide), fun _ => by obtain ⟨nu, h⟩ := hf c_69; exact ⟨nu, by rw [h, c_69]; rfl⟩⟩)
  · obtain rfl := ht c_69
    have nl := nuF_le (b := (Z.2.1 58)) (len := len) (k := k) (by omega)
    refine XW.aload_n 73 dX4_takesNumbers_72 rfl rfl ?_
    refine XW.iload_n 74 dX4_takesNumbers_73 rfl rfl ?_
    refine XW.iconst 75 dX4_takesNumbers_74 (v := 1) (by decide) rfl ?_
    refine XW.iadd 76 dX4_takesNumbers_75 rfl ?_
    refine XW.callV 79 (vs := [.int ((2 * (Z.1 53 12)) + 1)]) (rest := []) (mcr := 0) (msr := 0) c4_222 dX4_takesNumbers_76 rfl rfl (by decide) (Nat.le_of_ble_eq_true rfl) rfl rfl (Nat.le_of_ble_eq_true rfl) rfl (k_takesNumber (Z := sA Z 62 (upd (Z.2.1 62) (2 * q) (nuF (Z.2.1 58) len k).2.2)) (k := (nuF (Z.2.1 58) len k).2.1) hb l120 (by omega) (a := (2 * q) + 1) (na (nm rfl ho) rfl) (by omega)) (fun r h1 hq => ?_)
    obtain ⟨rfl, ht2, hf2⟩ := hq
    refine XW.eqs (st' := [.int (b2i ((nuF (Z.2.1 58) len (nuF (Z.2.1 58) len k).2.1).1))]) rfl rfl rfl ?_
    refine XW.if_eqB 86 82 dX4_takesNumbers_79 (by decide) rfl (fun c_79 => ?_) (fun c_79 => ?_)
    · skip
      refine XW.iconst 87 dX4_takesNumbers_86 (v := 0) (by decide) rfl ?_
      exact XW.iret dX4_takesNumbers_87 rfl (⟨by rw [c_69, c_79]; rfl, fun q => absurd q (by rw [c_69, c_79]; decide), fun _ => by obtain ⟨nu, h⟩ := hf2 c_79; exact ⟨nu, by rw [h, c_69, sA_same]; rfl⟩⟩)
    · skip
      refine XW.iconst 83 dX4_takesNumbers_82 (v := 1) (by decide) rfl ?_
      refine XW.goto 87 dX4_takesNumbers_83 (by decide) ?_
      exact XW.iret dX4_takesNumbers_87 rfl (⟨by rw [c_69, c_79]; rfl, fun _ => by rw [ht2 c_79]; exact congrArg HP (congrArg (fun z => sI z 53 13 _) (sA_same _ _ _ _)), fun q => absurd q (by rw [c_69, c_79]; decide)⟩)
set_option maxHeartbeats 400000 in
set_option maxRecDepth 100000 in
theorem k_tn_108 {Z : xZ} {len : Nat} (hb : Z.1 53 6 = nI len) (l120 : len ≤ 120) {k : Nat} (kl : k ≤ len) {q : Nat} (ho : Z.1 53 12 = nI q) (q60 : q < 60) : XC mX4_takesNumbers 4 0 0 [.ref 53, .int 108] (HP (sI Z 53 13 (nI k))) (fun r h' => r = some (.int (b2i ((nuF (Z.2.1 58) len k).1 && (nuF (Z.2.1 58) len (nuF (Z.2.1 58) len k).2.1).1))) ∧ (((nuF (Z.2.1 58) len k).1 && (nuF (Z.2.1 58) len (nuF (Z.2.1 58) len k).2.1).1) = true → h' = HP (sI (sA Z 62 (upd (upd (Z.2.1 62) (2 * q) (nuF (Z.2.1 58) len k).2.2) (2 * q + 1) (nuF (Z.2.1 58) len (nuF (Z.2.1 58) len k).2.1).2.2)) 53 13 (nI (nuF (Z.2.1 58) len (nuF (Z.2.1 58) len k).2.1).2.1))) ∧ (((nuF (Z.2.1 58) len k).1 && (nuF (Z.2.1 58) len (nuF (Z.2.1 58) len k).2.1).1) = false → ∃ nu, h' = HP (sI (sI (sA Z 62 nu) 53 14 (nI (if (nuF (Z.2.1 58) len k).1 = true then (nuF (Z.2.1 58) len (nuF (Z.2.1 58) len k).2.1).2.1 else (nuF (Z.2.1 58) len k).2.1))) 53 13 (nI (if (nuF (Z.2.1 58) len k).1 = true then (nuF (Z.2.1 58) len (nuF (Z.2.1 58) len k).2.1).2.1 else (nuF (Z.2.1 58) len k).2.1))))) := by
  show XW mX4_takesNumbers 4 0 0 0 [some (.ref 53), some (.int 108), none] [] (HP (sI Z 53 13 (nI k))) _
  refine XW.iconst 1 dX4_takesNumbers_0 (v := 2) (by decide) rfl ?_
  refine XW.aload_n 2 dX4_takesNumbers_1 rfl rfl ?_
  refine XW.getf 5 (v := .int (Z.1 53 12)) f4_216 dX4_takesNumbers_2 rfl rfl rfl ?_
  refine XW.imul 6 dX4_takesNumbers_5 rfl ?_
  refine XW.istore_n 7 (L' := [some (.ref 53), some (.int 108), some (.int (2 * (Z.1 53 12)))]) dX4_takesNumbers_6 (by decide) rfl rfl rfl ?_
  refine XW.iload_n 8 dX4_takesNumbers_7 rfl rfl ?_
  refine XW.lookup 64 (off := 56) dX4_takesNumbers_8 (by decide) (by decide) (by decide) ?_
  refine XW.aload_n 65 dX4_takesNumbers_64 rfl rfl ?_
  refine XW.iload_n 66 dX4_takesNumbers_65 rfl rfl ?_
  refine XW.callV 69 (vs := [.int (2 * (Z.1 53 12))]) (rest := []) (mcr := 0) (msr := 0) c4_222 dX4_takesNumbers_66 rfl rfl (by decide) (Nat.le_of_ble_eq_true rfl) rfl rfl (Nat.le_of_ble_eq_true rfl) rfl (k_takesNumber (Z := Z) (k := k) hb l120 (by omega) (a := 2 * q) (nm rfl ho) (by omega)) (fun r h1 hq => ?_)
  obtain ⟨rfl, ht, hf⟩ := hq
  refine XW.eqs (st' := [.int (b2i ((nuF (Z.2.1 58) len k).1))]) rfl rfl rfl ?_
  refine XW.if_eqB 86 72 dX4_takesNumbers_69 (by decide) rfl (fun c_69 => ?_) (fun c_69 => ?_)
  · skip
    refine XW.iconst 87 dX4_takesNumbers_86 (v := 0) (by decide) rfl ?_
    exact XW.iret dX4_takesNumbers_87 rfl (⟨by rw [c_69]; rfl, fun q => absurd q (by rw [c_69, Bool.false_and]; decide), fun _ => by obtain ⟨nu, h⟩ := hf c_69; exact ⟨nu, by rw [h, c_69]; rfl⟩⟩)
  · obtain rfl := ht c_69
    have nl := nuF_le (b := (Z.2.1 58)) (len := len) (k := k) (by omega)
    refine XW.aload_n 73 dX4_takesNumbers_72 rfl rfl ?_
    refine XW.iload_n 74 dX4_takesNumbers_73 rfl rfl ?_
    refine XW.iconst 75 dX4_takesNumbers_74 (v := 1) (by decide) rfl ?_
    refine XW.iadd 76 dX4_takesNumbers_75 rfl ?_
    refine XW.callV 79 (vs := [.int ((2 * (Z.1 53 12)) + 1)]) (rest := []) (mcr := 0) (msr := 0) c4_222 dX4_takesNumbers_76 rfl rfl (by decide) (Nat.le_of_ble_eq_true rfl) rfl rfl (Nat.le_of_ble_eq_true rfl) rfl (k_takesNumber (Z := sA Z 62 (upd (Z.2.1 62) (2 * q) (nuF (Z.2.1 58) len k).2.2)) (k := (nuF (Z.2.1 58) len k).2.1) hb l120 (by omega) (a := (2 * q) + 1) (na (nm rfl ho) rfl) (by omega)) (fun r h1 hq => ?_)
    obtain ⟨rfl, ht2, hf2⟩ := hq
    refine XW.eqs (st' := [.int (b2i ((nuF (Z.2.1 58) len (nuF (Z.2.1 58) len k).2.1).1))]) rfl rfl rfl ?_
    refine XW.if_eqB 86 82 dX4_takesNumbers_79 (by decide) rfl (fun c_79 => ?_) (fun c_79 => ?_)
    · skip
      refine XW.iconst 87 dX4_takesNumbers_86 (v := 0) (by decide) rfl ?_
      exact XW.iret dX4_takesNumbers_87 rfl (⟨by rw [c_69, c_79]; rfl, fun q => absurd q (by rw [c_69, c_79]; decide), fun _ => by obtain ⟨nu, h⟩ := hf2 c_79; exact ⟨nu, by rw [h, c_69, sA_same]; rfl⟩⟩)
    · skip
      refine XW.iconst 83 dX4_takesNumbers_82 (v := 1) (by decide) rfl ?_
      refine XW.goto 87 dX4_takesNumbers_83 (by decide) ?_
      exact XW.iret dX4_takesNumbers_87 rfl (⟨by rw [c_69, c_79]; rfl, fun _ => by rw [ht2 c_79]; exact congrArg HP (congrArg (fun z => sI z 53 13 _) (sA_same _ _ _ _)), fun q => absurd q (by rw [c_69, c_79]; decide)⟩)
set_option maxHeartbeats 400000 in
set_option maxRecDepth 100000 in
theorem k_tn_115 {Z : xZ} {len : Nat} (hb : Z.1 53 6 = nI len) (l120 : len ≤ 120) {k : Nat} (kl : k ≤ len) {q : Nat} (ho : Z.1 53 12 = nI q) (q60 : q < 60) : XC mX4_takesNumbers 4 0 0 [.ref 53, .int 115] (HP (sI Z 53 13 (nI k))) (fun r h' => r = some (.int 1) ∧ h' = HP (sI Z 53 13 (nI k))) := by
  show XW mX4_takesNumbers 4 0 0 0 [some (.ref 53), some (.int 115), none] [] (HP (sI Z 53 13 (nI k))) _
  refine XW.iconst 1 dX4_takesNumbers_0 (v := 2) (by decide) rfl ?_
  refine XW.aload_n 2 dX4_takesNumbers_1 rfl rfl ?_
  refine XW.getf 5 (v := .int (Z.1 53 12)) f4_216 dX4_takesNumbers_2 rfl rfl rfl ?_
  refine XW.imul 6 dX4_takesNumbers_5 rfl ?_
  refine XW.istore_n 7 (L' := [some (.ref 53), some (.int 115), some (.int (2 * (Z.1 53 12)))]) dX4_takesNumbers_6 (by decide) rfl rfl rfl ?_
  refine XW.iload_n 8 dX4_takesNumbers_7 rfl rfl ?_
  refine XW.lookup 88 (off := 80) dX4_takesNumbers_8 (by decide) (by decide) (by decide) ?_
  refine XW.iconst 89 dX4_takesNumbers_88 (v := 1) (by decide) rfl ?_
  exact XW.iret dX4_takesNumbers_89 rfl (⟨rfl, rfl⟩)
theorem updq_a {nu f : Nat → Int32} {q : Nat} {v : Int32} : upd nu (2 * q) v (2 * q) = upd f q v q := by unfold upd; rw [if_pos rfl, if_pos rfl]
theorem updq_b {nu f : Nat → Int32} {q : Nat} {v w : Int32} : upd (upd nu (2 * q) v) (2 * q + 1) w (2 * q) = upd f q v q := by unfold upd; rw [if_neg (by omega), if_pos rfl, if_pos rfl]
theorem updq_c {nu f : Nat → Int32} {q : Nat} {w : Int32} : upd nu (2 * q + 1) w (2 * q + 1) = upd f q w q := by unfold upd; rw [if_pos rfl, if_pos rfl]
theorem updq_lt {nu : Nat → Int32} {q j : Nat} {v : Int32} (h : j < 2 * q) : upd nu (2 * q) v j = nu j := by unfold upd; rw [if_neg (by omega)]
theorem updq_lt2 {nu : Nat → Int32} {q j : Nat} {v w : Int32} (h : j < 2 * q) : upd (upd nu (2 * q) v) (2 * q + 1) w j = nu j := by unfold upd; rw [if_neg (by omega), if_neg (by omega)]
set_option maxHeartbeats 400000 in
set_option maxRecDepth 100000 in
theorem l_order_end {Z : xZ} {len : Nat} (hb : Z.1 53 6 = nI len) (l120 : len ≤ 120) {k : Nat} (kl : k ≤ len) {q : Nat} (ho : Z.1 53 12 = nI q) (q60 : q < 60) {c : Int32} : XW mX4_takesOrder 5 0 0 79 [some (.ref 53), some (.int c)] [] (HP (sI Z 53 13 (nI k))) (fun r h' => r = some (.int (b2i (enF (Z.2.1 58) len k).1)) ∧ ((enF (Z.2.1 58) len k).1 = true → h' = HP (sI (sI Z 53 12 (nI (q + 1))) 53 13 (nI (enF (Z.2.1 58) len k).2))) ∧ ((enF (Z.2.1 58) len k).1 = false → h' = HP (sI (sI Z 53 14 (nI (enF (Z.2.1 58) len k).2)) 53 13 (nI (enF (Z.2.1 58) len k).2)))) := by
  refine XW.aload_n 80 dX4_takesOrder_79 rfl rfl ?_
  refine XW.callV 83 (vs := []) (rest := []) (mcr := 0) (msr := 0) c4_210 dX4_takesOrder_80 rfl rfl (by decide) (Nat.le_of_ble_eq_true rfl) rfl rfl (Nat.le_of_ble_eq_true rfl) rfl (k_blanks (Z := Z) (k := k) hb l120 kl) (fun r h1 hq => ?_)
  obtain ⟨rfl, rfl⟩ := hq
  have sk := skF_le (b := (Z.2.1 58)) (len := len) (k := k) kl
  generalize hs : skF (Z.2.1 58) len k = s at sk ⊢
  refine XW.aload_n 84 dX4_takesOrder_83 rfl rfl ?_
  refine XW.bipush 86 dX4_takesOrder_84 (v := 59) (by decide) rfl ?_
  refine XW.bipush 88 dX4_takesOrder_86 (v := 59) (by decide) rfl ?_
  refine XW.callV 91 (vs := [.int 59, .int 59]) (rest := []) (mcr := 0) (msr := 0) c4_204 dX4_takesOrder_88 rfl rfl (by decide) (Nat.le_of_ble_eq_true rfl) rfl rfl (Nat.le_of_ble_eq_true rfl) rfl (k_isAt (Z := Z) (k := s) hb l120 (by omega) _ _ (by decide)) (fun r h1 hq => ?_)
  obtain ⟨rfl, rfl⟩ := hq
  refine XW.eqs (st' := [.int (b2i (inF (bh (Z.2.1 58) len s) 59 59))]) rfl rfl rfl ?_
  refine XW.if_neB 103 94 dX4_takesOrder_91 (by decide) rfl (fun c_91 => ?_) (fun c_91 => ?_)
  · refine XW.aload_n 104 dX4_takesOrder_103 rfl rfl ?_
    refine XW.dup 105 dX4_takesOrder_104 rfl rfl ?_
    refine XW.getf 108 (v := .int (nI s)) f4_201 dX4_takesOrder_105 rfl rfl rfl ?_
    refine XW.iconst 109 dX4_takesOrder_108 (v := 1) (by decide) rfl ?_
    refine XW.iadd 110 dX4_takesOrder_109 rfl ?_
    refine XW.putf 113 (h' := HP (sI (sI Z 53 13 (nI s)) 53 13 ((nI s) + 1))) (p4_201 _) dX4_takesOrder_110 rfl (Nat.le_of_ble_eq_true rfl) (xfit_i _) rfl rfl ?_
    refine XW.eqs (h' := HP (sI Z 53 13 (nI (s + 1)))) rfl rfl (congrArg HP sp_inc) ?_
    refine XW.aload_n 114 dX4_takesOrder_113 rfl rfl ?_
    refine XW.dup 115 dX4_takesOrder_114 rfl rfl ?_
    refine XW.getf 118 (v := .int (Z.1 53 12)) f4_216 dX4_takesOrder_115 rfl rfl rfl ?_
    refine XW.iconst 119 dX4_takesOrder_118 (v := 1) (by decide) rfl ?_
    refine XW.iadd 120 dX4_takesOrder_119 rfl ?_
    refine XW.putf 123 (h' := HP (sI (sI Z 53 13 (nI (s + 1))) 53 12 ((Z.1 53 12) + 1))) (p4_216 _) dX4_takesOrder_120 rfl (Nat.le_of_ble_eq_true rfl) (xfit_i _) rfl rfl ?_
    refine XW.iconst 124 dX4_takesOrder_123 (v := 1) (by decide) rfl ?_
    exact XW.iret dX4_takesOrder_124 rfl (by
      have e0 : enF (Z.2.1 58) len k = (true, s + 1) := by rw [← hs]; exact enF_t (by rw [hs]; exact c_91)
      rw [e0]; exact ⟨rfl, fun _ => congrArg HP (by rw [sI_comm _ (by decide), show Z.1 53 12 + 1 = nI (q + 1) from na (n := 1) ho rfl]), fun q => absurd q Bool.noConfusion⟩)
  · refine XW.aload_n 95 dX4_takesOrder_94 rfl rfl ?_
    refine XW.aload_n 96 dX4_takesOrder_95 rfl rfl ?_
    refine XW.getf 99 (v := .int (nI s)) f4_201 dX4_takesOrder_96 rfl rfl rfl ?_
    refine XW.callV 102 (vs := [.int (nI s)]) (rest := []) (mcr := 0) (msr := 0) c4_213 dX4_takesOrder_99 rfl rfl (by decide) (Nat.le_of_ble_eq_true rfl) rfl rfl (Nat.le_of_ble_eq_true rfl) rfl (k_fails (Z := sI Z 53 13 (nI s)) _) (fun r h1 hq => ?_)
    obtain ⟨rfl, rfl⟩ := hq
    refine XW.eqs (st' := [.int 0]) rfl rfl rfl ?_
    exact XW.iret dX4_takesOrder_102 rfl (by
      have e0 : enF (Z.2.1 58) len k = (false, s) := by rw [← hs]; exact enF_f (by rw [hs]; exact c_91)
      rw [e0]; exact ⟨rfl, fun q => absurd q Bool.noConfusion, fun _ => congrArg HP (sI_comm _ (by decide) _ _)⟩)
set_option maxHeartbeats 400000 in
set_option maxRecDepth 100000 in
theorem k_takesOrder {Z : xZ} {len : Nat} (hb : Z.1 53 6 = nI len) (l120 : len ≤ 120) {k : Nat} (kl2 : k < len) {q : Nat} (ho : Z.1 53 12 = nI q) (q60 : q < 60) (f1 f2 : Nat → Int32) : XC mX4_takesOrder 5 0 0 [.ref 53] (HP (sI Z 53 13 (nI k))) (fun r h' => r = some (.int (b2i (oC (Z.2.1 58) len q k f1 f2).1)) ∧ ((oC (Z.2.1 58) len q k f1 f2).1 = true → ∃ nu, h' = HP (sI (sI (sA (sA Z 61 (upd (Z.2.1 61) q (bh (Z.2.1 58) len k))) 62 nu) 53 12 (nI (q + 1))) 53 13 (nI (oC (Z.2.1 58) len q k f1 f2).2.1)) ∧ (∀ j, j < 2 * q → nu j = Z.2.1 62 j) ∧ NUM (bh (Z.2.1 58) len k) q nu (oC (Z.2.1 58) len q k f1 f2).2.2.1 (oC (Z.2.1 58) len q k f1 f2).2.2.2) ∧ ((oC (Z.2.1 58) len q k f1 f2).1 = false → ∃ V, h' = HP V ∧ MCH Z V ∧ V.1 53 14 = nI (oC (Z.2.1 58) len q k f1 f2).2.1)) := by
  show XW mX4_takesOrder 5 0 0 0 [some (.ref 53), none] [] (HP (sI Z 53 13 (nI k))) _
  refine XW.aload_n 1 dX4_takesOrder_0 rfl rfl ?_
  refine XW.getf 4 (v := .ref 58) f4_22 dX4_takesOrder_1 rfl rfl rfl ?_
  refine XW.aload_n 5 dX4_takesOrder_4 rfl rfl ?_
  refine XW.getf 8 (v := .int (nI k)) f4_201 dX4_takesOrder_5 rfl rfl rfl ?_
  refine XW.iald 9 k dX4_takesOrder_8 rfl rfl (by omega) (by decide) rfl ?_
  refine XW.istore_n 10 (L' := [some (.ref 53), some (.int (Z.2.1 58 k))]) dX4_takesOrder_9 (by decide) rfl rfl rfl ?_
  refine XW.iload_n 11 dX4_takesOrder_10 rfl rfl ?_
  refine XW.bipush 13 dX4_takesOrder_11 (v := 99) (by decide) rfl ?_
  refine XW.icmp_eq 49 16 dX4_takesOrder_13 (by decide) rfl (fun c_13 => ?_) (fun c_13 => ?_)
  · have hk : (bh (Z.2.1 58) len k) = 99 := by rw [bh_lt kl2]; exact c_13
    refine XW.eqs (L' := [some (.ref 53), some (.int 99)]) (by rw [show Z.2.1 58 k = 99 from c_13]) rfl rfl ?_
    refine XW.aload_n 50 dX4_takesOrder_49 rfl rfl ?_
    refine XW.getf 53 (v := .ref 61) f4_32 dX4_takesOrder_50 rfl rfl rfl ?_
    refine XW.aload_n 54 dX4_takesOrder_53 rfl rfl ?_
    refine XW.getf 57 (v := .int (Z.1 53 12)) f4_216 dX4_takesOrder_54 rfl rfl rfl ?_
    refine XW.iload_n 58 dX4_takesOrder_57 rfl rfl ?_
    refine XW.iast 59 (h' := HP (sA (sI Z 53 13 (nI k)) 61 (upd (Z.2.1 61) q 99))) q dX4_takesOrder_58 rfl ho (by omega) (by decide) rfl rfl ?_
    refine XW.aload_n 60 dX4_takesOrder_59 rfl rfl ?_
    refine XW.dup 61 dX4_takesOrder_60 rfl rfl ?_
    refine XW.getf 64 (v := .int (nI k)) f4_201 dX4_takesOrder_61 rfl rfl rfl ?_
    refine XW.iconst 65 dX4_takesOrder_64 (v := 1) (by decide) rfl ?_
    refine XW.iadd 66 dX4_takesOrder_65 rfl ?_
    refine XW.putf 69 (h' := HP (sI (sA (sI Z 53 13 (nI k)) 61 (upd (Z.2.1 61) q 99)) 53 13 ((nI k) + 1))) (p4_201 _) dX4_takesOrder_66 rfl (Nat.le_of_ble_eq_true rfl) (xfit_i _) rfl rfl ?_
    refine XW.eqs (h' := HP (sI (sA Z 61 (upd (Z.2.1 61) q 99)) 53 13 (nI (k + 1)))) rfl rfl (congrArg HP (sp_inc (Z := sA Z 61 (upd (Z.2.1 61) q 99)) (k := k))) ?_
    refine XW.aload_n 70 dX4_takesOrder_69 rfl rfl ?_
    refine XW.iload_n 71 dX4_takesOrder_70 rfl rfl ?_
    refine XW.callV 74 (vs := [.int 99]) (rest := []) (mcr := 0) (msr := 0) c4_225 dX4_takesOrder_71 rfl rfl (by decide) (Nat.le_of_ble_eq_true rfl) rfl rfl (Nat.le_of_ble_eq_true rfl) rfl (k_tn_99 (Z := sA Z 61 (upd (Z.2.1 61) q 99)) (k := k + 1) hb l120 (by omega) ho q60) (fun r h1 hq => ?_)
    obtain ⟨rfl, ht, hf⟩ := hq
    refine XW.eqs (st' := [.int (b2i ((sxF (Z.2.1 58) len (k + 1)).1))]) rfl rfl rfl ?_
    refine XW.if_neB 79 77 dX4_takesOrder_74 (by decide) rfl (fun c_74 => ?_) (fun c_74 => ?_)
    · obtain rfl := ht c_74
      have nl1 := nuF_le (b := (Z.2.1 58)) (len := len) (k := k + 1) (by omega)
      have nl2 := nuF_le (b := (Z.2.1 58)) (len := len) (k := (nuF (Z.2.1 58) len (k + 1)).2.1) (by omega)
      have nl3 := sxF_le (b := (Z.2.1 58)) (len := len) (k := k + 1) (by omega)
      refine XW.post (l_order_end (Z := sA (sA Z 61 (upd (Z.2.1 61) q 99)) 62 (upd (Z.2.1 62) (2 * q) (sxF (Z.2.1 58) len (k + 1)).2.2)) (k := (sxF (Z.2.1 58) len (k + 1)).2.1) hb l120 (by omega) ho q60) (fun r h1 hq => ?_)
      obtain ⟨q1, q2, q3⟩ := hq
      have e0 := oC_99t (q := q) (f1 := f1) (f2 := f2) hk c_74
      refine ⟨by rw [e0]; exact q1, fun g => ⟨upd (Z.2.1 62) (2 * q) (sxF (Z.2.1 58) len (k + 1)).2.2, by rw [e0] at g; rw [q2 g, e0, hk]; rfl, fun j hj => updq_lt hj, ⟨fun _ => by rw [e0]; exact updq_a, fun q => absurd q (by rw [hk]; decide)⟩⟩, fun g => ⟨_, q3 (by rw [e0] at g; exact g), (((MCH.rfl'.a (Or.inl rfl)).a (Or.inr rfl)).i (Or.inr (Or.inr rfl))).i (Or.inr (Or.inl rfl)), by rw [sI_2 _ _ (by omega), sI_1, e0]; rfl⟩⟩
    · refine XW.iconst 78 dX4_takesOrder_77 (v := 0) (by decide) rfl ?_
      exact XW.iret dX4_takesOrder_78 rfl (by
        have e0 := oC_99f (q := q) (f1 := f1) (f2 := f2) hk c_74
        refine ⟨by rw [e0]; rfl, fun q => absurd q (by rw [e0]; exact Bool.noConfusion), fun _ => ?_⟩
        obtain ⟨nu, h⟩ := hf c_74
        exact ⟨_, h, (((MCH.rfl'.a (Or.inl rfl)).a (Or.inr rfl)).i (Or.inr (Or.inr rfl))).i (Or.inr (Or.inl rfl)), by rw [sI_2 _ _ (by omega), sI_1, e0]; rfl⟩)
  · refine XW.iload_n 17 dX4_takesOrder_16 rfl rfl ?_
    refine XW.bipush 19 dX4_takesOrder_17 (v := 102) (by decide) rfl ?_
    refine XW.icmp_eq 49 22 dX4_takesOrder_19 (by decide) rfl (fun c_19 => ?_) (fun c_19 => ?_)
    · have hk : (bh (Z.2.1 58) len k) = 102 := by rw [bh_lt kl2]; exact c_19
      refine XW.eqs (L' := [some (.ref 53), some (.int 102)]) (by rw [show Z.2.1 58 k = 102 from c_19]) rfl rfl ?_
      refine XW.aload_n 50 dX4_takesOrder_49 rfl rfl ?_
      refine XW.getf 53 (v := .ref 61) f4_32 dX4_takesOrder_50 rfl rfl rfl ?_
      refine XW.aload_n 54 dX4_takesOrder_53 rfl rfl ?_
      refine XW.getf 57 (v := .int (Z.1 53 12)) f4_216 dX4_takesOrder_54 rfl rfl rfl ?_
      refine XW.iload_n 58 dX4_takesOrder_57 rfl rfl ?_
      refine XW.iast 59 (h' := HP (sA (sI Z 53 13 (nI k)) 61 (upd (Z.2.1 61) q 102))) q dX4_takesOrder_58 rfl ho (by omega) (by decide) rfl rfl ?_
      refine XW.aload_n 60 dX4_takesOrder_59 rfl rfl ?_
      refine XW.dup 61 dX4_takesOrder_60 rfl rfl ?_
      refine XW.getf 64 (v := .int (nI k)) f4_201 dX4_takesOrder_61 rfl rfl rfl ?_
      refine XW.iconst 65 dX4_takesOrder_64 (v := 1) (by decide) rfl ?_
      refine XW.iadd 66 dX4_takesOrder_65 rfl ?_
      refine XW.putf 69 (h' := HP (sI (sA (sI Z 53 13 (nI k)) 61 (upd (Z.2.1 61) q 102)) 53 13 ((nI k) + 1))) (p4_201 _) dX4_takesOrder_66 rfl (Nat.le_of_ble_eq_true rfl) (xfit_i _) rfl rfl ?_
      refine XW.eqs (h' := HP (sI (sA Z 61 (upd (Z.2.1 61) q 102)) 53 13 (nI (k + 1)))) rfl rfl (congrArg HP (sp_inc (Z := sA Z 61 (upd (Z.2.1 61) q 102)) (k := k))) ?_
      refine XW.aload_n 70 dX4_takesOrder_69 rfl rfl ?_
      refine XW.iload_n 71 dX4_takesOrder_70 rfl rfl ?_
      refine XW.callV 74 (vs := [.int 102]) (rest := []) (mcr := 0) (msr := 0) c4_225 dX4_takesOrder_71 rfl rfl (by decide) (Nat.le_of_ble_eq_true rfl) rfl rfl (Nat.le_of_ble_eq_true rfl) rfl (k_tn_102 (Z := sA Z 61 (upd (Z.2.1 61) q 102)) (k := k + 1) hb l120 (by omega) ho q60) (fun r h1 hq => ?_)
      obtain ⟨rfl, ht, hf⟩ := hq
      refine XW.eqs (st' := [.int (b2i ((nuF (Z.2.1 58) len (k + 1)).1 && (nuF (Z.2.1 58) len (nuF (Z.2.1 58) len (k + 1)).2.1).1))]) rfl rfl rfl ?_
      refine XW.if_neB 79 77 dX4_takesOrder_74 (by decide) rfl (fun c_74 => ?_) (fun c_74 => ?_)
      · obtain rfl := ht c_74
        have nl1 := nuF_le (b := (Z.2.1 58)) (len := len) (k := k + 1) (by omega)
        have nl2 := nuF_le (b := (Z.2.1 58)) (len := len) (k := (nuF (Z.2.1 58) len (k + 1)).2.1) (by omega)
        have nl3 := sxF_le (b := (Z.2.1 58)) (len := len) (k := k + 1) (by omega)
        refine XW.post (l_order_end (Z := sA (sA Z 61 (upd (Z.2.1 61) q 102)) 62 (upd (upd (Z.2.1 62) (2 * q) (nuF (Z.2.1 58) len (k + 1)).2.2) (2 * q + 1) (nuF (Z.2.1 58) len (nuF (Z.2.1 58) len (k + 1)).2.1).2.2)) (k := (nuF (Z.2.1 58) len (nuF (Z.2.1 58) len (k + 1)).2.1).2.1) hb l120 (by omega) ho q60) (fun r h1 hq => ?_)
        obtain ⟨q1, q2, q3⟩ := hq
        have e0 := oC_2t (q := q) (f1 := f1) (f2 := f2) (Or.inl hk) c_74
        refine ⟨by rw [e0]; exact q1, fun g => ⟨upd (upd (Z.2.1 62) (2 * q) (nuF (Z.2.1 58) len (k + 1)).2.2) (2 * q + 1) (nuF (Z.2.1 58) len (nuF (Z.2.1 58) len (k + 1)).2.1).2.2, by rw [e0] at g; rw [q2 g, e0, hk]; rfl, fun j hj => updq_lt2 hj, ⟨fun _ => by rw [e0]; exact updq_b, fun _ => by rw [e0]; exact updq_c⟩⟩, fun g => ⟨_, q3 (by rw [e0] at g; exact g), (((MCH.rfl'.a (Or.inl rfl)).a (Or.inr rfl)).i (Or.inr (Or.inr rfl))).i (Or.inr (Or.inl rfl)), by rw [sI_2 _ _ (by omega), sI_1, e0]; rfl⟩⟩
      · refine XW.iconst 78 dX4_takesOrder_77 (v := 0) (by decide) rfl ?_
        exact XW.iret dX4_takesOrder_78 rfl (by
          have e0 := oC_2f (q := q) (f1 := f1) (f2 := f2) (Or.inl hk) c_74
          refine ⟨by rw [e0.1]; rfl, fun q => absurd q (by rw [e0.1]; decide), fun _ => ?_⟩
          obtain ⟨nu, h⟩ := hf c_74
          exact ⟨_, h, (((MCH.rfl'.a (Or.inl rfl)).a (Or.inr rfl)).i (Or.inr (Or.inr rfl))).i (Or.inr (Or.inl rfl)), by rw [sI_2 _ _ (by omega), sI_1, e0.2]; rfl⟩)
    · refine XW.iload_n 23 dX4_takesOrder_22 rfl rfl ?_
      refine XW.bipush 25 dX4_takesOrder_23 (v := 108) (by decide) rfl ?_
      refine XW.icmp_eq 49 28 dX4_takesOrder_25 (by decide) rfl (fun c_25 => ?_) (fun c_25 => ?_)
      · have hk : (bh (Z.2.1 58) len k) = 108 := by rw [bh_lt kl2]; exact c_25
        refine XW.eqs (L' := [some (.ref 53), some (.int 108)]) (by rw [show Z.2.1 58 k = 108 from c_25]) rfl rfl ?_
        refine XW.aload_n 50 dX4_takesOrder_49 rfl rfl ?_
        refine XW.getf 53 (v := .ref 61) f4_32 dX4_takesOrder_50 rfl rfl rfl ?_
        refine XW.aload_n 54 dX4_takesOrder_53 rfl rfl ?_
        refine XW.getf 57 (v := .int (Z.1 53 12)) f4_216 dX4_takesOrder_54 rfl rfl rfl ?_
        refine XW.iload_n 58 dX4_takesOrder_57 rfl rfl ?_
        refine XW.iast 59 (h' := HP (sA (sI Z 53 13 (nI k)) 61 (upd (Z.2.1 61) q 108))) q dX4_takesOrder_58 rfl ho (by omega) (by decide) rfl rfl ?_
        refine XW.aload_n 60 dX4_takesOrder_59 rfl rfl ?_
        refine XW.dup 61 dX4_takesOrder_60 rfl rfl ?_
        refine XW.getf 64 (v := .int (nI k)) f4_201 dX4_takesOrder_61 rfl rfl rfl ?_
        refine XW.iconst 65 dX4_takesOrder_64 (v := 1) (by decide) rfl ?_
        refine XW.iadd 66 dX4_takesOrder_65 rfl ?_
        refine XW.putf 69 (h' := HP (sI (sA (sI Z 53 13 (nI k)) 61 (upd (Z.2.1 61) q 108)) 53 13 ((nI k) + 1))) (p4_201 _) dX4_takesOrder_66 rfl (Nat.le_of_ble_eq_true rfl) (xfit_i _) rfl rfl ?_
        refine XW.eqs (h' := HP (sI (sA Z 61 (upd (Z.2.1 61) q 108)) 53 13 (nI (k + 1)))) rfl rfl (congrArg HP (sp_inc (Z := sA Z 61 (upd (Z.2.1 61) q 108)) (k := k))) ?_
        refine XW.aload_n 70 dX4_takesOrder_69 rfl rfl ?_
        refine XW.iload_n 71 dX4_takesOrder_70 rfl rfl ?_
        refine XW.callV 74 (vs := [.int 108]) (rest := []) (mcr := 0) (msr := 0) c4_225 dX4_takesOrder_71 rfl rfl (by decide) (Nat.le_of_ble_eq_true rfl) rfl rfl (Nat.le_of_ble_eq_true rfl) rfl (k_tn_108 (Z := sA Z 61 (upd (Z.2.1 61) q 108)) (k := k + 1) hb l120 (by omega) ho q60) (fun r h1 hq => ?_)
        obtain ⟨rfl, ht, hf⟩ := hq
        refine XW.eqs (st' := [.int (b2i ((nuF (Z.2.1 58) len (k + 1)).1 && (nuF (Z.2.1 58) len (nuF (Z.2.1 58) len (k + 1)).2.1).1))]) rfl rfl rfl ?_
        refine XW.if_neB 79 77 dX4_takesOrder_74 (by decide) rfl (fun c_74 => ?_) (fun c_74 => ?_)
        · obtain rfl := ht c_74
          have nl1 := nuF_le (b := (Z.2.1 58)) (len := len) (k := k + 1) (by omega)
          have nl2 := nuF_le (b := (Z.2.1 58)) (len := len) (k := (nuF (Z.2.1 58) len (k + 1)).2.1) (by omega)
          have nl3 := sxF_le (b := (Z.2.1 58)) (len := len) (k := k + 1) (by omega)
          refine XW.post (l_order_end (Z := sA (sA Z 61 (upd (Z.2.1 61) q 108)) 62 (upd (upd (Z.2.1 62) (2 * q) (nuF (Z.2.1 58) len (k + 1)).2.2) (2 * q + 1) (nuF (Z.2.1 58) len (nuF (Z.2.1 58) len (k + 1)).2.1).2.2)) (k := (nuF (Z.2.1 58) len (nuF (Z.2.1 58) len (k + 1)).2.1).2.1) hb l120 (by omega) ho q60) (fun r h1 hq => ?_)
          obtain ⟨q1, q2, q3⟩ := hq
          have e0 := oC_2t (q := q) (f1 := f1) (f2 := f2) (Or.inr hk) c_74
          refine ⟨by rw [e0]; exact q1, fun g => ⟨upd (upd (Z.2.1 62) (2 * q) (nuF (Z.2.1 58) len (k + 1)).2.2) (2 * q + 1) (nuF (Z.2.1 58) len (nuF (Z.2.1 58) len (k + 1)).2.1).2.2, by rw [e0] at g; rw [q2 g, e0, hk]; rfl, fun j hj => updq_lt2 hj, ⟨fun _ => by rw [e0]; exact updq_b, fun _ => by rw [e0]; exact updq_c⟩⟩, fun g => ⟨_, q3 (by rw [e0] at g; exact g), (((MCH.rfl'.a (Or.inl rfl)).a (Or.inr rfl)).i (Or.inr (Or.inr rfl))).i (Or.inr (Or.inl rfl)), by rw [sI_2 _ _ (by omega), sI_1, e0]; rfl⟩⟩
        · refine XW.iconst 78 dX4_takesOrder_77 (v := 0) (by decide) rfl ?_
          exact XW.iret dX4_takesOrder_78 rfl (by
            have e0 := oC_2f (q := q) (f1 := f1) (f2 := f2) (Or.inr hk) c_74
            refine ⟨by rw [e0.1]; rfl, fun q => absurd q (by rw [e0.1]; decide), fun _ => ?_⟩
            obtain ⟨nu, h⟩ := hf c_74
            exact ⟨_, h, (((MCH.rfl'.a (Or.inl rfl)).a (Or.inr rfl)).i (Or.inr (Or.inr rfl))).i (Or.inr (Or.inl rfl)), by rw [sI_2 _ _ (by omega), sI_1, e0.2]; rfl⟩)
      · refine XW.iload_n 29 dX4_takesOrder_28 rfl rfl ?_
        refine XW.bipush 31 dX4_takesOrder_29 (v := 112) (by decide) rfl ?_
        refine XW.icmp_eq 49 34 dX4_takesOrder_31 (by decide) rfl (fun c_31 => ?_) (fun c_31 => ?_)
        · have hk : (bh (Z.2.1 58) len k) = 112 := by rw [bh_lt kl2]; exact c_31
          refine XW.eqs (L' := [some (.ref 53), some (.int 112)]) (by rw [show Z.2.1 58 k = 112 from c_31]) rfl rfl ?_
          refine XW.aload_n 50 dX4_takesOrder_49 rfl rfl ?_
          refine XW.getf 53 (v := .ref 61) f4_32 dX4_takesOrder_50 rfl rfl rfl ?_
          refine XW.aload_n 54 dX4_takesOrder_53 rfl rfl ?_
          refine XW.getf 57 (v := .int (Z.1 53 12)) f4_216 dX4_takesOrder_54 rfl rfl rfl ?_
          refine XW.iload_n 58 dX4_takesOrder_57 rfl rfl ?_
          refine XW.iast 59 (h' := HP (sA (sI Z 53 13 (nI k)) 61 (upd (Z.2.1 61) q 112))) q dX4_takesOrder_58 rfl ho (by omega) (by decide) rfl rfl ?_
          refine XW.aload_n 60 dX4_takesOrder_59 rfl rfl ?_
          refine XW.dup 61 dX4_takesOrder_60 rfl rfl ?_
          refine XW.getf 64 (v := .int (nI k)) f4_201 dX4_takesOrder_61 rfl rfl rfl ?_
          refine XW.iconst 65 dX4_takesOrder_64 (v := 1) (by decide) rfl ?_
          refine XW.iadd 66 dX4_takesOrder_65 rfl ?_
          refine XW.putf 69 (h' := HP (sI (sA (sI Z 53 13 (nI k)) 61 (upd (Z.2.1 61) q 112)) 53 13 ((nI k) + 1))) (p4_201 _) dX4_takesOrder_66 rfl (Nat.le_of_ble_eq_true rfl) (xfit_i _) rfl rfl ?_
          refine XW.eqs (h' := HP (sI (sA Z 61 (upd (Z.2.1 61) q 112)) 53 13 (nI (k + 1)))) rfl rfl (congrArg HP (sp_inc (Z := sA Z 61 (upd (Z.2.1 61) q 112)) (k := k))) ?_
          refine XW.aload_n 70 dX4_takesOrder_69 rfl rfl ?_
          refine XW.iload_n 71 dX4_takesOrder_70 rfl rfl ?_
          refine XW.callV 74 (vs := [.int 112]) (rest := []) (mcr := 0) (msr := 0) c4_225 dX4_takesOrder_71 rfl rfl (by decide) (Nat.le_of_ble_eq_true rfl) rfl rfl (Nat.le_of_ble_eq_true rfl) rfl (k_tn_112 (Z := sA Z 61 (upd (Z.2.1 61) q 112)) (k := k + 1) hb l120 (by omega) ho q60) (fun r h1 hq => ?_)
          obtain ⟨rfl, ht, hf⟩ := hq
          refine XW.eqs (st' := [.int (b2i ((nuF (Z.2.1 58) len (k + 1)).1))]) rfl rfl rfl ?_
          refine XW.if_neB 79 77 dX4_takesOrder_74 (by decide) rfl (fun c_74 => ?_) (fun c_74 => ?_)
          · obtain rfl := ht c_74
            have nl1 := nuF_le (b := (Z.2.1 58)) (len := len) (k := k + 1) (by omega)
            have nl2 := nuF_le (b := (Z.2.1 58)) (len := len) (k := (nuF (Z.2.1 58) len (k + 1)).2.1) (by omega)
            have nl3 := sxF_le (b := (Z.2.1 58)) (len := len) (k := k + 1) (by omega)
            refine XW.post (l_order_end (Z := sA (sA Z 61 (upd (Z.2.1 61) q 112)) 62 (upd (Z.2.1 62) (2 * q) (nuF (Z.2.1 58) len (k + 1)).2.2)) (k := (nuF (Z.2.1 58) len (k + 1)).2.1) hb l120 (by omega) ho q60) (fun r h1 hq => ?_)
            obtain ⟨q1, q2, q3⟩ := hq
            have e0 := oC_112t (q := q) (f1 := f1) (f2 := f2) hk c_74
            refine ⟨by rw [e0]; exact q1, fun g => ⟨upd (Z.2.1 62) (2 * q) (nuF (Z.2.1 58) len (k + 1)).2.2, by rw [e0] at g; rw [q2 g, e0, hk]; rfl, fun j hj => updq_lt hj, ⟨fun _ => by rw [e0]; exact updq_a, fun q => absurd q (by rw [hk]; decide)⟩⟩, fun g => ⟨_, q3 (by rw [e0] at g; exact g), (((MCH.rfl'.a (Or.inl rfl)).a (Or.inr rfl)).i (Or.inr (Or.inr rfl))).i (Or.inr (Or.inl rfl)), by rw [sI_2 _ _ (by omega), sI_1, e0]; rfl⟩⟩
          · refine XW.iconst 78 dX4_takesOrder_77 (v := 0) (by decide) rfl ?_
            exact XW.iret dX4_takesOrder_78 rfl (by
              have e0 := oC_112f (q := q) (f1 := f1) (f2 := f2) hk c_74
              refine ⟨by rw [e0]; rfl, fun q => absurd q (by rw [e0]; exact Bool.noConfusion), fun _ => ?_⟩
              obtain ⟨nu, h⟩ := hf c_74
              exact ⟨_, h, (((MCH.rfl'.a (Or.inl rfl)).a (Or.inr rfl)).i (Or.inr (Or.inr rfl))).i (Or.inr (Or.inl rfl)), by rw [sI_2 _ _ (by omega), sI_1, e0]; rfl⟩)
        · refine XW.iload_n 35 dX4_takesOrder_34 rfl rfl ?_
          refine XW.bipush 37 dX4_takesOrder_35 (v := 115) (by decide) rfl ?_
          refine XW.icmp_eq 49 40 dX4_takesOrder_37 (by decide) rfl (fun c_37 => ?_) (fun c_37 => ?_)
          · have hk : (bh (Z.2.1 58) len k) = 115 := by rw [bh_lt kl2]; exact c_37
            refine XW.eqs (L' := [some (.ref 53), some (.int 115)]) (by rw [show Z.2.1 58 k = 115 from c_37]) rfl rfl ?_
            refine XW.aload_n 50 dX4_takesOrder_49 rfl rfl ?_
            refine XW.getf 53 (v := .ref 61) f4_32 dX4_takesOrder_50 rfl rfl rfl ?_
            refine XW.aload_n 54 dX4_takesOrder_53 rfl rfl ?_
            refine XW.getf 57 (v := .int (Z.1 53 12)) f4_216 dX4_takesOrder_54 rfl rfl rfl ?_
            refine XW.iload_n 58 dX4_takesOrder_57 rfl rfl ?_
            refine XW.iast 59 (h' := HP (sA (sI Z 53 13 (nI k)) 61 (upd (Z.2.1 61) q 115))) q dX4_takesOrder_58 rfl ho (by omega) (by decide) rfl rfl ?_
            refine XW.aload_n 60 dX4_takesOrder_59 rfl rfl ?_
            refine XW.dup 61 dX4_takesOrder_60 rfl rfl ?_
            refine XW.getf 64 (v := .int (nI k)) f4_201 dX4_takesOrder_61 rfl rfl rfl ?_
            refine XW.iconst 65 dX4_takesOrder_64 (v := 1) (by decide) rfl ?_
            refine XW.iadd 66 dX4_takesOrder_65 rfl ?_
            refine XW.putf 69 (h' := HP (sI (sA (sI Z 53 13 (nI k)) 61 (upd (Z.2.1 61) q 115)) 53 13 ((nI k) + 1))) (p4_201 _) dX4_takesOrder_66 rfl (Nat.le_of_ble_eq_true rfl) (xfit_i _) rfl rfl ?_
            refine XW.eqs (h' := HP (sI (sA Z 61 (upd (Z.2.1 61) q 115)) 53 13 (nI (k + 1)))) rfl rfl (congrArg HP (sp_inc (Z := sA Z 61 (upd (Z.2.1 61) q 115)) (k := k))) ?_
            refine XW.aload_n 70 dX4_takesOrder_69 rfl rfl ?_
            refine XW.iload_n 71 dX4_takesOrder_70 rfl rfl ?_
            refine XW.callV 74 (vs := [.int 115]) (rest := []) (mcr := 0) (msr := 0) c4_225 dX4_takesOrder_71 rfl rfl (by decide) (Nat.le_of_ble_eq_true rfl) rfl rfl (Nat.le_of_ble_eq_true rfl) rfl (k_tn_115 (Z := sA Z 61 (upd (Z.2.1 61) q 115)) (k := k + 1) hb l120 (by omega) ho q60) (fun r h1 hq => ?_)
            obtain ⟨rfl, rfl⟩ := hq
            refine XW.eqs (st' := [.int 1]) rfl rfl rfl ?_
            refine XW.if_ne 79 77 dX4_takesOrder_74 (by decide) rfl (fun c_74 => ?_) (fun c_74 => ?_)
            · skip
              refine XW.post (l_order_end (Z := sA Z 61 (upd (Z.2.1 61) q 115)) (k := k + 1) hb l120 (by omega) ho q60) (fun r h1 hq => ?_)
              obtain ⟨q1, q2, q3⟩ := hq
              have e0 := oC_115 (q := q) (f1 := f1) (f2 := f2) hk
              refine ⟨by rw [e0]; exact q1, fun g => ⟨Z.2.1 62, by rw [e0] at g; rw [q2 g, e0, hk, show sA (sA Z 61 (upd (Z.2.1 61) q 115)) 62 (Z.2.1 62) = sA Z 61 (upd (Z.2.1 61) q 115) from sA_id (sA Z 61 (upd (Z.2.1 61) q 115)) 62]; rfl, fun j hj => rfl, ⟨fun q => absurd q (by rw [hk]; decide), fun q => absurd q (by rw [hk]; decide)⟩⟩, fun g => ⟨_, q3 (by rw [e0] at g; exact g), ((MCH.rfl'.a (Or.inl rfl)).i (Or.inr (Or.inr rfl))).i (Or.inr (Or.inl rfl)), by rw [sI_2 _ _ (by omega), sI_1, e0]; rfl⟩⟩
            · exact absurd c_74 (by decide)
          · refine XW.aload_n 41 dX4_takesOrder_40 rfl rfl ?_
            refine XW.aload_n 42 dX4_takesOrder_41 rfl rfl ?_
            refine XW.getf 45 (v := .int (nI k)) f4_201 dX4_takesOrder_42 rfl rfl rfl ?_
            refine XW.callV 48 (vs := [.int (nI k)]) (rest := []) (mcr := 0) (msr := 0) c4_213 dX4_takesOrder_45 rfl rfl (by decide) (Nat.le_of_ble_eq_true rfl) rfl rfl (Nat.le_of_ble_eq_true rfl) rfl (k_fails (Z := sI Z 53 13 (nI k)) _) (fun r h1 hq => ?_)
            obtain ⟨rfl, rfl⟩ := hq
            refine XW.eqs (st' := [.int 0]) rfl rfl rfl ?_
            exact XW.iret dX4_takesOrder_48 rfl (by
              have e0 : (oC (Z.2.1 58) len q k f1 f2) = (false, k, f1, f2) := oC_no (by rw [bh_lt kl2]; exact c_13) (by rw [bh_lt kl2]; exact c_19) (by rw [bh_lt kl2]; exact c_25) (by rw [bh_lt kl2]; exact c_31) (by rw [bh_lt kl2]; exact c_37)
              refine ⟨by rw [e0]; rfl, fun q => absurd q (by rw [e0]; exact Bool.noConfusion), fun _ => ⟨_, rfl, (MCH.rfl'.i (Or.inr (Or.inl rfl))).i (Or.inr (Or.inr rfl)), by rw [sI_1, e0]⟩⟩)
