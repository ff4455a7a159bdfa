/-! The class: scenes, loops that read -/
def itF {α : Type} (f : Nat → α → α) (a : α) : Nat → α
  | 0 => a
  | k + 1 => f k (itF f a k)
def fbF (rgb gr lm : Nat → Int32) : Nat → Int32 := itF (fun i b => if fitC rgb gr lm i = true then b ||| (1 <<< (nI i &&& 31)) else b) 0
theorem fbF_t {rgb gr lm : Nat → Int32} {k : Nat} (h : fitC rgb gr lm k = true) : fbF rgb gr lm (k + 1) = fbF rgb gr lm k ||| (1 <<< (nI k &&& 31)) := by show (if _ then _ else _) = _; rw [if_pos h]; rfl
theorem fbF_f {rgb gr lm : Nat → Int32} {k : Nat} (h : fitC rgb gr lm k = false) : fbF rgb gr lm (k + 1) = fbF rgb gr lm k := by show (if _ then _ else _) = _; rw [if_neg (by rw [h]; decide)]; rfl
def apS (ey rgb : Nat → Int32) (i j : Nat) : Nat → UInt32 × Bool := itF (fun e s => if ey (13 * e + 12) = 1 then (if s.2 = true ∧ ¬ distF ey rgb e i j < s.1 then s.1 else distF ey rgb e i j, true) else s) (FP.fconst0, false)
def apartF (ey rgb : Nat → Int32) (i j : Nat) : UInt32 := (apS ey rgb i j 4).1
theorem apS_n {ey rgb : Nat → Int32} {i j e : Nat} (h : ¬ ey (13 * e + 12) = 1) : apS ey rgb i j (e + 1) = apS ey rgb i j e := by show (if _ then _ else _) = _; rw [if_neg h]; rfl
theorem apS_y {ey rgb : Nat → Int32} {i j e : Nat} (h : ey (13 * e + 12) = 1) : apS ey rgb i j (e + 1) = (if (apS ey rgb i j e).2 = true ∧ ¬ distF ey rgb e i j < (apS ey rgb i j e).1 then (apS ey rgb i j e).1 else distF ey rgb e i j, true) := by show (if _ then _ else _) = _; rw [if_pos h]; rfl
theorem apS_d {ey rgb : Nat → Int32} {i j e : Nat} (h : ey (13 * e + 12) = 1) (h2 : (apS ey rgb i j e).2 = false ∨ distF ey rgb e i j < (apS ey rgb i j e).1) : apS ey rgb i j (e + 1) = (distF ey rgb e i j, true) := by
  rw [apS_y h, if_neg]; rintro ⟨q1, q2⟩; rcases h2 with q | q
  · rw [q] at q1; cases q1
  · exact q2 q
theorem apS_k {ey rgb : Nat → Int32} {i j e : Nat} (h : ey (13 * e + 12) = 1) (h2 : (apS ey rgb i j e).2 = true) (h3 : ¬ distF ey rgb e i j < (apS ey rgb i j e).1) : apS ey rgb i j (e + 1) = ((apS ey rgb i j e).1, true) := by
  rw [apS_y h, if_pos ⟨h2, h3⟩]
theorem apS_NF {rgb gr ey lm : Nat → Int32} (ok : okS rgb gr ey lm) {i j : Nat} (hi : i < 20) (hj : j < 20) : ∀ e, e ≤ 4 → NF (apS ey rgb i j e).1
  | 0, _ => NF_0
  | e + 1, h => by
    have ih := apS_NF ok hi hj e (by omega)
    by_cases q : ey (13 * e + 12) = 1
    · rw [apS_y q]; dsimp only; split
      · exact ih
      · exact ok_dist ok (by omega) hi hj
    · rw [apS_n q]; exact ih
theorem apartF_NF {rgb gr ey lm : Nat → Int32} (ok : okS rgb gr ey lm) {i j : Nat} (hi : i < 20) (hj : j < 20) : NF (apartF ey rgb i j) := apS_NF ok hi hj 4 (by omega)
/-- the first place of x among m, from k on -/
def plF (row : Nat → Int32) (x : Int32) : Nat → Nat → Int32
  | 0, _ => -1
  | m + 1, k => if row k = x then nI k else plF row x m (k + 1)
def rbF (row : Nat → Int32) : Nat → Int32 := itF (fun p b => b ||| (1 <<< (row p &&& 31))) 0
def cbF (ey : Nat → Int32) : Nat → Int32 := itF (fun e b => b ||| (ey (13 * e + 12) <<< (nI e &&& 31))) 0
def mzF (x y z r g b : Int32) : Bool := decide (x < 0 ∧ r = 0 ∧ y < 0 ∧ g = 0 ∧ z < 0 ∧ b = 0)
set_option maxHeartbeats 4000000 in
set_option maxRecDepth 100000 in
theorem l_fitBits {Z : xZ} {c : Nat} (hc : Z.1 1 0 = nI c) (c20 : c ≤ 20) (ok : okS (Z.2.1 2) (Z.2.1 3) (Z.2.1 4) (Z.2.1 5)) : ∀ (n : Nat) (k : Nat), k ≤ c → c < k + n → XW mX1_fitBits 3 0 0 4 [some (.ref 1), some (.int (fbF (Z.2.1 2) (Z.2.1 3) (Z.2.1 5) k)), some (.int (nI k))] [] (HP Z) (fun r h' => r = some (.int (fbF (Z.2.1 2) (Z.2.1 3) (Z.2.1 5) c)) ∧ h' = HP Z) := by
  intro n
  induction n with
  | zero => intro k g0 g1; omega
  | succ n ih =>
    intro k g0 g1
    refine XW.iload_n 5 dX1_fitBits_4 rfl rfl ?_
    refine XW.aload_n 6 dX1_fitBits_5 rfl rfl ?_
    refine XW.getf 9 (v := .int (Z.1 1 0)) f1_9 dX1_fitBits_6 rfl rfl rfl ?_
    refine XW.icmp_geN 32 12 k c dX1_fitBits_9 (by decide) rfl rfl hc (by omega) (by omega) (fun c_9 => ?_) (fun c_9 => ?_)
    · refine XW.iload_n 33 dX1_fitBits_32 rfl rfl ?_
      exact XW.iret dX1_fitBits_33 rfl (⟨by rw [show k = c by omega], rfl⟩)
    · refine XW.aload_n 13 dX1_fitBits_12 rfl rfl ?_
      refine XW.iload_n 14 dX1_fitBits_13 rfl rfl ?_
      refine XW.callV 17 (vs := [.int (nI k)]) (rest := []) (mcr := 0) (msr := 0) c1_59 dX1_fitBits_14 rfl rfl (by decide) (Nat.le_of_ble_eq_true rfl) rfl rfl (Nat.le_of_ble_eq_true rfl) rfl (c_isFit (i := k) rfl (by omega) ok) (fun r h1 hq => ?_)
      obtain ⟨rfl, rfl⟩ := hq
      refine XW.if_eqB 26 20 dX1_fitBits_17 (by decide) rfl (fun c_17 => ?_) (fun c_17 => ?_)
      · refine XW.iinc 29 (y := nI (k + 1)) (L' := [some (.ref 1), some (.int (fbF (Z.2.1 2) (Z.2.1 3) (Z.2.1 5) k)), some (.int (nI (k + 1)))]) dX1_fitBits_26 rfl (na rfl rfl) (by decide) rfl rfl rfl ?_
        refine XW.goto 4 dX1_fitBits_29 (by decide) ?_
        refine XW.eqs (L' := [some (.ref 1), some (.int (fbF (Z.2.1 2) (Z.2.1 3) (Z.2.1 5) (k + 1))), some (.int (nI (k + 1)))]) (by rw [fbF_f c_17]) rfl rfl ?_
        exact ih (k + 1) (by omega) (by omega)
      · refine XW.iload_n 21 dX1_fitBits_20 rfl rfl ?_
        refine XW.iconst 22 dX1_fitBits_21 (v := 1) (by decide) rfl ?_
        refine XW.iload_n 23 dX1_fitBits_22 rfl rfl ?_
        refine XW.ishl 24 dX1_fitBits_23 rfl ?_
        refine XW.ior 25 dX1_fitBits_24 rfl ?_
        refine XW.istore_n 26 (L' := [some (.ref 1), some (.int ((fbF (Z.2.1 2) (Z.2.1 3) (Z.2.1 5) k) ||| (1 <<< ((nI k) &&& 31)))), some (.int (nI k))]) dX1_fitBits_25 (by decide) rfl rfl rfl ?_
        refine XW.iinc 29 (y := nI (k + 1)) (L' := [some (.ref 1), some (.int ((fbF (Z.2.1 2) (Z.2.1 3) (Z.2.1 5) k) ||| (1 <<< ((nI k) &&& 31)))), some (.int (nI (k + 1)))]) dX1_fitBits_26 rfl (na rfl rfl) (by decide) rfl rfl rfl ?_
        refine XW.goto 4 dX1_fitBits_29 (by decide) ?_
        refine XW.eqs (L' := [some (.ref 1), some (.int (fbF (Z.2.1 2) (Z.2.1 3) (Z.2.1 5) (k + 1))), some (.int (nI (k + 1)))]) (by rw [fbF_t c_17]) rfl rfl ?_
        exact ih (k + 1) (by omega) (by omega)
set_option maxHeartbeats 4000000 in
set_option maxRecDepth 100000 in
theorem c_fitBits {Z : xZ} {c : Nat} (hc : Z.1 1 0 = nI c) (c20 : c ≤ 20) (ok : okS (Z.2.1 2) (Z.2.1 3) (Z.2.1 4) (Z.2.1 5)) : XC mX1_fitBits 3 0 0 [.ref 1] (HP Z) (fun r h' => r = some (.int (fbF (Z.2.1 2) (Z.2.1 3) (Z.2.1 5) c)) ∧ h' = HP Z) := by
  show XW mX1_fitBits 3 0 0 0 [some (.ref 1), none, none] [] (HP Z) _
  refine XW.iconst 1 dX1_fitBits_0 (v := 0) (by decide) rfl ?_
  refine XW.istore_n 2 (L' := [some (.ref 1), some (.int 0), none]) dX1_fitBits_1 (by decide) rfl rfl rfl ?_
  refine XW.iconst 3 dX1_fitBits_2 (v := 0) (by decide) rfl ?_
  refine XW.istore_n 4 (L' := [some (.ref 1), some (.int 0), some (.int 0)]) dX1_fitBits_3 (by decide) rfl rfl rfl ?_
  exact l_fitBits hc c20 ok (c + 1) 0 (by omega) (by omega)
set_option maxHeartbeats 4000000 in
set_option maxRecDepth 100000 in
theorem l_apartOf {Z : xZ} {xi xj : Int32} {i j : Nat} (hi : xi = nI i) (hj : xj = nI j) (i20 : i < 20) (j20 : j < 20) (ok : okS (Z.2.1 2) (Z.2.1 3) (Z.2.1 4) (Z.2.1 5)) : ∀ (n : Nat) (e : Nat), e ≤ 4 → 4 < e + n → XW mX1_apartOf 2 0 0 8 [some (.ref 1), some (.int xi), some (.int xj), some (.float ((apS (Z.2.1 4) (Z.2.1 2) i j e).1)), some (.int (b2i ((apS (Z.2.1 4) (Z.2.1 2) i j e).2))), some (.int (nI e)), none] [] (HP Z) (fun r h' => r = some (.float (apartF (Z.2.1 4) (Z.2.1 2) i j)) ∧ h' = HP Z) := by
  intro n
  induction n with
  | zero => intro e g0 g1; omega
  | succ n ih =>
    intro e g0 g1
    refine XW.iload 10 dX1_apartOf_8 rfl rfl ?_
    refine XW.iconst 11 dX1_apartOf_10 (v := 4) (by decide) rfl ?_
    refine XW.icmp_geN 69 14 e 4 dX1_apartOf_11 (by decide) rfl rfl rfl (by omega) (by omega) (fun c_11 => ?_) (fun c_11 => ?_)
    · refine XW.fload_n 70 dX1_apartOf_69 rfl rfl ?_
      exact XW.fret dX1_apartOf_70 trivial (⟨by rw [show e = 4 by omega]; rfl, rfl⟩)
    · refine XW.aload_n 15 dX1_apartOf_14 rfl rfl ?_
      refine XW.getf 18 (v := .ref 4) f1_28 dX1_apartOf_15 rfl rfl rfl ?_
      refine XW.bipush 20 dX1_apartOf_18 (v := 13) (by decide) rfl ?_
      refine XW.iload 22 dX1_apartOf_20 rfl rfl ?_
      refine XW.imul 23 dX1_apartOf_22 rfl ?_
      refine XW.bipush 25 dX1_apartOf_23 (v := 12) (by decide) rfl ?_
      refine XW.iadd 26 dX1_apartOf_25 rfl ?_
      refine XW.iald 27 ((13 * e) + 12) dX1_apartOf_26 rfl (na (nm rfl rfl) rfl) (by omega) (by decide) rfl ?_
      refine XW.iconst 28 dX1_apartOf_27 (v := 1) (by decide) rfl ?_
      refine XW.icmp_ne 63 31 dX1_apartOf_28 (by decide) rfl (fun c_28 => ?_) (fun c_28 => ?_)
      · refine XW.iinc 66 (y := nI (e + 1)) (L' := [some (.ref 1), some (.int xi), some (.int xj), some (.float ((apS (Z.2.1 4) (Z.2.1 2) i j e).1)), some (.int (b2i ((apS (Z.2.1 4) (Z.2.1 2) i j e).2))), some (.int (nI (e + 1))), none]) dX1_apartOf_63 rfl (na rfl rfl) (by decide) rfl rfl rfl ?_
        refine XW.goto 8 dX1_apartOf_66 (by decide) ?_
        refine XW.eqs (L' := [some (.ref 1), some (.int xi), some (.int xj), some (.float ((apS (Z.2.1 4) (Z.2.1 2) i j (e + 1)).1)), some (.int (b2i ((apS (Z.2.1 4) (Z.2.1 2) i j (e + 1)).2))), some (.int (nI (e + 1))), none]) (by rw [apS_n c_28]) rfl rfl ?_
        exact ih (e + 1) (by omega) (by omega)
      · refine XW.aload_n 32 dX1_apartOf_31 rfl rfl ?_
        refine XW.iload 34 dX1_apartOf_32 rfl rfl ?_
        refine XW.iload_n 35 dX1_apartOf_34 rfl rfl ?_
        refine XW.iload_n 36 dX1_apartOf_35 rfl rfl ?_
        refine XW.callV 39 (vs := [.int (nI e), .int xi, .int xj]) (rest := []) (mcr := 0) (msr := 0) c1_79 dX1_apartOf_36 rfl rfl (by decide) (Nat.le_of_ble_eq_true rfl) rfl rfl (Nat.le_of_ble_eq_true rfl) rfl (c_distanceFor (e := e) (i := i) (j := j) rfl hi hj (by omega) (by omega) (by omega) ok) (fun r h1 hq => ?_)
        obtain ⟨rfl, rfl⟩ := hq
        refine XW.fstore 41 (L' := [some (.ref 1), some (.int xi), some (.int xj), some (.float ((apS (Z.2.1 4) (Z.2.1 2) i j e).1)), some (.int (b2i ((apS (Z.2.1 4) (Z.2.1 2) i j e).2))), some (.int (nI e)), some (.float (distF (Z.2.1 4) (Z.2.1 2) e i j))]) dX1_apartOf_39 (by decide) rfl rfl rfl ?_
        refine XW.iload 43 dX1_apartOf_41 rfl rfl ?_
        refine XW.if_eqB 57 46 dX1_apartOf_43 (by decide) rfl (fun c_43 => ?_) (fun c_43 => ?_)
        · refine XW.fload 59 dX1_apartOf_57 rfl rfl ?_
          refine XW.fstore_n 60 (L' := [some (.ref 1), some (.int xi), some (.int xj), some (.float (distF (Z.2.1 4) (Z.2.1 2) e i j)), some (.int (b2i ((apS (Z.2.1 4) (Z.2.1 2) i j e).2))), some (.int (nI e)), some (.float (distF (Z.2.1 4) (Z.2.1 2) e i j))]) dX1_apartOf_59 (by decide) rfl rfl rfl ?_
          refine XW.iconst 61 dX1_apartOf_60 (v := 1) (by decide) rfl ?_
          refine XW.istore 63 (L' := [some (.ref 1), some (.int xi), some (.int xj), some (.float (distF (Z.2.1 4) (Z.2.1 2) e i j)), some (.int 1), some (.int (nI e)), some (.float (distF (Z.2.1 4) (Z.2.1 2) e i j))]) dX1_apartOf_61 (by decide) rfl rfl rfl ?_
          refine XW.iinc 66 (y := nI (e + 1)) (L' := [some (.ref 1), some (.int xi), some (.int xj), some (.float (distF (Z.2.1 4) (Z.2.1 2) e i j)), some (.int 1), some (.int (nI (e + 1))), some (.float (distF (Z.2.1 4) (Z.2.1 2) e i j))]) dX1_apartOf_63 rfl (na rfl rfl) (by decide) rfl rfl rfl ?_
          refine XW.goto 8 dX1_apartOf_66 (by decide) ?_
          refine XW.weak [true, true, true, true, true, true, false] (L' := [some (.ref 1), some (.int xi), some (.int xj), some (.float (distF (Z.2.1 4) (Z.2.1 2) e i j)), some (.int 1), some (.int (nI (e + 1))), none]) rfl ?_
          refine XW.eqs (L' := [some (.ref 1), some (.int xi), some (.int xj), some (.float ((apS (Z.2.1 4) (Z.2.1 2) i j (e + 1)).1)), some (.int (b2i ((apS (Z.2.1 4) (Z.2.1 2) i j (e + 1)).2))), some (.int (nI (e + 1))), none]) (by rw [apS_d c_28 (by first | exact Or.inl c_43 | exact Or.inr c_50)]; rfl) rfl rfl ?_
          exact ih (e + 1) (by omega) (by omega)
        · refine XW.fload_n 47 dX1_apartOf_46 rfl rfl ?_
          refine XW.fload 49 dX1_apartOf_47 rfl rfl ?_
          refine XW.fcmpU 50 dX1_apartOf_49 (apS_NF ok i20 j20 e (by omega)) (ok_dist ok (by omega) i20 j20) rfl ?_
          refine XW.if_gtU 57 53 dX1_apartOf_50 (by decide) rfl (fun c_50 => ?_) (fun c_50 => ?_)
          · refine XW.fload 59 dX1_apartOf_57 rfl rfl ?_
            refine XW.fstore_n 60 (L' := [some (.ref 1), some (.int xi), some (.int xj), some (.float (distF (Z.2.1 4) (Z.2.1 2) e i j)), some (.int (b2i ((apS (Z.2.1 4) (Z.2.1 2) i j e).2))), some (.int (nI e)), some (.float (distF (Z.2.1 4) (Z.2.1 2) e i j))]) dX1_apartOf_59 (by decide) rfl rfl rfl ?_
            refine XW.iconst 61 dX1_apartOf_60 (v := 1) (by decide) rfl ?_
            refine XW.istore 63 (L' := [some (.ref 1), some (.int xi), some (.int xj), some (.float (distF (Z.2.1 4) (Z.2.1 2) e i j)), some (.int 1), some (.int (nI e)), some (.float (distF (Z.2.1 4) (Z.2.1 2) e i j))]) dX1_apartOf_61 (by decide) rfl rfl rfl ?_
            refine XW.iinc 66 (y := nI (e + 1)) (L' := [some (.ref 1), some (.int xi), some (.int xj), some (.float (distF (Z.2.1 4) (Z.2.1 2) e i j)), some (.int 1), some (.int (nI (e + 1))), some (.float (distF (Z.2.1 4) (Z.2.1 2) e i j))]) dX1_apartOf_63 rfl (na rfl rfl) (by decide) rfl rfl rfl ?_
            refine XW.goto 8 dX1_apartOf_66 (by decide) ?_
            refine XW.weak [true, true, true, true, true, true, false] (L' := [some (.ref 1), some (.int xi), some (.int xj), some (.float (distF (Z.2.1 4) (Z.2.1 2) e i j)), some (.int 1), some (.int (nI (e + 1))), none]) rfl ?_
            refine XW.eqs (L' := [some (.ref 1), some (.int xi), some (.int xj), some (.float ((apS (Z.2.1 4) (Z.2.1 2) i j (e + 1)).1)), some (.int (b2i ((apS (Z.2.1 4) (Z.2.1 2) i j (e + 1)).2))), some (.int (nI (e + 1))), none]) (by rw [apS_d c_28 (by first | exact Or.inl c_43 | exact Or.inr c_50)]; rfl) rfl rfl ?_
            exact ih (e + 1) (by omega) (by omega)
          · refine XW.fload_n 54 dX1_apartOf_53 rfl rfl ?_
            refine XW.goto 59 dX1_apartOf_54 (by decide) ?_
            refine XW.fstore_n 60 (L' := [some (.ref 1), some (.int xi), some (.int xj), some (.float ((apS (Z.2.1 4) (Z.2.1 2) i j e).1)), some (.int (b2i ((apS (Z.2.1 4) (Z.2.1 2) i j e).2))), some (.int (nI e)), some (.float (distF (Z.2.1 4) (Z.2.1 2) e i j))]) dX1_apartOf_59 (by decide) rfl rfl rfl ?_
            refine XW.iconst 61 dX1_apartOf_60 (v := 1) (by decide) rfl ?_
            refine XW.istore 63 (L' := [some (.ref 1), some (.int xi), some (.int xj), some (.float ((apS (Z.2.1 4) (Z.2.1 2) i j e).1)), some (.int 1), some (.int (nI e)), some (.float (distF (Z.2.1 4) (Z.2.1 2) e i j))]) dX1_apartOf_61 (by decide) rfl rfl rfl ?_
            refine XW.iinc 66 (y := nI (e + 1)) (L' := [some (.ref 1), some (.int xi), some (.int xj), some (.float ((apS (Z.2.1 4) (Z.2.1 2) i j e).1)), some (.int 1), some (.int (nI (e + 1))), some (.float (distF (Z.2.1 4) (Z.2.1 2) e i j))]) dX1_apartOf_63 rfl (na rfl rfl) (by decide) rfl rfl rfl ?_
            refine XW.goto 8 dX1_apartOf_66 (by decide) ?_
            refine XW.weak [true, true, true, true, true, true, false] (L' := [some (.ref 1), some (.int xi), some (.int xj), some (.float ((apS (Z.2.1 4) (Z.2.1 2) i j e).1)), some (.int 1), some (.int (nI (e + 1))), none]) rfl ?_
            refine XW.eqs (L' := [some (.ref 1), some (.int xi), some (.int xj), some (.float ((apS (Z.2.1 4) (Z.2.1 2) i j (e + 1)).1)), some (.int (b2i ((apS (Z.2.1 4) (Z.2.1 2) i j (e + 1)).2))), some (.int (nI (e + 1))), none]) (by rw [apS_k c_28 c_43 c_50]; rfl) rfl rfl ?_
            exact ih (e + 1) (by omega) (by omega)
set_option maxHeartbeats 4000000 in
set_option maxRecDepth 100000 in
theorem c_apartOf {Z : xZ} {xi xj : Int32} {i j : Nat} (hi : xi = nI i) (hj : xj = nI j) (i20 : i < 20) (j20 : j < 20) (ok : okS (Z.2.1 2) (Z.2.1 3) (Z.2.1 4) (Z.2.1 5)) : XC mX1_apartOf 2 0 0 [.ref 1, .int xi, .int xj] (HP Z) (fun r h' => r = some (.float (apartF (Z.2.1 4) (Z.2.1 2) i j)) ∧ h' = HP Z) := by
  show XW mX1_apartOf 2 0 0 0 [some (.ref 1), some (.int xi), some (.int xj), none, none, none, none] [] (HP Z) _
  refine XW.fconst0 1 dX1_apartOf_0 rfl ?_
  refine XW.fstore_n 2 (L' := [some (.ref 1), some (.int xi), some (.int xj), some (.float FP.fconst0), none, none, none]) dX1_apartOf_1 (by decide) rfl rfl rfl ?_
  refine XW.iconst 3 dX1_apartOf_2 (v := 0) (by decide) rfl ?_
  refine XW.istore 5 (L' := [some (.ref 1), some (.int xi), some (.int xj), some (.float FP.fconst0), some (.int 0), none, none]) dX1_apartOf_3 (by decide) rfl rfl rfl ?_
  refine XW.iconst 6 dX1_apartOf_5 (v := 0) (by decide) rfl ?_
  refine XW.istore 8 (L' := [some (.ref 1), some (.int xi), some (.int xj), some (.float FP.fconst0), some (.int 0), some (.int 0), none]) dX1_apartOf_6 (by decide) rfl rfl rfl ?_
  refine XW.eqs (L' := [some (.ref 1), some (.int xi), some (.int xj), some (.float ((apS (Z.2.1 4) (Z.2.1 2) i j 0).1)), some (.int (b2i ((apS (Z.2.1 4) (Z.2.1 2) i j 0).2))), some (.int (nI 0)), none]) (by rfl) rfl rfl ?_
  exact l_apartOf hi hj i20 j20 ok 5 0 (by omega) (by omega)
set_option maxHeartbeats 4000000 in
set_option maxRecDepth 100000 in
theorem l_placeOf {Z : xZ} {l : Nat} {x : Int32} (hl : Z.1 1 7 = nI l) (l8 : l ≤ 8) : ∀ (n : Nat) (k : Nat), k ≤ l → l < k + n → XW mX1_placeOf 0 0 0 2 [some (.ref 1), some (.int x), some (.int (nI k))] [] (HP Z) (fun r h' => r = some (.int (plF (Z.2.1 6) x (l - k) k)) ∧ h' = HP Z) := by
  intro n
  induction n with
  | zero => intro k g0 g1; omega
  | succ n ih =>
    intro k g0 g1
    refine XW.iload_n 3 dX1_placeOf_2 rfl rfl ?_
    refine XW.aload_n 4 dX1_placeOf_3 rfl rfl ?_
    refine XW.getf 7 (v := .int (Z.1 1 7)) f1_40 dX1_placeOf_4 rfl rfl rfl ?_
    refine XW.icmp_geN 28 10 k l dX1_placeOf_7 (by decide) rfl rfl hl (by omega) (by omega) (fun c_7 => ?_) (fun c_7 => ?_)
    · refine XW.iconst 29 dX1_placeOf_28 (v := -1) (by decide) rfl ?_
      exact XW.iret dX1_placeOf_29 rfl (⟨by rw [show l - k = 0 by omega]; rfl, rfl⟩)
    · refine XW.aload_n 11 dX1_placeOf_10 rfl rfl ?_
      refine XW.getf 14 (v := .ref 6) f1_37 dX1_placeOf_11 rfl rfl rfl ?_
      refine XW.iload_n 15 dX1_placeOf_14 rfl rfl ?_
      refine XW.iald 16 k dX1_placeOf_15 rfl rfl (by omega) (by decide) rfl ?_
      refine XW.iload_n 17 dX1_placeOf_16 rfl rfl ?_
      refine XW.icmp_ne 22 20 dX1_placeOf_17 (by decide) rfl (fun c_17 => ?_) (fun c_17 => ?_)
      · refine XW.iinc 25 (y := nI (k + 1)) (L' := [some (.ref 1), some (.int x), some (.int (nI (k + 1)))]) dX1_placeOf_22 rfl (na rfl rfl) (by decide) rfl rfl rfl ?_
        refine XW.goto 2 dX1_placeOf_25 (by decide) ?_
        refine XW.post (ih (k + 1) (by omega) (by omega)) (fun r h1 hq => ⟨?_, hq.2⟩)
        rw [hq.1, show l - k = (l - (k + 1)) + 1 by omega]; show _ = some (Value.int (if _ then _ else _)); rw [if_neg c_17]
      · refine XW.iload_n 21 dX1_placeOf_20 rfl rfl ?_
        exact XW.iret dX1_placeOf_21 rfl (⟨by rw [show l - k = (l - (k + 1)) + 1 by omega]; show _ = some (Value.int (if _ then _ else _)); rw [if_pos c_17], rfl⟩)
set_option maxHeartbeats 4000000 in
set_option maxRecDepth 100000 in
theorem c_placeOf {Z : xZ} {l : Nat} (x : Int32) (hl : Z.1 1 7 = nI l) (l8 : l ≤ 8) : XC mX1_placeOf 0 0 0 [.ref 1, .int x] (HP Z) (fun r h' => r = some (.int (plF (Z.2.1 6) x l 0)) ∧ h' = HP Z) := by
  show XW mX1_placeOf 0 0 0 0 [some (.ref 1), some (.int x), none] [] (HP Z) _
  refine XW.iconst 1 dX1_placeOf_0 (v := 0) (by decide) rfl ?_
  refine XW.istore_n 2 (L' := [some (.ref 1), some (.int x), some (.int 0)]) dX1_placeOf_1 (by decide) rfl rfl rfl ?_
  exact l_placeOf hl l8 (l + 1) 0 (by omega) (by omega)
set_option maxHeartbeats 4000000 in
set_option maxRecDepth 100000 in
theorem l_rowBits {Z : xZ} {l : Nat} (hl : Z.1 1 7 = nI l) (l8 : l ≤ 8) : ∀ (n : Nat) (k : Nat), k ≤ l → l < k + n → XW mX1_rowBits 0 0 0 4 [some (.ref 1), some (.int (rbF (Z.2.1 6) k)), some (.int (nI k))] [] (HP Z) (fun r h' => r = some (.int (rbF (Z.2.1 6) l)) ∧ h' = HP Z) := by
  intro n
  induction n with
  | zero => intro k g0 g1; omega
  | succ n ih =>
    intro k g0 g1
    refine XW.iload_n 5 dX1_rowBits_4 rfl rfl ?_
    refine XW.aload_n 6 dX1_rowBits_5 rfl rfl ?_
    refine XW.getf 9 (v := .int (Z.1 1 7)) f1_40 dX1_rowBits_6 rfl rfl rfl ?_
    refine XW.icmp_geN 29 12 k l dX1_rowBits_9 (by decide) rfl rfl hl (by omega) (by omega) (fun c_9 => ?_) (fun c_9 => ?_)
    · refine XW.iload_n 30 dX1_rowBits_29 rfl rfl ?_
      exact XW.iret dX1_rowBits_30 rfl (⟨by rw [show k = l by omega], rfl⟩)
    · refine XW.iload_n 13 dX1_rowBits_12 rfl rfl ?_
      refine XW.iconst 14 dX1_rowBits_13 (v := 1) (by decide) rfl ?_
      refine XW.aload_n 15 dX1_rowBits_14 rfl rfl ?_
      refine XW.getf 18 (v := .ref 6) f1_37 dX1_rowBits_15 rfl rfl rfl ?_
      refine XW.iload_n 19 dX1_rowBits_18 rfl rfl ?_
      refine XW.iald 20 k dX1_rowBits_19 rfl rfl (by omega) (by decide) rfl ?_
      refine XW.ishl 21 dX1_rowBits_20 rfl ?_
      refine XW.ior 22 dX1_rowBits_21 rfl ?_
      refine XW.istore_n 23 (L' := [some (.ref 1), some (.int ((rbF (Z.2.1 6) k) ||| (1 <<< ((Z.2.1 6 k) &&& 31)))), some (.int (nI k))]) dX1_rowBits_22 (by decide) rfl rfl rfl ?_
      refine XW.iinc 26 (y := nI (k + 1)) (L' := [some (.ref 1), some (.int ((rbF (Z.2.1 6) k) ||| (1 <<< ((Z.2.1 6 k) &&& 31)))), some (.int (nI (k + 1)))]) dX1_rowBits_23 rfl (na rfl rfl) (by decide) rfl rfl rfl ?_
      refine XW.goto 4 dX1_rowBits_26 (by decide) ?_
      refine XW.eqs (L' := [some (.ref 1), some (.int (rbF (Z.2.1 6) (k + 1))), some (.int (nI (k + 1)))]) (by rfl) rfl rfl ?_
      exact ih (k + 1) (by omega) (by omega)
set_option maxHeartbeats 4000000 in
set_option maxRecDepth 100000 in
theorem c_rowBits {Z : xZ} {l : Nat} (hl : Z.1 1 7 = nI l) (l8 : l ≤ 8) : XC mX1_rowBits 0 0 0 [.ref 1] (HP Z) (fun r h' => r = some (.int (rbF (Z.2.1 6) l)) ∧ h' = HP Z) := by
  show XW mX1_rowBits 0 0 0 0 [some (.ref 1), none, none] [] (HP Z) _
  refine XW.iconst 1 dX1_rowBits_0 (v := 0) (by decide) rfl ?_
  refine XW.istore_n 2 (L' := [some (.ref 1), some (.int 0), none]) dX1_rowBits_1 (by decide) rfl rfl rfl ?_
  refine XW.iconst 3 dX1_rowBits_2 (v := 0) (by decide) rfl ?_
  refine XW.istore_n 4 (L' := [some (.ref 1), some (.int 0), some (.int 0)]) dX1_rowBits_3 (by decide) rfl rfl rfl ?_
  exact l_rowBits hl l8 (l + 1) 0 (by omega) (by omega)
set_option maxHeartbeats 4000000 in
set_option maxRecDepth 100000 in
theorem l_countingBits {Z : xZ} : ∀ (n : Nat) (k : Nat), k ≤ 4 → 4 < k + n → XW mX1_countingBits 0 0 0 4 [some (.ref 1), some (.int (cbF (Z.2.1 4) k)), some (.int (nI k))] [] (HP Z) (fun r h' => r = some (.int (cbF (Z.2.1 4) 4)) ∧ h' = HP Z) := by
  intro n
  induction n with
  | zero => intro k g0 g1; omega
  | succ n ih =>
    intro k g0 g1
    refine XW.iload_n 5 dX1_countingBits_4 rfl rfl ?_
    refine XW.iconst 6 dX1_countingBits_5 (v := 4) (by decide) rfl ?_
    refine XW.icmp_geN 32 9 k 4 dX1_countingBits_6 (by decide) rfl rfl rfl (by omega) (by omega) (fun c_6 => ?_) (fun c_6 => ?_)
    · refine XW.iload_n 33 dX1_countingBits_32 rfl rfl ?_
      exact XW.iret dX1_countingBits_33 rfl (⟨by rw [show k = 4 by omega], rfl⟩)
    · refine XW.iload_n 10 dX1_countingBits_9 rfl rfl ?_
      refine XW.aload_n 11 dX1_countingBits_10 rfl rfl ?_
      refine XW.getf 14 (v := .ref 4) f1_28 dX1_countingBits_11 rfl rfl rfl ?_
      refine XW.bipush 16 dX1_countingBits_14 (v := 13) (by decide) rfl ?_
      refine XW.iload_n 17 dX1_countingBits_16 rfl rfl ?_
      refine XW.imul 18 dX1_countingBits_17 rfl ?_
      refine XW.bipush 20 dX1_countingBits_18 (v := 12) (by decide) rfl ?_
      refine XW.iadd 21 dX1_countingBits_20 rfl ?_
      refine XW.iald 22 ((13 * k) + 12) dX1_countingBits_21 rfl (na (nm rfl rfl) rfl) (by omega) (by decide) rfl ?_
      refine XW.iload_n 23 dX1_countingBits_22 rfl rfl ?_
      refine XW.ishl 24 dX1_countingBits_23 rfl ?_
      refine XW.ior 25 dX1_countingBits_24 rfl ?_
      refine XW.istore_n 26 (L' := [some (.ref 1), some (.int ((cbF (Z.2.1 4) k) ||| ((Z.2.1 4 ((13 * k) + 12)) <<< ((nI k) &&& 31)))), some (.int (nI k))]) dX1_countingBits_25 (by decide) rfl rfl rfl ?_
      refine XW.iinc 29 (y := nI (k + 1)) (L' := [some (.ref 1), some (.int ((cbF (Z.2.1 4) k) ||| ((Z.2.1 4 ((13 * k) + 12)) <<< ((nI k) &&& 31)))), some (.int (nI (k + 1)))]) dX1_countingBits_26 rfl (na rfl rfl) (by decide) rfl rfl rfl ?_
      refine XW.goto 4 dX1_countingBits_29 (by decide) ?_
      refine XW.eqs (L' := [some (.ref 1), some (.int (cbF (Z.2.1 4) (k + 1))), some (.int (nI (k + 1)))]) (by rfl) rfl rfl ?_
      exact ih (k + 1) (by omega) (by omega)
set_option maxHeartbeats 4000000 in
set_option maxRecDepth 100000 in
theorem c_countingBits {Z : xZ} : XC mX1_countingBits 0 0 0 [.ref 1] (HP Z) (fun r h' => r = some (.int (cbF (Z.2.1 4) 4)) ∧ h' = HP Z) := by
  show XW mX1_countingBits 0 0 0 0 [some (.ref 1), none, none] [] (HP Z) _
  refine XW.iconst 1 dX1_countingBits_0 (v := 0) (by decide) rfl ?_
  refine XW.istore_n 2 (L' := [some (.ref 1), some (.int 0), none]) dX1_countingBits_1 (by decide) rfl rfl rfl ?_
  refine XW.iconst 3 dX1_countingBits_2 (v := 0) (by decide) rfl ?_
  refine XW.istore_n 4 (L' := [some (.ref 1), some (.int 0), some (.int 0)]) dX1_countingBits_3 (by decide) rfl rfl rfl ?_
  exact l_countingBits 5 0 (by omega) (by omega)
set_option maxHeartbeats 4000000 in
set_option maxRecDepth 100000 in
theorem c_minusZero {Z : xZ} {xe xi xk : Int32} {e i k : Nat} (he : xe = nI e) (hi : xi = nI i) (hk : xk = nI k) (e4 : e < 4) (i20 : i < 20) (k3 : k < 3) : XC mX1_isSeenAsMinusZero 0 0 0 [.ref 1, .int xe, .int xi, .int xk] (HP Z) (fun r h' => r = some (.int (b2i (mzF (Z.2.1 4 (13 * e + 3 * k)) (Z.2.1 4 (13 * e + 3 * k + 1)) (Z.2.1 4 (13 * e + 3 * k + 2)) (Z.2.1 2 (3 * i)) (Z.2.1 2 (3 * i + 1)) (Z.2.1 2 (3 * i + 2))))) ∧ h' = HP Z) := by
  show XW mX1_isSeenAsMinusZero 0 0 0 0 [some (.ref 1), some (.int xe), some (.int xi), some (.int xk), none, none] [] (HP Z) _
  refine XW.bipush 2 dX1_isSeenAsMinusZero_0 (v := 13) (by decide) rfl ?_
  refine XW.iload_n 3 dX1_isSeenAsMinusZero_2 rfl rfl ?_
  refine XW.imul 4 dX1_isSeenAsMinusZero_3 rfl ?_
  refine XW.iconst 5 dX1_isSeenAsMinusZero_4 (v := 3) (by decide) rfl ?_
  refine XW.iload_n 6 dX1_isSeenAsMinusZero_5 rfl rfl ?_
  refine XW.imul 7 dX1_isSeenAsMinusZero_6 rfl ?_
  refine XW.iadd 8 dX1_isSeenAsMinusZero_7 rfl ?_
  refine XW.istore 10 (L' := [some (.ref 1), some (.int xe), some (.int xi), some (.int xk), some (.int ((13 * xe) + (3 * xk))), none]) dX1_isSeenAsMinusZero_8 (by decide) rfl rfl rfl ?_
  refine XW.iconst 11 dX1_isSeenAsMinusZero_10 (v := 0) (by decide) rfl ?_
  refine XW.istore 13 (L' := [some (.ref 1), some (.int xe), some (.int xi), some (.int xk), some (.int ((13 * xe) + (3 * xk))), some (.int 0)]) dX1_isSeenAsMinusZero_11 (by decide) rfl rfl rfl ?_
  refine XW.iload 15 dX1_isSeenAsMinusZero_13 rfl rfl ?_
  refine XW.iconst 16 dX1_isSeenAsMinusZero_15 (v := 3) (by decide) rfl ?_
  refine XW.icmp_geN 54 19 0 3 dX1_isSeenAsMinusZero_16 (by decide) rfl rfl rfl (by omega) (by omega) (fun c_16 => ?_) (fun c_16 => ?_)
  · exact absurd c_16 (by decide)
  · refine XW.aload_n 20 dX1_isSeenAsMinusZero_19 rfl rfl ?_
    refine XW.getf 23 (v := .ref 4) f1_28 dX1_isSeenAsMinusZero_20 rfl rfl rfl ?_
    refine XW.iload 25 dX1_isSeenAsMinusZero_23 rfl rfl ?_
    refine XW.iload 27 dX1_isSeenAsMinusZero_25 rfl rfl ?_
    refine XW.iadd 28 dX1_isSeenAsMinusZero_27 rfl ?_
    refine XW.iald 29 (((13 * e) + (3 * k)) + 0) dX1_isSeenAsMinusZero_28 rfl (na (na (nm rfl he) (nm rfl hk)) rfl) (by omega) (by decide) rfl ?_
    refine XW.if_ge 46 32 dX1_isSeenAsMinusZero_29 (by decide) rfl (fun c_29 => ?_) (fun c_29 => ?_)
    · have u := Int32.not_lt.mpr c_29
      refine XW.iconst 47 dX1_isSeenAsMinusZero_46 (v := 0) (by decide) rfl ?_
      exact XW.iret dX1_isSeenAsMinusZero_47 rfl (⟨pF (decide_eq_false (fun q => by first | exact c_43 q.2.1 | exact c_43 q.2.2.2.1 | exact c_43 q.2.2.2.2.2 | exact u q.1 | exact u q.2.2.1 | exact u q.2.2.2.2.1)), rfl⟩)
    · have u0 := Int32.not_le.mp c_29
      refine XW.aload_n 33 dX1_isSeenAsMinusZero_32 rfl rfl ?_
      refine XW.getf 36 (v := .ref 2) f1_15 dX1_isSeenAsMinusZero_33 rfl rfl rfl ?_
      refine XW.iconst 37 dX1_isSeenAsMinusZero_36 (v := 3) (by decide) rfl ?_
      refine XW.iload_n 38 dX1_isSeenAsMinusZero_37 rfl rfl ?_
      refine XW.imul 39 dX1_isSeenAsMinusZero_38 rfl ?_
      refine XW.iload 41 dX1_isSeenAsMinusZero_39 rfl rfl ?_
      refine XW.iadd 42 dX1_isSeenAsMinusZero_41 rfl ?_
      refine XW.iald 43 ((3 * i) + 0) dX1_isSeenAsMinusZero_42 rfl (na (nm rfl hi) rfl) (by omega) (by decide) rfl ?_
      refine XW.if_eq 48 46 dX1_isSeenAsMinusZero_43 (by decide) rfl (fun c_43 => ?_) (fun c_43 => ?_)
      · have v0 := c_43
        refine XW.iinc 51 (y := 1) (L' := [some (.ref 1), some (.int xe), some (.int xi), some (.int xk), some (.int ((13 * xe) + (3 * xk))), some (.int 1)]) dX1_isSeenAsMinusZero_48 rfl (by decide) (by decide) rfl rfl rfl ?_
        refine XW.goto 13 dX1_isSeenAsMinusZero_51 (by decide) ?_
        refine XW.iload 15 dX1_isSeenAsMinusZero_13 rfl rfl ?_
        refine XW.iconst 16 dX1_isSeenAsMinusZero_15 (v := 3) (by decide) rfl ?_
        refine XW.icmp_geN 54 19 1 3 dX1_isSeenAsMinusZero_16 (by decide) rfl rfl rfl (by omega) (by omega) (fun c_16 => ?_) (fun c_16 => ?_)
        · exact absurd c_16 (by decide)
        · refine XW.aload_n 20 dX1_isSeenAsMinusZero_19 rfl rfl ?_
          refine XW.getf 23 (v := .ref 4) f1_28 dX1_isSeenAsMinusZero_20 rfl rfl rfl ?_
          refine XW.iload 25 dX1_isSeenAsMinusZero_23 rfl rfl ?_
          refine XW.iload 27 dX1_isSeenAsMinusZero_25 rfl rfl ?_
          refine XW.iadd 28 dX1_isSeenAsMinusZero_27 rfl ?_
          refine XW.iald 29 (((13 * e) + (3 * k)) + 1) dX1_isSeenAsMinusZero_28 rfl (na (na (nm rfl he) (nm rfl hk)) rfl) (by omega) (by decide) rfl ?_
          refine XW.if_ge 46 32 dX1_isSeenAsMinusZero_29 (by decide) rfl (fun c_29 => ?_) (fun c_29 => ?_)
          · have u := Int32.not_lt.mpr c_29
            refine XW.iconst 47 dX1_isSeenAsMinusZero_46 (v := 0) (by decide) rfl ?_
            exact XW.iret dX1_isSeenAsMinusZero_47 rfl (⟨pF (decide_eq_false (fun q => by first | exact c_43 q.2.1 | exact c_43 q.2.2.2.1 | exact c_43 q.2.2.2.2.2 | exact u q.1 | exact u q.2.2.1 | exact u q.2.2.2.2.1)), rfl⟩)
          · have u1 := Int32.not_le.mp c_29
            refine XW.aload_n 33 dX1_isSeenAsMinusZero_32 rfl rfl ?_
            refine XW.getf 36 (v := .ref 2) f1_15 dX1_isSeenAsMinusZero_33 rfl rfl rfl ?_
            refine XW.iconst 37 dX1_isSeenAsMinusZero_36 (v := 3) (by decide) rfl ?_
            refine XW.iload_n 38 dX1_isSeenAsMinusZero_37 rfl rfl ?_
            refine XW.imul 39 dX1_isSeenAsMinusZero_38 rfl ?_
            refine XW.iload 41 dX1_isSeenAsMinusZero_39 rfl rfl ?_
            refine XW.iadd 42 dX1_isSeenAsMinusZero_41 rfl ?_
            refine XW.iald 43 ((3 * i) + 1) dX1_isSeenAsMinusZero_42 rfl (na (nm rfl hi) rfl) (by omega) (by decide) rfl ?_
            refine XW.if_eq 48 46 dX1_isSeenAsMinusZero_43 (by decide) rfl (fun c_43 => ?_) (fun c_43 => ?_)
            · have v1 := c_43
              refine XW.iinc 51 (y := 2) (L' := [some (.ref 1), some (.int xe), some (.int xi), some (.int xk), some (.int ((13 * xe) + (3 * xk))), some (.int 2)]) dX1_isSeenAsMinusZero_48 rfl (by decide) (by decide) rfl rfl rfl ?_
              refine XW.goto 13 dX1_isSeenAsMinusZero_51 (by decide) ?_
              refine XW.iload 15 dX1_isSeenAsMinusZero_13 rfl rfl ?_
              refine XW.iconst 16 dX1_isSeenAsMinusZero_15 (v := 3) (by decide) rfl ?_
              refine XW.icmp_geN 54 19 2 3 dX1_isSeenAsMinusZero_16 (by decide) rfl rfl rfl (by omega) (by omega) (fun c_16 => ?_) (fun c_16 => ?_)
              · exact absurd c_16 (by decide)
              · refine XW.aload_n 20 dX1_isSeenAsMinusZero_19 rfl rfl ?_
                refine XW.getf 23 (v := .ref 4) f1_28 dX1_isSeenAsMinusZero_20 rfl rfl rfl ?_
                refine XW.iload 25 dX1_isSeenAsMinusZero_23 rfl rfl ?_
                refine XW.iload 27 dX1_isSeenAsMinusZero_25 rfl rfl ?_
                refine XW.iadd 28 dX1_isSeenAsMinusZero_27 rfl ?_
                refine XW.iald 29 (((13 * e) + (3 * k)) + 2) dX1_isSeenAsMinusZero_28 rfl (na (na (nm rfl he) (nm rfl hk)) rfl) (by omega) (by decide) rfl ?_
                refine XW.if_ge 46 32 dX1_isSeenAsMinusZero_29 (by decide) rfl (fun c_29 => ?_) (fun c_29 => ?_)
                · have u := Int32.not_lt.mpr c_29
                  refine XW.iconst 47 dX1_isSeenAsMinusZero_46 (v := 0) (by decide) rfl ?_
                  exact XW.iret dX1_isSeenAsMinusZero_47 rfl (⟨pF (decide_eq_false (fun q => by first | exact c_43 q.2.1 | exact c_43 q.2.2.2.1 | exact c_43 q.2.2.2.2.2 | exact u q.1 | exact u q.2.2.1 | exact u q.2.2.2.2.1)), rfl⟩)
                · have u2 := Int32.not_le.mp c_29
                  refine XW.aload_n 33 dX1_isSeenAsMinusZero_32 rfl rfl ?_
                  refine XW.getf 36 (v := .ref 2) f1_15 dX1_isSeenAsMinusZero_33 rfl rfl rfl ?_
                  refine XW.iconst 37 dX1_isSeenAsMinusZero_36 (v := 3) (by decide) rfl ?_
                  refine XW.iload_n 38 dX1_isSeenAsMinusZero_37 rfl rfl ?_
                  refine XW.imul 39 dX1_isSeenAsMinusZero_38 rfl ?_
                  refine XW.iload 41 dX1_isSeenAsMinusZero_39 rfl rfl ?_
                  refine XW.iadd 42 dX1_isSeenAsMinusZero_41 rfl ?_
                  refine XW.iald 43 ((3 * i) + 2) dX1_isSeenAsMinusZero_42 rfl (na (nm rfl hi) rfl) (by omega) (by decide) rfl ?_
                  refine XW.if_eq 48 46 dX1_isSeenAsMinusZero_43 (by decide) rfl (fun c_43 => ?_) (fun c_43 => ?_)
                  · have v2 := c_43
                    refine XW.iinc 51 (y := 3) (L' := [some (.ref 1), some (.int xe), some (.int xi), some (.int xk), some (.int ((13 * xe) + (3 * xk))), some (.int 3)]) dX1_isSeenAsMinusZero_48 rfl (by decide) (by decide) rfl rfl rfl ?_
                    refine XW.goto 13 dX1_isSeenAsMinusZero_51 (by decide) ?_
                    refine XW.iload 15 dX1_isSeenAsMinusZero_13 rfl rfl ?_
                    refine XW.iconst 16 dX1_isSeenAsMinusZero_15 (v := 3) (by decide) rfl ?_
                    refine XW.icmp_geN 54 19 3 3 dX1_isSeenAsMinusZero_16 (by decide) rfl rfl rfl (by omega) (by omega) (fun c_16 => ?_) (fun c_16 => ?_)
                    · refine XW.iconst 55 dX1_isSeenAsMinusZero_54 (v := 1) (by decide) rfl ?_
                      exact XW.iret dX1_isSeenAsMinusZero_55 rfl (⟨pT (decide_eq_true ⟨u0, v0, u1, v1, u2, v2⟩), rfl⟩)
                    · exact absurd c_16 (by decide)
                  · refine XW.iconst 47 dX1_isSeenAsMinusZero_46 (v := 0) (by decide) rfl ?_
                    exact XW.iret dX1_isSeenAsMinusZero_47 rfl (⟨pF (decide_eq_false (fun q => by first | exact c_43 q.2.1 | exact c_43 q.2.2.2.1 | exact c_43 q.2.2.2.2.2 | exact u q.1 | exact u q.2.2.1 | exact u q.2.2.2.2.1)), rfl⟩)
            · refine XW.iconst 47 dX1_isSeenAsMinusZero_46 (v := 0) (by decide) rfl ?_
              exact XW.iret dX1_isSeenAsMinusZero_47 rfl (⟨pF (decide_eq_false (fun q => by first | exact c_43 q.2.1 | exact c_43 q.2.2.2.1 | exact c_43 q.2.2.2.2.2 | exact u q.1 | exact u q.2.2.1 | exact u q.2.2.2.2.1)), rfl⟩)
      · refine XW.iconst 47 dX1_isSeenAsMinusZero_46 (v := 0) (by decide) rfl ?_
        exact XW.iret dX1_isSeenAsMinusZero_47 rfl (⟨pF (decide_eq_false (fun q => by first | exact c_43 q.2.1 | exact c_43 q.2.2.2.1 | exact c_43 q.2.2.2.2.2 | exact u q.1 | exact u q.2.2.1 | exact u q.2.2.2.2.1)), rfl⟩)
