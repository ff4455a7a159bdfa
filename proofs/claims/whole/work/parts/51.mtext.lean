/-! The reference: the text, its leaves -/
theorem bh_lt {b : Nat → Int32} {len k : Nat} (h : k < len) : bh b len k = b k := if_pos h
theorem bh_ge {b : Nat → Int32} {len k : Nat} (h : len ≤ k) : bh b len k = -1 := if_neg (by omega)
theorem sp_inc {Z : xZ} {k : Nat} : sI (sI Z 53 13 (nI k)) 53 13 (nI k + 1) = sI Z 53 13 (nI (k + 1)) := by rw [sI_same, show nI k + 1 = nI (k + 1) from na (n := 1) rfl rfl]
theorem sA_id (Z : xZ) (a : Nat) : sA Z a (Z.2.1 a) = Z := by
  unfold sA
  refine Prod.ext rfl (Prod.ext ?_ rfl)
  funext x
  show va_up Z.2.1 a (Z.2.1 a) x = Z.2.1 x
  unfold va_up
  by_cases h : x = a
  · rw [if_pos h, h]
  · rw [if_neg h]
set_option maxHeartbeats 400000 in
set_option maxRecDepth 100000 in
theorem k_isAt {Z : xZ} {len : Nat} (hb : Z.1 53 6 = nI len) (l120 : len ≤ 120) {k : Nat} (kl : k ≤ len) (x y : Int32) (hxy : inF (-1) x y = false) : XC mX4_isAt 1 0 0 [.ref 53, .int x, .int y] (HP (sI Z 53 13 (nI k))) (fun r h' => r = some (.int (b2i (inF (bh (Z.2.1 58) len k) x y))) ∧ h' = HP (sI Z 53 13 (nI k))) := by
  show XW mX4_isAt 1 0 0 0 [some (.ref 53), some (.int x), some (.int y)] [] (HP (sI Z 53 13 (nI k))) _
  refine XW.aload_n 1 dX4_isAt_0 rfl rfl ?_
  refine XW.getf 4 (v := .int (nI k)) f4_201 dX4_isAt_1 rfl rfl rfl ?_
  refine XW.aload_n 5 dX4_isAt_4 rfl rfl ?_
  refine XW.getf 8 (v := .int (Z.1 53 6)) f4_198 dX4_isAt_5 rfl rfl rfl ?_
  refine XW.icmp_geN 32 11 k len dX4_isAt_8 (by decide) rfl rfl hb (by omega) (by omega) (fun c_8 => ?_) (fun c_8 => ?_)
  · have e0 : inF (bh (Z.2.1 58) len k) x y = false := by rw [bh_ge c_8]; exact hxy
    refine XW.iconst 33 dX4_isAt_32 (v := 0) (by decide) rfl ?_
    exact XW.iret dX4_isAt_33 rfl (⟨pF e0, rfl⟩)
  · refine XW.aload_n 12 dX4_isAt_11 rfl rfl ?_
    refine XW.getf 15 (v := .ref 58) f4_22 dX4_isAt_12 rfl rfl rfl ?_
    refine XW.aload_n 16 dX4_isAt_15 rfl rfl ?_
    refine XW.getf 19 (v := .int (nI k)) f4_201 dX4_isAt_16 rfl rfl rfl ?_
    refine XW.iald 20 k dX4_isAt_19 rfl rfl (by omega) (by decide) rfl ?_
    refine XW.iload_n 21 dX4_isAt_20 rfl rfl ?_
    refine XW.iload_n 22 dX4_isAt_21 rfl rfl ?_
    refine XW.callS 25 (vs := [.int (Z.2.1 58 k), .int x, .int y]) (rest := []) (mcr := 0) (msr := 0) c4_49 dX4_isAt_22 rfl (by decide) (Nat.le_of_ble_eq_true rfl) rfl rfl (Nat.le_of_ble_eq_true rfl) rfl (c_in_ _ _ _ _) (fun r h1 hq => ?_)
    obtain ⟨rfl, rfl⟩ := hq
    refine XW.eqs (st' := [.int (b2i (inF (Z.2.1 58 k) x y))]) rfl rfl rfl ?_
    refine XW.if_eqB 32 28 dX4_isAt_25 (by decide) rfl (fun c_25 => ?_) (fun c_25 => ?_)
    · have e0 : inF (bh (Z.2.1 58) len k) x y = false := by rw [bh_lt c_8]; exact c_25
      refine XW.iconst 33 dX4_isAt_32 (v := 0) (by decide) rfl ?_
      exact XW.iret dX4_isAt_33 rfl (⟨pF e0, rfl⟩)
    · refine XW.iconst 29 dX4_isAt_28 (v := 1) (by decide) rfl ?_
      refine XW.goto 33 dX4_isAt_29 (by decide) ?_
      exact XW.iret dX4_isAt_33 rfl (⟨pT (by rw [bh_lt c_8]; exact c_25), rfl⟩)
set_option maxHeartbeats 400000 in
set_option maxRecDepth 100000 in
theorem l_blanks {Z : xZ} {len : Nat} (hb : Z.1 53 6 = nI len) (l120 : len ≤ 120) : ∀ (n : Nat) (k : Nat), k ≤ len → len < k + n → XW mX4_blanks 2 0 0 0 [some (.ref 53)] [] (HP (sI Z 53 13 (nI k))) (fun r h' => r = none ∧ h' = HP (sI Z 53 13 (nI (skF (Z.2.1 58) len k)))) := by
  intro n
  induction n with
  | zero => intro k g0 g1; omega
  | succ n ih =>
    intro k g0 g1
    refine XW.aload_n 1 dX4_blanks_0 rfl rfl ?_
    refine XW.bipush 3 dX4_blanks_1 (v := 32) (by decide) rfl ?_
    refine XW.bipush 5 dX4_blanks_3 (v := 32) (by decide) rfl ?_
    refine XW.callV 8 (vs := [.int 32, .int 32]) (rest := []) (mcr := 0) (msr := 0) c4_204 dX4_blanks_5 rfl rfl (by decide) (Nat.le_of_ble_eq_true rfl) rfl rfl (Nat.le_of_ble_eq_true rfl) rfl (k_isAt (Z := Z) (k := k) hb l120 (by omega) _ _ (by decide)) (fun r h1 hq => ?_)
    obtain ⟨rfl, rfl⟩ := hq
    refine XW.eqs (st' := [.int (b2i (inF (bh (Z.2.1 58) len k) 32 32))]) rfl rfl rfl ?_
    refine XW.if_eqB 24 11 dX4_blanks_8 (by decide) rfl (fun c_8 => ?_) (fun c_8 => ?_)
    · have e0 : skF (Z.2.1 58) len k = k := skF_f (fun q => by rw [bh_lt q.1, q.2] at c_8; revert c_8; decide)
      exact XW.vret dX4_blanks_24 trivial (⟨rfl, by rw [e0]⟩)
    · have k1 : k < len := bh_in (b := (Z.2.1 58)) (fun q => by rw [q] at c_8; revert c_8; decide)
      have k2 : (Z.2.1 58) k = 32 := by
        rw [bh_lt k1] at c_8
        obtain ⟨q1, q2⟩ := inF_iff.mp c_8
        exact Int32.le_antisymm q2 q1
      refine XW.aload_n 12 dX4_blanks_11 rfl rfl ?_
      refine XW.dup 13 dX4_blanks_12 rfl rfl ?_
      refine XW.getf 16 (v := .int (nI k)) f4_201 dX4_blanks_13 rfl rfl rfl ?_
      refine XW.iconst 17 dX4_blanks_16 (v := 1) (by decide) rfl ?_
      refine XW.iadd 18 dX4_blanks_17 rfl ?_
      refine XW.putf 21 (h' := HP (sI (sI Z 53 13 (nI k)) 53 13 ((nI k) + 1))) (p4_201 _) dX4_blanks_18 rfl (Nat.le_of_ble_eq_true rfl) (xfit_i _) rfl rfl ?_
      refine XW.eqs (h' := HP (sI Z 53 13 (nI (k + 1)))) rfl rfl (congrArg HP sp_inc) ?_
      refine XW.goto 0 dX4_blanks_21 (by decide) ?_
      refine XW.post (ih (k + 1) (by omega) (by omega)) (fun r h1 hq => ?_)
      rw [skF_t k1 k2]; exact hq
theorem k_blanks {Z : xZ} {len : Nat} (hb : Z.1 53 6 = nI len) (l120 : len ≤ 120) {k : Nat} (kl : k ≤ len) : XC mX4_blanks 2 0 0 [.ref 53] (HP (sI Z 53 13 (nI k))) (fun r h' => r = none ∧ h' = HP (sI Z 53 13 (nI (skF (Z.2.1 58) len k)))) := l_blanks hb l120 (len + 1) k kl (by omega)
set_option maxHeartbeats 400000 in
set_option maxRecDepth 100000 in
theorem k_fails {Z : xZ} (x : Int32) : XC mX4_fails 0 0 0 [.ref 53, .int x] (HP Z) (fun r h' => r = some (.int 0) ∧ h' = HP (sI Z 53 14 x)) := by
  show XW mX4_fails 0 0 0 0 [some (.ref 53), some (.int x)] [] (HP Z) _
  refine XW.aload_n 1 dX4_fails_0 rfl rfl ?_
  refine XW.iload_n 2 dX4_fails_1 rfl rfl ?_
  refine XW.putf 5 (h' := HP (sI Z 53 14 x)) (p4_207 _) dX4_fails_2 rfl (Nat.le_of_ble_eq_true rfl) (xfit_i _) rfl rfl ?_
  refine XW.iconst 6 dX4_fails_5 (v := 0) (by decide) rfl ?_
  exact XW.iret dX4_fails_6 rfl (⟨rfl, rfl⟩)
theorem six_a {v t : Int32} (h : inF t 48 57 = true) : 16 * v + t - 48 = 16 * v + figF t := by
  unfold figF; rw [if_pos h, Int32.sub_eq_add_neg, Int32.sub_eq_add_neg, Int32.add_assoc]
theorem six_b {v t : Int32} (h1 : inF t 48 57 = false) (h : inF t 97 102 = true) : 16 * v + t - 87 = 16 * v + figF t := by
  unfold figF; rw [if_neg (by rw [h1]; decide), if_pos h, Int32.sub_eq_add_neg, Int32.sub_eq_add_neg, Int32.add_assoc, Int32.add_assoc]; rfl
theorem fig_ten {t : Int32} (h : inF t 48 57 = true) : ¬ figF t = -1 := by
  unfold figF; rw [if_pos h]
  obtain ⟨h1, h2⟩ := inF_iff.mp h
  intro q
  have : t = 47 := by
    have := congrArg (· + 48) q
    simp only [Int32.sub_add_cancel] at this
    rw [this]; decide
  subst this; revert h1; decide
theorem fig_let {t : Int32} (h1 : inF t 48 57 = false) (h : inF t 97 102 = true) : ¬ figF t = -1 := by
  unfold figF; rw [if_neg (by rw [h1]; decide), if_pos h]
  obtain ⟨h1, h2⟩ := inF_iff.mp h
  intro q
  have : t = 86 := by
    have := congrArg (fun z => z - 10 + 97) q
    simp only [Int32.add_sub_cancel, Int32.sub_add_cancel] at this
    rw [this]; decide
  subst this; revert h1; decide
theorem fig_no {t : Int32} (h1 : inF t 48 57 = false) (h : inF t 97 102 = false) : figF t = -1 := by
  unfold figF; rw [if_neg (by rw [h1]; decide), if_neg (by rw [h]; decide)]
set_option maxHeartbeats 400000 in
set_option maxRecDepth 100000 in
theorem l_ksix {Z : xZ} {len : Nat} (hb : Z.1 53 6 = nI len) (l120 : len ≤ 120) {xa : Int32} {a : Nat} (ha : xa = nI a) (a120 : a < 120) {X : Bool × Nat × Int32} : ∀ (n : Nat) (j kk : Nat) (v : Int32), j ≤ 6 → 6 < j + n → kk ≤ len → sxA (Z.2.1 58) len (6 - j) kk v = X → XW mX4_takesSix 3 0 0 8 [some (.ref 53), some (.int xa), some (.int v), some (.int (nI j)), none] [] (HP (sI Z 53 13 (nI kk))) (fun r h' => r = some (.int (b2i X.1)) ∧ (X.1 = true → h' = HP (sI (sA Z 62 (upd (Z.2.1 62) a X.2.2)) 53 13 (nI X.2.1))) ∧ (X.1 = false → ∃ nu, h' = HP (sI (sI (sA Z 62 nu) 53 14 (nI X.2.1)) 53 13 (nI X.2.1)))) := by
  intro n
  induction n with
  | zero => intro j kk v g0 g1 g2 g3; omega
  | succ n ih =>
    intro j kk v g0 g1 g2 g3
    have hX := g3
    refine XW.iload_n 9 dX4_takesSix_8 rfl rfl ?_
    refine XW.bipush 11 dX4_takesSix_9 (v := 6) (by decide) rfl ?_
    refine XW.icmp_geN 93 14 j 6 dX4_takesSix_11 (by decide) rfl rfl rfl (by omega) (by omega) (fun c_11 => ?_) (fun c_11 => ?_)
    · have eX : X = (true, kk, v) := by rw [← hX, show 6 - j = 0 by omega]; rfl
      refine XW.aload_n 94 dX4_takesSix_93 rfl rfl ?_
      refine XW.getf 97 (v := .ref 62) f4_35 dX4_takesSix_94 rfl rfl rfl ?_
      refine XW.iload_n 98 dX4_takesSix_97 rfl rfl ?_
      refine XW.iload_n 99 dX4_takesSix_98 rfl rfl ?_
      refine XW.iast 100 (h' := HP (sA (sI Z 53 13 (nI kk)) 62 (upd (Z.2.1 62) a v))) a dX4_takesSix_99 rfl ha (by omega) (by decide) rfl rfl ?_
      refine XW.iconst 101 dX4_takesSix_100 (v := 1) (by decide) rfl ?_
      exact XW.iret dX4_takesSix_101 rfl (⟨by rw [eX]; rfl, fun _ => by rw [eX]; rfl, fun q => absurd q (by rw [eX]; exact Bool.noConfusion)⟩)
    · refine XW.aload_n 15 dX4_takesSix_14 rfl rfl ?_
      refine XW.bipush 17 dX4_takesSix_15 (v := 48) (by decide) rfl ?_
      refine XW.bipush 19 dX4_takesSix_17 (v := 57) (by decide) rfl ?_
      refine XW.callV 22 (vs := [.int 48, .int 57]) (rest := []) (mcr := 0) (msr := 0) c4_204 dX4_takesSix_19 rfl rfl (by decide) (Nat.le_of_ble_eq_true rfl) rfl rfl (Nat.le_of_ble_eq_true rfl) rfl (k_isAt (Z := Z) (k := kk) hb l120 (by omega) _ _ (by decide)) (fun r h1 hq => ?_)
      obtain ⟨rfl, rfl⟩ := hq
      refine XW.eqs (st' := [.int (b2i (inF (bh (Z.2.1 58) len kk) 48 57))]) rfl rfl rfl ?_
      refine XW.istore 24 (L' := [some (.ref 53), some (.int xa), some (.int v), some (.int (nI j)), some (.int (b2i (inF (bh (Z.2.1 58) len kk) 48 57)))]) dX4_takesSix_22 (by decide) rfl rfl rfl ?_
      refine XW.iload 26 dX4_takesSix_24 rfl rfl ?_
      refine XW.if_neB 49 29 dX4_takesSix_26 (by decide) rfl (fun c_26 => ?_) (fun c_26 => ?_)
      · have kk1 : kk < len := bh_ten c_26
        refine XW.bipush 51 dX4_takesSix_49 (v := 16) (by decide) rfl ?_
        refine XW.iload_n 52 dX4_takesSix_51 rfl rfl ?_
        refine XW.imul 53 dX4_takesSix_52 rfl ?_
        refine XW.aload_n 54 dX4_takesSix_53 rfl rfl ?_
        refine XW.getf 57 (v := .ref 58) f4_22 dX4_takesSix_54 rfl rfl rfl ?_
        refine XW.aload_n 58 dX4_takesSix_57 rfl rfl ?_
        refine XW.getf 61 (v := .int (nI kk)) f4_201 dX4_takesSix_58 rfl rfl rfl ?_
        refine XW.iald 62 kk dX4_takesSix_61 rfl rfl (by omega) (by decide) rfl ?_
        refine XW.iadd 63 dX4_takesSix_62 rfl ?_
        refine XW.iload 65 dX4_takesSix_63 rfl rfl ?_
        refine XW.if_eqB 73 68 dX4_takesSix_65 (by decide) rfl (fun c_65 => ?_) (fun c_65 => ?_)
        · rw [c_26] at c_65; cases c_65
        · skip
          refine XW.bipush 70 dX4_takesSix_68 (v := 48) (by decide) rfl ?_
          refine XW.goto 75 dX4_takesSix_70 (by decide) ?_
          refine XW.isub 76 dX4_takesSix_75 rfl ?_
          refine XW.istore_n 77 (L' := [some (.ref 53), some (.int xa), some (.int (((16 * v) + (Z.2.1 58 kk)) - 48)), some (.int (nI j)), some (.int (b2i (inF (bh (Z.2.1 58) len kk) 48 57)))]) dX4_takesSix_76 (by decide) rfl rfl rfl ?_
          refine XW.aload_n 78 dX4_takesSix_77 rfl rfl ?_
          refine XW.dup 79 dX4_takesSix_78 rfl rfl ?_
          refine XW.getf 82 (v := .int (nI kk)) f4_201 dX4_takesSix_79 rfl rfl rfl ?_
          refine XW.iconst 83 dX4_takesSix_82 (v := 1) (by decide) rfl ?_
          refine XW.iadd 84 dX4_takesSix_83 rfl ?_
          refine XW.putf 87 (h' := HP (sI (sI Z 53 13 (nI kk)) 53 13 ((nI kk) + 1))) (p4_201 _) dX4_takesSix_84 rfl (Nat.le_of_ble_eq_true rfl) (xfit_i _) rfl rfl ?_
          refine XW.eqs (h' := HP (sI Z 53 13 (nI (kk + 1)))) rfl rfl (congrArg HP sp_inc) ?_
          refine XW.iinc 90 (y := nI (j + 1)) (L' := [some (.ref 53), some (.int xa), some (.int (((16 * v) + (Z.2.1 58 kk)) - 48)), some (.int (nI (j + 1))), some (.int (b2i (inF (bh (Z.2.1 58) len kk) 48 57)))]) dX4_takesSix_87 rfl (na rfl rfl) (by decide) rfl rfl rfl ?_
          refine XW.goto 8 dX4_takesSix_90 (by decide) ?_
          refine XW.weak [true, true, true, true, false] (L' := [some (.ref 53), some (.int xa), some (.int (((16 * v) + (Z.2.1 58 kk)) - 48)), some (.int (nI (j + 1))), none]) rfl ?_
          refine XW.eqs (L' := [some (.ref 53), some (.int xa), some (.int (16 * v + figF ((Z.2.1 58) kk))), some (.int (nI (j + 1))), none]) (by rw [six_a (by rw [← bh_lt (b := (Z.2.1 58)) kk1]; exact c_26)]) rfl rfl ?_
          exact ih (j + 1) (kk + 1) _ (by omega) (by omega) (by omega) (by rw [← hX, show 6 - j = (6 - (j + 1)) + 1 by omega, sxA_t (fig_ten c_26), bh_lt kk1])
      · refine XW.aload_n 30 dX4_takesSix_29 rfl rfl ?_
        refine XW.bipush 32 dX4_takesSix_30 (v := 97) (by decide) rfl ?_
        refine XW.bipush 34 dX4_takesSix_32 (v := 102) (by decide) rfl ?_
        refine XW.callV 37 (vs := [.int 97, .int 102]) (rest := []) (mcr := 0) (msr := 0) c4_204 dX4_takesSix_34 rfl rfl (by decide) (Nat.le_of_ble_eq_true rfl) rfl rfl (Nat.le_of_ble_eq_true rfl) rfl (k_isAt (Z := Z) (k := kk) hb l120 (by omega) _ _ (by decide)) (fun r h1 hq => ?_)
        obtain ⟨rfl, rfl⟩ := hq
        refine XW.eqs (st' := [.int (b2i (inF (bh (Z.2.1 58) len kk) 97 102))]) rfl rfl rfl ?_
        refine XW.if_neB 49 40 dX4_takesSix_37 (by decide) rfl (fun c_37 => ?_) (fun c_37 => ?_)
        · have kk1 : kk < len := bh_in (b := (Z.2.1 58)) (fun q => by rw [q] at c_37; revert c_37; decide)
          refine XW.bipush 51 dX4_takesSix_49 (v := 16) (by decide) rfl ?_
          refine XW.iload_n 52 dX4_takesSix_51 rfl rfl ?_
          refine XW.imul 53 dX4_takesSix_52 rfl ?_
          refine XW.aload_n 54 dX4_takesSix_53 rfl rfl ?_
          refine XW.getf 57 (v := .ref 58) f4_22 dX4_takesSix_54 rfl rfl rfl ?_
          refine XW.aload_n 58 dX4_takesSix_57 rfl rfl ?_
          refine XW.getf 61 (v := .int (nI kk)) f4_201 dX4_takesSix_58 rfl rfl rfl ?_
          refine XW.iald 62 kk dX4_takesSix_61 rfl rfl (by omega) (by decide) rfl ?_
          refine XW.iadd 63 dX4_takesSix_62 rfl ?_
          refine XW.iload 65 dX4_takesSix_63 rfl rfl ?_
          refine XW.if_eqB 73 68 dX4_takesSix_65 (by decide) rfl (fun c_65 => ?_) (fun c_65 => ?_)
          · skip
            refine XW.bipush 75 dX4_takesSix_73 (v := 87) (by decide) rfl ?_
            refine XW.isub 76 dX4_takesSix_75 rfl ?_
            refine XW.istore_n 77 (L' := [some (.ref 53), some (.int xa), some (.int (((16 * v) + (Z.2.1 58 kk)) - 87)), some (.int (nI j)), some (.int (b2i (inF (bh (Z.2.1 58) len kk) 48 57)))]) dX4_takesSix_76 (by decide) rfl rfl rfl ?_
            refine XW.aload_n 78 dX4_takesSix_77 rfl rfl ?_
            refine XW.dup 79 dX4_takesSix_78 rfl rfl ?_
            refine XW.getf 82 (v := .int (nI kk)) f4_201 dX4_takesSix_79 rfl rfl rfl ?_
            refine XW.iconst 83 dX4_takesSix_82 (v := 1) (by decide) rfl ?_
            refine XW.iadd 84 dX4_takesSix_83 rfl ?_
            refine XW.putf 87 (h' := HP (sI (sI Z 53 13 (nI kk)) 53 13 ((nI kk) + 1))) (p4_201 _) dX4_takesSix_84 rfl (Nat.le_of_ble_eq_true rfl) (xfit_i _) rfl rfl ?_
            refine XW.eqs (h' := HP (sI Z 53 13 (nI (kk + 1)))) rfl rfl (congrArg HP sp_inc) ?_
            refine XW.iinc 90 (y := nI (j + 1)) (L' := [some (.ref 53), some (.int xa), some (.int (((16 * v) + (Z.2.1 58 kk)) - 87)), some (.int (nI (j + 1))), some (.int (b2i (inF (bh (Z.2.1 58) len kk) 48 57)))]) dX4_takesSix_87 rfl (na rfl rfl) (by decide) rfl rfl rfl ?_
            refine XW.goto 8 dX4_takesSix_90 (by decide) ?_
            refine XW.weak [true, true, true, true, false] (L' := [some (.ref 53), some (.int xa), some (.int (((16 * v) + (Z.2.1 58 kk)) - 87)), some (.int (nI (j + 1))), none]) rfl ?_
            refine XW.eqs (L' := [some (.ref 53), some (.int xa), some (.int (16 * v + figF ((Z.2.1 58) kk))), some (.int (nI (j + 1))), none]) (by rw [six_b (by rw [← bh_lt (b := (Z.2.1 58)) kk1]; exact c_26) (by rw [← bh_lt (b := (Z.2.1 58)) kk1]; exact c_37)]) rfl rfl ?_
            exact ih (j + 1) (kk + 1) _ (by omega) (by omega) (by omega) (by rw [← hX, show 6 - j = (6 - (j + 1)) + 1 by omega, sxA_t (fig_let c_26 c_37), bh_lt kk1])
          · rw [c_26] at c_65; cases c_65
        · have eX : X = (false, kk, v) := by rw [← hX, show 6 - j = (6 - (j + 1)) + 1 by omega, sxA_f (fig_no c_26 c_37)]
          refine XW.aload_n 41 dX4_takesSix_40 rfl rfl ?_
          refine XW.aload_n 42 dX4_takesSix_41 rfl rfl ?_
          refine XW.getf 45 (v := .int (nI kk)) f4_201 dX4_takesSix_42 rfl rfl rfl ?_
          refine XW.callV 48 (vs := [.int (nI kk)]) (rest := []) (mcr := 0) (msr := 0) c4_213 dX4_takesSix_45 rfl rfl (by decide) (Nat.le_of_ble_eq_true rfl) rfl rfl (Nat.le_of_ble_eq_true rfl) rfl (k_fails (Z := sI Z 53 13 (nI kk)) _) (fun r h1 hq => ?_)
          obtain ⟨rfl, rfl⟩ := hq
          refine XW.eqs (st' := [.int 0]) rfl rfl rfl ?_
          exact XW.iret dX4_takesSix_48 rfl (⟨by rw [eX]; rfl, fun q => absurd q (by rw [eX]; exact Bool.noConfusion), fun _ => ⟨Z.2.1 62, by rw [eX, sA_id, sI_comm _ (by decide)]⟩⟩)
set_option maxHeartbeats 400000 in
set_option maxRecDepth 100000 in
theorem k_takesSix {Z : xZ} {len : Nat} (hb : Z.1 53 6 = nI len) (l120 : len ≤ 120) {k : Nat} (kl : k ≤ len) {xa : Int32} {a : Nat} (ha : xa = nI a) (a120 : a < 120) : XC mX4_takesSix 3 0 0 [.ref 53, .int xa] (HP (sI Z 53 13 (nI k))) (fun r h' => r = some (.int (b2i (sxF (Z.2.1 58) len k).1)) ∧ ((sxF (Z.2.1 58) len k).1 = true → h' = HP (sI (sA Z 62 (upd (Z.2.1 62) a (sxF (Z.2.1 58) len k).2.2)) 53 13 (nI (sxF (Z.2.1 58) len k).2.1))) ∧ ((sxF (Z.2.1 58) len k).1 = false → ∃ nu, h' = HP (sI (sI (sA Z 62 nu) 53 14 (nI (sxF (Z.2.1 58) len k).2.1)) 53 13 (nI (sxF (Z.2.1 58) len k).2.1)))) := by
  show XW mX4_takesSix 3 0 0 0 [some (.ref 53), some (.int xa), none, none, none] [] (HP (sI Z 53 13 (nI k))) _
  refine XW.aload_n 1 dX4_takesSix_0 rfl rfl ?_
  refine XW.callV 4 (vs := []) (rest := []) (mcr := 0) (msr := 0) c4_210 dX4_takesSix_1 rfl rfl (by decide) (Nat.le_of_ble_eq_true rfl) rfl rfl (Nat.le_of_ble_eq_true rfl) rfl (k_blanks (Z := Z) (k := k) hb l120 (by omega)) (fun r h1 hq => ?_)
  obtain ⟨rfl, rfl⟩ := hq
  have sk0 := skF_le (b := (Z.2.1 58)) (len := len) (k := k) (by omega)
  refine XW.iconst 5 dX4_takesSix_4 (v := 0) (by decide) rfl ?_
  refine XW.istore_n 6 (L' := [some (.ref 53), some (.int xa), some (.int 0), none, none]) dX4_takesSix_5 (by decide) rfl rfl rfl ?_
  refine XW.iconst 7 dX4_takesSix_6 (v := 0) (by decide) rfl ?_
  refine XW.istore_n 8 (L' := [some (.ref 53), some (.int xa), some (.int 0), some (.int 0), none]) dX4_takesSix_7 (by decide) rfl rfl rfl ?_
  exact l_ksix hb l120 ha a120 7 0 (skF (Z.2.1 58) len k) 0 (by omega) (by omega) (by omega) rfl
theorem num_a {v t : Int32} (h : inF t 48 57 = true) : 10 * v + t - 48 = 10 * v + figF t := by
  unfold figF; rw [if_pos h, Int32.sub_eq_add_neg, Int32.sub_eq_add_neg, Int32.add_assoc]
set_option maxHeartbeats 400000 in
set_option maxRecDepth 100000 in
theorem sI_sA (Z : xZ) (a j b : Nat) (v : Int32) (f : Nat → Int32) : sA (sI Z a j v) b f = sI (sA Z b f) a j v := rfl
set_option maxHeartbeats 400000 in
set_option maxRecDepth 100000 in
theorem l_knum {Z : xZ} {len : Nat} (hb : Z.1 53 6 = nI len) (l120 : len ≤ 120) {xa : Int32} {a : Nat} (ha : xa = nI a) (a120 : a < 120) {s : Nat} {X : Nat × Int32} : ∀ (n : Nat) (j : Nat) (v : Int32), j ≤ 3 → 3 < j + n → s + j ≤ len → nuA (Z.2.1 58) len (3 - j) (s + j) v = X → XW mX4_takesNumber 3 0 0 11 [some (.ref 53), some (.int xa), some (.int (nI s)), some (.int v)] [] (HP (sI Z 53 13 (nI (s + j)))) (fun r h' => r = some (.int (b2i ((decide (s < X.1) && !inF (bh (Z.2.1 58) len X.1) 48 57, X) : Bool × Nat × Int32).1)) ∧ (((decide (s < X.1) && !inF (bh (Z.2.1 58) len X.1) 48 57, X) : Bool × Nat × Int32).1 = true → h' = HP (sI (sA Z 62 (upd (Z.2.1 62) a ((decide (s < X.1) && !inF (bh (Z.2.1 58) len X.1) 48 57, X) : Bool × Nat × Int32).2.2)) 53 13 (nI ((decide (s < X.1) && !inF (bh (Z.2.1 58) len X.1) 48 57, X) : Bool × Nat × Int32).2.1))) ∧ (((decide (s < X.1) && !inF (bh (Z.2.1 58) len X.1) 48 57, X) : Bool × Nat × Int32).1 = false → ∃ nu, h' = HP (sI (sI (sA Z 62 nu) 53 14 (nI ((decide (s < X.1) && !inF (bh (Z.2.1 58) len X.1) 48 57, X) : Bool × Nat × Int32).2.1)) 53 13 (nI ((decide (s < X.1) && !inF (bh (Z.2.1 58) len X.1) 48 57, X) : Bool × Nat × Int32).2.1)))) := by
  intro n
  induction n with
  | zero => intro j v g0 g1 g2 g3; omega
  | succ n ih =>
    intro j v g0 g1 g2 g3
    have hX := g3
    refine XW.aload_n 12 dX4_takesNumber_11 rfl rfl ?_
    refine XW.bipush 14 dX4_takesNumber_12 (v := 48) (by decide) rfl ?_
    refine XW.bipush 16 dX4_takesNumber_14 (v := 57) (by decide) rfl ?_
    refine XW.callV 19 (vs := [.int 48, .int 57]) (rest := []) (mcr := 0) (msr := 0) c4_204 dX4_takesNumber_16 rfl rfl (by decide) (Nat.le_of_ble_eq_true rfl) rfl rfl (Nat.le_of_ble_eq_true rfl) rfl (k_isAt (Z := Z) (k := s + j) hb l120 (by omega) _ _ (by decide)) (fun r h1 hq => ?_)
    obtain ⟨rfl, rfl⟩ := hq
    refine XW.eqs (st' := [.int (b2i (inF (bh (Z.2.1 58) len (s + j)) 48 57))]) rfl rfl rfl ?_
    refine XW.if_eqB 72 22 dX4_takesNumber_19 (by decide) rfl (fun c_19 => ?_) (fun c_19 => ?_)
    · have eX : X = (s + j, v) := by rw [← hX, nuA_f c_19]
      refine XW.aload_n 73 dX4_takesNumber_72 rfl rfl ?_
      refine XW.getf 76 (v := .ref 62) f4_35 dX4_takesNumber_73 rfl rfl rfl ?_
      refine XW.iload_n 77 dX4_takesNumber_76 rfl rfl ?_
      refine XW.iload_n 78 dX4_takesNumber_77 rfl rfl ?_
      refine XW.iast 79 (h' := HP (sA (sI Z 53 13 (nI (s + j))) 62 (upd (Z.2.1 62) a v))) a dX4_takesNumber_78 rfl ha (by omega) (by decide) rfl rfl ?_
      refine XW.aload_n 80 dX4_takesNumber_79 rfl rfl ?_
      refine XW.getf 83 (v := .int (nI (s + j))) f4_201 dX4_takesNumber_80 rfl rfl rfl ?_
      refine XW.iload_n 84 dX4_takesNumber_83 rfl rfl ?_
      refine XW.icmp_gtN 98 87 (s + j) s dX4_takesNumber_84 (by decide) rfl rfl rfl (by omega) (by omega) (fun c_84 => ?_) (fun c_84 => ?_)
      · refine XW.iconst 99 dX4_takesNumber_98 (v := 1) (by decide) rfl ?_
        refine XW.goto 103 dX4_takesNumber_99 (by decide) ?_
        exact XW.iret dX4_takesNumber_103 rfl (by
              have e0 : ((decide (s < X.1) && !inF (bh (Z.2.1 58) len X.1) 48 57, X) : Bool × Nat × Int32).1 = true := by rw [eX]; show (decide (s < s + j) && !inF (bh (Z.2.1 58) len (s + j)) 48 57) = true; rw [c_19, decide_eq_true (by omega)]; rfl
              refine ⟨by rw [e0]; rfl, fun _ => by rw [eX]; exact congrArg HP (sI_sA _ _ _ _ _ _), fun q => absurd q (by rw [e0]; decide)⟩)
      · refine XW.aload_n 88 dX4_takesNumber_87 rfl rfl ?_
        refine XW.aload_n 89 dX4_takesNumber_88 rfl rfl ?_
        refine XW.getf 92 (v := .int (nI (s + j))) f4_201 dX4_takesNumber_89 rfl rfl rfl ?_
        refine XW.callV 95 (vs := [.int (nI (s + j))]) (rest := []) (mcr := 0) (msr := 0) c4_213 dX4_takesNumber_92 rfl rfl (by decide) (Nat.le_of_ble_eq_true rfl) rfl rfl (Nat.le_of_ble_eq_true rfl) rfl (k_fails (Z := sA (sI Z 53 13 (nI (s + j))) 62 (upd (Z.2.1 62) a v)) _) (fun r h1 hq => ?_)
        obtain ⟨rfl, rfl⟩ := hq
        refine XW.eqs (st' := [.int 0]) rfl rfl rfl ?_
        refine XW.if_eq 102 98 dX4_takesNumber_95 (by decide) rfl (fun c_95 => ?_) (fun c_95 => ?_)
        · refine XW.iconst 103 dX4_takesNumber_102 (v := 0) (by decide) rfl ?_
          exact XW.iret dX4_takesNumber_103 rfl (by
                have e0 : ((decide (s < X.1) && !inF (bh (Z.2.1 58) len X.1) 48 57, X) : Bool × Nat × Int32).1 = false := by rw [eX]; show (decide (s < s + j) && !inF (bh (Z.2.1 58) len (s + j)) 48 57) = false; rw [decide_eq_false (by omega)]; rfl
                refine ⟨by rw [e0]; rfl, fun q => absurd q (by rw [e0]; decide), fun _ => ⟨upd (Z.2.1 62) a v, by rw [eX, sI_comm _ (by decide)]; rfl⟩⟩)
        · exact absurd c_95 (by decide)
    · have kk1 : s + j < len := bh_ten c_19
      refine XW.aload_n 23 dX4_takesNumber_22 rfl rfl ?_
      refine XW.getf 26 (v := .int (nI (s + j))) f4_201 dX4_takesNumber_23 rfl rfl rfl ?_
      refine XW.iload_n 27 dX4_takesNumber_26 rfl rfl ?_
      refine XW.iconst 28 dX4_takesNumber_27 (v := 3) (by decide) rfl ?_
      refine XW.iadd 29 dX4_takesNumber_28 rfl ?_
      refine XW.icmp_neN 41 32 (s + j) (s + 3) dX4_takesNumber_29 (by decide) rfl rfl (na rfl rfl) (by omega) (by omega) (fun c_29 => ?_) (fun c_29 => ?_)
      · refine XW.bipush 43 dX4_takesNumber_41 (v := 10) (by decide) rfl ?_
        refine XW.iload_n 44 dX4_takesNumber_43 rfl rfl ?_
        refine XW.imul 45 dX4_takesNumber_44 rfl ?_
        refine XW.aload_n 46 dX4_takesNumber_45 rfl rfl ?_
        refine XW.getf 49 (v := .ref 58) f4_22 dX4_takesNumber_46 rfl rfl rfl ?_
        refine XW.aload_n 50 dX4_takesNumber_49 rfl rfl ?_
        refine XW.getf 53 (v := .int (nI (s + j))) f4_201 dX4_takesNumber_50 rfl rfl rfl ?_
        refine XW.iald 54 (s + j) dX4_takesNumber_53 rfl rfl (by omega) (by decide) rfl ?_
        refine XW.iadd 55 dX4_takesNumber_54 rfl ?_
        refine XW.bipush 57 dX4_takesNumber_55 (v := 48) (by decide) rfl ?_
        refine XW.isub 58 dX4_takesNumber_57 rfl ?_
        refine XW.istore_n 59 (L' := [some (.ref 53), some (.int xa), some (.int (nI s)), some (.int (((10 * v) + (Z.2.1 58 (s + j))) - 48))]) dX4_takesNumber_58 (by decide) rfl rfl rfl ?_
        refine XW.aload_n 60 dX4_takesNumber_59 rfl rfl ?_
        refine XW.dup 61 dX4_takesNumber_60 rfl rfl ?_
        refine XW.getf 64 (v := .int (nI (s + j))) f4_201 dX4_takesNumber_61 rfl rfl rfl ?_
        refine XW.iconst 65 dX4_takesNumber_64 (v := 1) (by decide) rfl ?_
        refine XW.iadd 66 dX4_takesNumber_65 rfl ?_
        refine XW.putf 69 (h' := HP (sI (sI Z 53 13 (nI (s + j))) 53 13 ((nI (s + j)) + 1))) (p4_201 _) dX4_takesNumber_66 rfl (Nat.le_of_ble_eq_true rfl) (xfit_i _) rfl rfl ?_
        refine XW.eqs (h' := HP (sI Z 53 13 (nI ((s + j) + 1)))) rfl rfl (congrArg HP sp_inc) ?_
        refine XW.goto 11 dX4_takesNumber_69 (by decide) ?_
        refine XW.eqs (L' := [some (.ref 53), some (.int xa), some (.int (nI s)), some (.int (10 * v + figF ((Z.2.1 58) (s + j))))]) (by rw [num_a (by rw [← bh_lt (b := (Z.2.1 58)) kk1]; exact c_19)]) rfl rfl ?_
        exact ih (j + 1) _ (by omega) (by omega) (by omega) (by rw [← hX, show 3 - j = (3 - (j + 1)) + 1 by omega, nuA_t c_19, bh_lt kk1]; rfl)
      · have eX : X = (s + j, v) := by rw [← hX, show 3 - j = 0 by omega]; rfl
        refine XW.aload_n 33 dX4_takesNumber_32 rfl rfl ?_
        refine XW.aload_n 34 dX4_takesNumber_33 rfl rfl ?_
        refine XW.getf 37 (v := .int (nI (s + j))) f4_201 dX4_takesNumber_34 rfl rfl rfl ?_
        refine XW.callV 40 (vs := [.int (nI (s + j))]) (rest := []) (mcr := 0) (msr := 0) c4_213 dX4_takesNumber_37 rfl rfl (by decide) (Nat.le_of_ble_eq_true rfl) rfl rfl (Nat.le_of_ble_eq_true rfl) rfl (k_fails (Z := sI Z 53 13 (nI (s + j))) _) (fun r h1 hq => ?_)
        obtain ⟨rfl, rfl⟩ := hq
        refine XW.eqs (st' := [.int 0]) rfl rfl rfl ?_
        exact XW.iret dX4_takesNumber_40 rfl (by
              have e0 : ((decide (s < X.1) && !inF (bh (Z.2.1 58) len X.1) 48 57, X) : Bool × Nat × Int32).1 = false := by rw [eX]; show (decide _ && !inF (bh (Z.2.1 58) len (s + j)) 48 57) = false; rw [c_19, Bool.not_true, Bool.and_false]
              refine ⟨by rw [e0]; rfl, fun q => absurd q (by rw [e0]; decide), fun _ => ⟨Z.2.1 62, by rw [eX, sA_id, sI_comm _ (by decide)]⟩⟩)
set_option maxHeartbeats 400000 in
set_option maxRecDepth 100000 in
theorem k_takesNumber {Z : xZ} {len : Nat} (hb : Z.1 53 6 = nI len) (l120 : len ≤ 120) {k : Nat} (kl : k ≤ len) {xa : Int32} {a : Nat} (ha : xa = nI a) (a120 : a < 120) : XC mX4_takesNumber 3 0 0 [.ref 53, .int xa] (HP (sI Z 53 13 (nI k))) (fun r h' => r = some (.int (b2i (nuF (Z.2.1 58) len k).1)) ∧ ((nuF (Z.2.1 58) len k).1 = true → h' = HP (sI (sA Z 62 (upd (Z.2.1 62) a (nuF (Z.2.1 58) len k).2.2)) 53 13 (nI (nuF (Z.2.1 58) len k).2.1))) ∧ ((nuF (Z.2.1 58) len k).1 = false → ∃ nu, h' = HP (sI (sI (sA Z 62 nu) 53 14 (nI (nuF (Z.2.1 58) len k).2.1)) 53 13 (nI (nuF (Z.2.1 58) len k).2.1)))) := by
  show XW mX4_takesNumber 3 0 0 0 [some (.ref 53), some (.int xa), none, none] [] (HP (sI Z 53 13 (nI k))) _
  refine XW.aload_n 1 dX4_takesNumber_0 rfl rfl ?_
  refine XW.callV 4 (vs := []) (rest := []) (mcr := 0) (msr := 0) c4_210 dX4_takesNumber_1 rfl rfl (by decide) (Nat.le_of_ble_eq_true rfl) rfl rfl (Nat.le_of_ble_eq_true rfl) rfl (k_blanks (Z := Z) (k := k) hb l120 (by omega)) (fun r h1 hq => ?_)
  obtain ⟨rfl, rfl⟩ := hq
  have sk0 := skF_le (b := (Z.2.1 58)) (len := len) (k := k) (by omega)
  refine XW.aload_n 5 dX4_takesNumber_4 rfl rfl ?_
  refine XW.getf 8 (v := .int (nI (skF (Z.2.1 58) len k))) f4_201 dX4_takesNumber_5 rfl rfl rfl ?_
  refine XW.istore_n 9 (L' := [some (.ref 53), some (.int xa), some (.int (nI (skF (Z.2.1 58) len k))), none]) dX4_takesNumber_8 (by decide) rfl rfl rfl ?_
  refine XW.iconst 10 dX4_takesNumber_9 (v := 0) (by decide) rfl ?_
  refine XW.istore_n 11 (L' := [some (.ref 53), some (.int xa), some (.int (nI (skF (Z.2.1 58) len k))), some (.int 0)]) dX4_takesNumber_10 (by decide) rfl rfl rfl ?_
  exact l_knum hb l120 ha a120 (s := skF (Z.2.1 58) len k) 4 0 0 (by omega) (by omega) (by omega) rfl
