/-! The reference: filling -/
theorem nxF_at {may : Nat → Bool} {rank : Nat → UInt32} : ∀ c, (nxF may rank c).1 = -1 ∨ ∃ j, j < c ∧ (nxF may rank c).1 = nI j ∧ (nxF may rank c).2 = rank j
  | 0 => Or.inl rfl
  | c + 1 => by
    by_cases h : may c = true ∧ ((nxF may rank c).1 = -1 ∨ (nxF may rank c).2 < rank c)
    · rw [nxF_t h.1 h.2]; exact Or.inr ⟨c, by omega, rfl, rfl⟩
    · have e : nxF may rank (c + 1) = nxF may rank c := if_neg h
      rw [e]
      rcases nxF_at (may := may) (rank := rank) c with q | ⟨j, h1, h2, h3⟩
      · exact Or.inl q
      · exact Or.inr ⟨j, by omega, h2, h3⟩
theorem andm1 {x : Int32} : x &&& ((0 : Int32) ^^^ (-1)) = x := by apply b_ext; intro i hi; rw [b_and, bt_not hi, b_0]; simp
theorem nxS_0 {ap : Nat → Nat → UInt32} {rgb : Nat → Int32} {fit : Int32} {c : Nat} {R : Nat → Int32} : nxS ap rgb fit c (R, 0) = (nxF (fun i => bitB fit (nI i)) (fun i => lightC rgb (3 * i)) c).1 := by
  show (nxF (fun i => bitB (fit &&& ((0 : Int32) ^^^ (-1))) (nI i)) (rkF ap rgb (rv R) 0) c).1 = _
  rw [andm1]; rfl
theorem pl_m1 {row : Nat → Int32} {l c i : Nat} (hf : rowOK row l c) (l8 : l ≤ 8) (hi : i < 32) : plF row (nI i) l 0 = -1 ↔ ∀ p, p < l → rv row p ≠ i := by
  constructor
  · intro h p hp e
    have e1 : row p = nI i := by rw [← e]; exact (hf p hp).1
    have key : ∀ m k, k ≤ p → p < k + m → k + m ≤ 8 → plF row (nI i) m k ≠ -1 := by
      intro m
      induction m with
      | zero => intro k h1 h2 _; omega
      | succ m ih =>
        intro k h1 h2 h3
        show (if _ then _ else _) ≠ _
        by_cases q : row k = nI i
        · rw [if_pos q]; exact nI_ne_m1 (by omega)
        · rw [if_neg q]; exact ih (k + 1) (by have : k ≠ p := fun z => q (z ▸ e1); omega) (by omega) (by omega)
    exact key l 0 (by omega) (by omega) (by omega) h
  · intro h
    exact plF_n l 0 (fun p _ hp e => h p (by omega) (by unfold rv; rw [e, nI_clamp (by omega)]))
set_option maxHeartbeats 400000 in
set_option maxRecDepth 100000 in
theorem k_putsLast {Z : xZ} {l : Nat} (x : Int32) (hl : Z.2.1 54 120 = nI l) (l8 : l < 8) : XC mX4_putsLast 0 0 0 [.ref 53, .int x] (HP Z) (fun r h' => r = none ∧ h' = HP (sA Z 54 (upd (upd (Z.2.1 54) (121 + l) x) 120 (nI (l + 1))))) := by
  show XW mX4_putsLast 0 0 0 0 [some (.ref 53), some (.int x)] [] (HP Z) _
  refine XW.aload_n 1 dX4_putsLast_0 rfl rfl ?_
  refine XW.getf 4 (v := .ref 54) f4_7 dX4_putsLast_1 rfl rfl rfl ?_
  refine XW.bipush 6 dX4_putsLast_4 (v := 121) (by decide) rfl ?_
  refine XW.aload_n 7 dX4_putsLast_6 rfl rfl ?_
  refine XW.getf 10 (v := .ref 54) f4_7 dX4_putsLast_7 rfl rfl rfl ?_
  refine XW.bipush 12 dX4_putsLast_10 (v := 120) (by decide) rfl ?_
  refine XW.iald 13 120 dX4_putsLast_12 rfl rfl (by omega) (by decide) rfl ?_
  refine XW.iadd 14 dX4_putsLast_13 rfl ?_
  refine XW.iload_n 15 dX4_putsLast_14 rfl rfl ?_
  refine XW.iast 16 (h' := HP (sA Z 54 (upd (Z.2.1 54) (121 + l) x))) (121 + l) dX4_putsLast_15 rfl (na rfl hl) (by omega) (by decide) rfl rfl ?_
  refine XW.aload_n 17 dX4_putsLast_16 rfl rfl ?_
  refine XW.getf 20 (v := .ref 54) f4_7 dX4_putsLast_17 rfl rfl rfl ?_
  refine XW.bipush 22 dX4_putsLast_20 (v := 120) (by decide) rfl ?_
  refine XW.dup2 23 dX4_putsLast_22 rfl rfl rfl ?_
  refine XW.iald 24 120 dX4_putsLast_23 rfl rfl (by omega) (by decide) rfl ?_
  refine XW.iconst 25 dX4_putsLast_24 (v := 1) (by decide) rfl ?_
  refine XW.iadd 26 dX4_putsLast_25 rfl ?_
  refine XW.eqs (st' := [.int (nI (l + 1)), .int 120, .ref 54]) rfl (by show [Value.int (upd (Z.2.1 54) (121 + l) x 120 + 1), Value.int 120, Value.ref 54] = _; rw [show upd (Z.2.1 54) (121 + l) x 120 + 1 = nI (l + 1) from na (by unfold upd; rw [if_neg (by omega)]; exact hl) rfl]) rfl ?_
  refine XW.iast 27 (h' := HP (sA (sA Z 54 (upd (Z.2.1 54) (121 + l) x)) 54 (upd (upd (Z.2.1 54) (121 + l) x) 120 (nI (l + 1))))) 120 dX4_putsLast_26 rfl rfl (by omega) (by decide) rfl rfl ?_
  exact XW.vret dX4_putsLast_27 trivial (⟨rfl, rfl⟩)
set_option maxHeartbeats 400000 in
set_option maxRecDepth 100000 in
theorem l_klightest {Z : xZ} {c l : Nat} (mi : MI (Z.2.1 54) c l) {fit : Int32} (hfit : Z.1 53 8 = fit) : ∀ (n : Nat) (i : Nat), i ≤ c → c < i + n → XW mX4_lightest 1 0 0 4 [some (.ref 53), some (.int ((nxF (fun i => bitB fit (nI i)) (fun i => lightC (nR (Z.2.1 54)) (3 * i)) i).1)), some (.int (nI i)), none] [] (HP Z) (fun r h' => r = some (.int (nxF (fun i => bitB fit (nI i)) (fun i => lightC (nR (Z.2.1 54)) (3 * i)) c).1) ∧ h' = HP Z) := by
  intro n
  induction n with
  | zero => intro i g0 g1; omega
  | succ n ih =>
    intro i g0 g1
    obtain ⟨hc, c20, hl, l8, ok, hf, hdi, hfb⟩ := id mi
    have okc := ok_cut ok
    refine XW.iload_n 5 dX4_lightest_4 rfl rfl ?_
    refine XW.aload_n 6 dX4_lightest_5 rfl rfl ?_
    refine XW.getf 9 (v := .ref 54) f4_7 dX4_lightest_6 rfl rfl rfl ?_
    refine XW.iconst 10 dX4_lightest_9 (v := 0) (by decide) rfl ?_
    refine XW.iald 11 0 dX4_lightest_10 rfl rfl (by omega) (by decide) rfl ?_
    refine XW.icmp_geN 74 14 i c dX4_lightest_11 (by decide) rfl rfl hc (by omega) (by omega) (fun c_11 => ?_) (fun c_11 => ?_)
    · refine XW.iload_n 75 dX4_lightest_74 rfl rfl ?_
      exact XW.iret dX4_lightest_75 rfl (⟨by rw [show i = c by omega], rfl⟩)
    · refine XW.iload_n 15 dX4_lightest_14 rfl rfl ?_
      refine XW.iconst 16 dX4_lightest_15 (v := -1) (by decide) rfl ?_
      refine XW.icmp_eq 41 19 dX4_lightest_16 (by decide) rfl (fun c_16 => ?_) (fun c_16 => ?_)
      · refine XW.iconst 42 dX4_lightest_41 (v := 1) (by decide) rfl ?_
        refine XW.goto 46 dX4_lightest_42 (by decide) ?_
        refine XW.istore_n 47 (L' := [some (.ref 53), some (.int ((nxF (fun i => bitB fit (nI i)) (fun i => lightC (nR (Z.2.1 54)) (3 * i)) i).1)), some (.int (nI i)), some (.int 1)]) dX4_lightest_46 (by decide) rfl rfl rfl ?_
        refine XW.aload_n 48 dX4_lightest_47 rfl rfl ?_
        refine XW.getf 51 (v := .int (Z.1 53 8)) f4_133 dX4_lightest_48 rfl rfl rfl ?_
        refine XW.iload_n 52 dX4_lightest_51 rfl rfl ?_
        refine XW.callS 55 (vs := [.int (Z.1 53 8), .int (nI i)]) (rest := []) (mcr := 0) (msr := 0) c4_136 dX4_lightest_52 rfl (by decide) (Nat.le_of_ble_eq_true rfl) rfl rfl (Nat.le_of_ble_eq_true rfl) rfl (k_has _ _ _) (fun r h1 hq => ?_)
        obtain ⟨rfl, rfl⟩ := hq
        refine XW.eqs (st' := [.int (b2i (bitB fit (nI i)))]) rfl (by rw [← hfit]; rfl) rfl ?_
        refine XW.if_eqB 66 58 dX4_lightest_55 (by decide) rfl (fun c_55 => ?_) (fun c_55 => ?_)
        · skip
          refine XW.iload_n 67 dX4_lightest_66 rfl rfl ?_
          refine XW.istore_n 68 (L' := [some (.ref 53), some (.int ((nxF (fun i => bitB fit (nI i)) (fun i => lightC (nR (Z.2.1 54)) (3 * i)) i).1)), some (.int (nI i)), some (.int 1)]) dX4_lightest_67 (by decide) rfl rfl rfl ?_
          refine XW.iinc 71 (y := nI (i + 1)) (L' := [some (.ref 53), some (.int ((nxF (fun i => bitB fit (nI i)) (fun i => lightC (nR (Z.2.1 54)) (3 * i)) i).1)), some (.int (nI (i + 1))), some (.int 1)]) dX4_lightest_68 rfl (na rfl rfl) (by decide) rfl rfl rfl ?_
          refine XW.goto 4 dX4_lightest_71 (by decide) ?_
          refine XW.weak [true, true, true, false] (L' := [some (.ref 53), some (.int ((nxF (fun i => bitB fit (nI i)) (fun i => lightC (nR (Z.2.1 54)) (3 * i)) i).1)), some (.int (nI (i + 1))), none]) rfl ?_
          refine XW.eqs (L' := [some (.ref 53), some (.int ((nxF (fun i => bitB fit (nI i)) (fun i => lightC (nR (Z.2.1 54)) (3 * i)) (i + 1)).1)), some (.int (nI (i + 1))), none]) (by rw [nxF_n (may := (fun i => bitB fit (nI i))) (by rw [c_55]; decide)]) rfl rfl ?_
          exact ih (i + 1) (by omega) (by omega)
        · skip
          refine XW.iload_n 59 dX4_lightest_58 rfl rfl ?_
          refine XW.if_eq 66 62 dX4_lightest_59 (by decide) rfl (fun c_59 => ?_) (fun c_59 => ?_)
          · exact absurd c_59 (by decide)
          · refine XW.iload_n 63 dX4_lightest_62 rfl rfl ?_
            refine XW.goto 67 dX4_lightest_63 (by decide) ?_
            refine XW.istore_n 68 (L' := [some (.ref 53), some (.int (nI i)), some (.int (nI i)), some (.int 1)]) dX4_lightest_67 (by decide) rfl rfl rfl ?_
            refine XW.iinc 71 (y := nI (i + 1)) (L' := [some (.ref 53), some (.int (nI i)), some (.int (nI (i + 1))), some (.int 1)]) dX4_lightest_68 rfl (na rfl rfl) (by decide) rfl rfl rfl ?_
            refine XW.goto 4 dX4_lightest_71 (by decide) ?_
            refine XW.weak [true, true, true, false] (L' := [some (.ref 53), some (.int (nI i)), some (.int (nI (i + 1))), none]) rfl ?_
            refine XW.eqs (L' := [some (.ref 53), some (.int ((nxF (fun i => bitB fit (nI i)) (fun i => lightC (nR (Z.2.1 54)) (3 * i)) (i + 1)).1)), some (.int (nI (i + 1))), none]) (by rw [nxF_t (may := (fun i => bitB fit (nI i))) (rank := (fun i => lightC (nR (Z.2.1 54)) (3 * i))) c_55 (by first | exact Or.inl c_16 | exact Or.inr (by rw [hj2]; exact c_38))]) rfl rfl ?_
            exact ih (i + 1) (by omega) (by omega)
      · obtain ⟨j, j1, hj, hj2⟩ := (nxF_at (may := (fun i => bitB fit (nI i))) (rank := (fun i => lightC (nR (Z.2.1 54)) (3 * i))) i).resolve_left c_16
        refine XW.aload_n 20 dX4_lightest_19 rfl rfl ?_
        refine XW.aload_n 21 dX4_lightest_20 rfl rfl ?_
        refine XW.iload_n 22 dX4_lightest_21 rfl rfl ?_
        refine XW.callV 25 (vs := [.int (nI i)]) (rest := [.ref 53]) (mcr := 0) (msr := 0) c4_57 dX4_lightest_22 rfl rfl (by decide) (Nat.le_of_ble_eq_true rfl) rfl rfl (Nat.le_of_ble_eq_true rfl) rfl (k_colourAt _) (fun r h1 hq => ?_)
        obtain ⟨rfl, rfl⟩ := hq
        refine XW.callV 28 (vs := [.int (1 + 3 * (nI i))]) (rest := []) (mcr := 0) (msr := 0) c4_104 dX4_lightest_25 rfl rfl (by decide) (Nat.le_of_ble_eq_true rfl) rfl rfl (Nat.le_of_ble_eq_true rfl) rfl (k_shine2 mi (i := i) (na (m := 1) rfl (nm (m := 3) rfl rfl)) (by omega)) (fun r h1 hq => ?_)
        obtain ⟨rfl, rfl⟩ := hq
        refine XW.aload_n 29 dX4_lightest_28 rfl rfl ?_
        refine XW.aload_n 30 dX4_lightest_29 rfl rfl ?_
        refine XW.iload_n 31 dX4_lightest_30 rfl rfl ?_
        refine XW.callV 34 (vs := [.int ((nxF (fun i => bitB fit (nI i)) (fun i => lightC (nR (Z.2.1 54)) (3 * i)) i).1)]) (rest := [.ref 53, .float (lightC (nR (Z.2.1 54)) (3 * i))]) (mcr := 0) (msr := 0) c4_57 dX4_lightest_31 rfl rfl (by decide) (Nat.le_of_ble_eq_true rfl) rfl rfl (Nat.le_of_ble_eq_true rfl) rfl (k_colourAt _) (fun r h1 hq => ?_)
        obtain ⟨rfl, rfl⟩ := hq
        refine XW.callV 37 (vs := [.int (1 + 3 * ((nxF (fun i => bitB fit (nI i)) (fun i => lightC (nR (Z.2.1 54)) (3 * i)) i).1))]) (rest := [.float (lightC (nR (Z.2.1 54)) (3 * i))]) (mcr := 0) (msr := 0) c4_104 dX4_lightest_34 rfl rfl (by decide) (Nat.le_of_ble_eq_true rfl) rfl rfl (Nat.le_of_ble_eq_true rfl) rfl (k_shine2 mi (i := j) (na (m := 1) rfl (nm (m := 3) rfl hj)) (by omega)) (fun r h1 hq => ?_)
        obtain ⟨rfl, rfl⟩ := hq
        refine XW.fcmpU 38 dX4_lightest_37 ((ok_light okc (by omega)).2) ((ok_light okc (by omega)).2) rfl ?_
        refine XW.if_leU 45 41 dX4_lightest_38 (by decide) rfl (fun c_38 => ?_) (fun c_38 => ?_)
        · refine XW.iconst 46 dX4_lightest_45 (v := 0) (by decide) rfl ?_
          refine XW.istore_n 47 (L' := [some (.ref 53), some (.int ((nxF (fun i => bitB fit (nI i)) (fun i => lightC (nR (Z.2.1 54)) (3 * i)) i).1)), some (.int (nI i)), some (.int 0)]) dX4_lightest_46 (by decide) rfl rfl rfl ?_
          refine XW.aload_n 48 dX4_lightest_47 rfl rfl ?_
          refine XW.getf 51 (v := .int (Z.1 53 8)) f4_133 dX4_lightest_48 rfl rfl rfl ?_
          refine XW.iload_n 52 dX4_lightest_51 rfl rfl ?_
          refine XW.callS 55 (vs := [.int (Z.1 53 8), .int (nI i)]) (rest := []) (mcr := 0) (msr := 0) c4_136 dX4_lightest_52 rfl (by decide) (Nat.le_of_ble_eq_true rfl) rfl rfl (Nat.le_of_ble_eq_true rfl) rfl (k_has _ _ _) (fun r h1 hq => ?_)
          obtain ⟨rfl, rfl⟩ := hq
          refine XW.eqs (st' := [.int (b2i (bitB fit (nI i)))]) rfl (by rw [← hfit]; rfl) rfl ?_
          refine XW.if_eqB 66 58 dX4_lightest_55 (by decide) rfl (fun c_55 => ?_) (fun c_55 => ?_)
          · skip
            refine XW.iload_n 67 dX4_lightest_66 rfl rfl ?_
            refine XW.istore_n 68 (L' := [some (.ref 53), some (.int ((nxF (fun i => bitB fit (nI i)) (fun i => lightC (nR (Z.2.1 54)) (3 * i)) i).1)), some (.int (nI i)), some (.int 0)]) dX4_lightest_67 (by decide) rfl rfl rfl ?_
            refine XW.iinc 71 (y := nI (i + 1)) (L' := [some (.ref 53), some (.int ((nxF (fun i => bitB fit (nI i)) (fun i => lightC (nR (Z.2.1 54)) (3 * i)) i).1)), some (.int (nI (i + 1))), some (.int 0)]) dX4_lightest_68 rfl (na rfl rfl) (by decide) rfl rfl rfl ?_
            refine XW.goto 4 dX4_lightest_71 (by decide) ?_
            refine XW.weak [true, true, true, false] (L' := [some (.ref 53), some (.int ((nxF (fun i => bitB fit (nI i)) (fun i => lightC (nR (Z.2.1 54)) (3 * i)) i).1)), some (.int (nI (i + 1))), none]) rfl ?_
            refine XW.eqs (L' := [some (.ref 53), some (.int ((nxF (fun i => bitB fit (nI i)) (fun i => lightC (nR (Z.2.1 54)) (3 * i)) (i + 1)).1)), some (.int (nI (i + 1))), none]) (by rw [nxF_n (may := (fun i => bitB fit (nI i))) (by rw [c_55]; decide)]) rfl rfl ?_
            exact ih (i + 1) (by omega) (by omega)
          · skip
            refine XW.iload_n 59 dX4_lightest_58 rfl rfl ?_
            refine XW.if_eq 66 62 dX4_lightest_59 (by decide) rfl (fun c_59 => ?_) (fun c_59 => ?_)
            · refine XW.iload_n 67 dX4_lightest_66 rfl rfl ?_
              refine XW.istore_n 68 (L' := [some (.ref 53), some (.int ((nxF (fun i => bitB fit (nI i)) (fun i => lightC (nR (Z.2.1 54)) (3 * i)) i).1)), some (.int (nI i)), some (.int 0)]) dX4_lightest_67 (by decide) rfl rfl rfl ?_
              refine XW.iinc 71 (y := nI (i + 1)) (L' := [some (.ref 53), some (.int ((nxF (fun i => bitB fit (nI i)) (fun i => lightC (nR (Z.2.1 54)) (3 * i)) i).1)), some (.int (nI (i + 1))), some (.int 0)]) dX4_lightest_68 rfl (na rfl rfl) (by decide) rfl rfl rfl ?_
              refine XW.goto 4 dX4_lightest_71 (by decide) ?_
              refine XW.weak [true, true, true, false] (L' := [some (.ref 53), some (.int ((nxF (fun i => bitB fit (nI i)) (fun i => lightC (nR (Z.2.1 54)) (3 * i)) i).1)), some (.int (nI (i + 1))), none]) rfl ?_
              refine XW.eqs (L' := [some (.ref 53), some (.int ((nxF (fun i => bitB fit (nI i)) (fun i => lightC (nR (Z.2.1 54)) (3 * i)) (i + 1)).1)), some (.int (nI (i + 1))), none]) (by rw [nxF_f (may := (fun i => bitB fit (nI i))) (rank := (fun i => lightC (nR (Z.2.1 54)) (3 * i))) c_16 (by rw [hj2]; exact c_38)]) rfl rfl ?_
              exact ih (i + 1) (by omega) (by omega)
            · exact absurd c_59 (by decide)
        · refine XW.iconst 42 dX4_lightest_41 (v := 1) (by decide) rfl ?_
          refine XW.goto 46 dX4_lightest_42 (by decide) ?_
          refine XW.istore_n 47 (L' := [some (.ref 53), some (.int ((nxF (fun i => bitB fit (nI i)) (fun i => lightC (nR (Z.2.1 54)) (3 * i)) i).1)), some (.int (nI i)), some (.int 1)]) dX4_lightest_46 (by decide) rfl rfl rfl ?_
          refine XW.aload_n 48 dX4_lightest_47 rfl rfl ?_
          refine XW.getf 51 (v := .int (Z.1 53 8)) f4_133 dX4_lightest_48 rfl rfl rfl ?_
          refine XW.iload_n 52 dX4_lightest_51 rfl rfl ?_
          refine XW.callS 55 (vs := [.int (Z.1 53 8), .int (nI i)]) (rest := []) (mcr := 0) (msr := 0) c4_136 dX4_lightest_52 rfl (by decide) (Nat.le_of_ble_eq_true rfl) rfl rfl (Nat.le_of_ble_eq_true rfl) rfl (k_has _ _ _) (fun r h1 hq => ?_)
          obtain ⟨rfl, rfl⟩ := hq
          refine XW.eqs (st' := [.int (b2i (bitB fit (nI i)))]) rfl (by rw [← hfit]; rfl) rfl ?_
          refine XW.if_eqB 66 58 dX4_lightest_55 (by decide) rfl (fun c_55 => ?_) (fun c_55 => ?_)
          · skip
            refine XW.iload_n 67 dX4_lightest_66 rfl rfl ?_
            refine XW.istore_n 68 (L' := [some (.ref 53), some (.int ((nxF (fun i => bitB fit (nI i)) (fun i => lightC (nR (Z.2.1 54)) (3 * i)) i).1)), some (.int (nI i)), some (.int 1)]) dX4_lightest_67 (by decide) rfl rfl rfl ?_
            refine XW.iinc 71 (y := nI (i + 1)) (L' := [some (.ref 53), some (.int ((nxF (fun i => bitB fit (nI i)) (fun i => lightC (nR (Z.2.1 54)) (3 * i)) i).1)), some (.int (nI (i + 1))), some (.int 1)]) dX4_lightest_68 rfl (na rfl rfl) (by decide) rfl rfl rfl ?_
            refine XW.goto 4 dX4_lightest_71 (by decide) ?_
            refine XW.weak [true, true, true, false] (L' := [some (.ref 53), some (.int ((nxF (fun i => bitB fit (nI i)) (fun i => lightC (nR (Z.2.1 54)) (3 * i)) i).1)), some (.int (nI (i + 1))), none]) rfl ?_
            refine XW.eqs (L' := [some (.ref 53), some (.int ((nxF (fun i => bitB fit (nI i)) (fun i => lightC (nR (Z.2.1 54)) (3 * i)) (i + 1)).1)), some (.int (nI (i + 1))), none]) (by rw [nxF_n (may := (fun i => bitB fit (nI i))) (by rw [c_55]; decide)]) rfl rfl ?_
            exact ih (i + 1) (by omega) (by omega)
          · skip
            refine XW.iload_n 59 dX4_lightest_58 rfl rfl ?_
            refine XW.if_eq 66 62 dX4_lightest_59 (by decide) rfl (fun c_59 => ?_) (fun c_59 => ?_)
            · exact absurd c_59 (by decide)
            · refine XW.iload_n 63 dX4_lightest_62 rfl rfl ?_
              refine XW.goto 67 dX4_lightest_63 (by decide) ?_
              refine XW.istore_n 68 (L' := [some (.ref 53), some (.int (nI i)), some (.int (nI i)), some (.int 1)]) dX4_lightest_67 (by decide) rfl rfl rfl ?_
              refine XW.iinc 71 (y := nI (i + 1)) (L' := [some (.ref 53), some (.int (nI i)), some (.int (nI (i + 1))), some (.int 1)]) dX4_lightest_68 rfl (na rfl rfl) (by decide) rfl rfl rfl ?_
              refine XW.goto 4 dX4_lightest_71 (by decide) ?_
              refine XW.weak [true, true, true, false] (L' := [some (.ref 53), some (.int (nI i)), some (.int (nI (i + 1))), none]) rfl ?_
              refine XW.eqs (L' := [some (.ref 53), some (.int ((nxF (fun i => bitB fit (nI i)) (fun i => lightC (nR (Z.2.1 54)) (3 * i)) (i + 1)).1)), some (.int (nI (i + 1))), none]) (by rw [nxF_t (may := (fun i => bitB fit (nI i))) (rank := (fun i => lightC (nR (Z.2.1 54)) (3 * i))) c_55 (by first | exact Or.inl c_16 | exact Or.inr (by rw [hj2]; exact c_38))]) rfl rfl ?_
              exact ih (i + 1) (by omega) (by omega)
set_option maxHeartbeats 400000 in
set_option maxRecDepth 100000 in
theorem k_lightest {Z : xZ} {c l : Nat} (mi : MI (Z.2.1 54) c l) {fit : Int32} (hfit : Z.1 53 8 = fit) : XC mX4_lightest 1 0 0 [.ref 53] (HP Z) (fun r h' => r = some (.int (nxF (fun i => bitB fit (nI i)) (fun i => lightC (nR (Z.2.1 54)) (3 * i)) c).1) ∧ h' = HP Z) := by
  show XW mX4_lightest 1 0 0 0 [some (.ref 53), none, none, none] [] (HP Z) _
  obtain ⟨hc, c20, hl, l8, ok, hf, hdi, hfb⟩ := id mi
  refine XW.iconst 1 dX4_lightest_0 (v := -1) (by decide) rfl ?_
  refine XW.istore_n 2 (L' := [some (.ref 53), some (.int (-1)), none, none]) dX4_lightest_1 (by decide) rfl rfl rfl ?_
  refine XW.iconst 3 dX4_lightest_2 (v := 0) (by decide) rfl ?_
  refine XW.istore_n 4 (L' := [some (.ref 53), some (.int (-1)), some (.int 0), none]) dX4_lightest_3 (by decide) rfl rfl rfl ?_
  refine XW.eqs (L' := [some (.ref 53), some (.int ((nxF (fun i => bitB fit (nI i)) (fun i => lightC (nR (Z.2.1 54)) (3 * i)) 0).1)), some (.int (nI 0)), none]) (by rfl) rfl rfl ?_
  exact l_klightest mi hfit (c + 1) 0 (by omega) (by omega)
set_option maxHeartbeats 400000 in
set_option maxRecDepth 100000 in
theorem l_knear {Z : xZ} {c l : Nat} (mi : MI (Z.2.1 54) c l) {x : Int32} {i : Nat} (hx : x = nI i) (ic : i < c) (hni : ∀ p, p < l → i ≠ rv (mP (Z.2.1 54)) p) (l1 : 1 ≤ l) (hG : gapOK (Z.2.2.1 59) (nE (Z.2.1 54)) (nR (Z.2.1 54)) c) : ∀ (n : Nat) (t : Nat), t + 1 ≤ l → l < t + 1 + n → XW mX4_nearestIn 0 0 0 20 [some (.ref 53), some (.int x), some (.float (grF (apG (nE (Z.2.1 54)) (nR (Z.2.1 54))) (rv (mP (Z.2.1 54))) i t)), some (.int (nI (t + 1))), none] [] (HP Z) (fun r h' => r = some (.float (grF (apG (nE (Z.2.1 54)) (nR (Z.2.1 54))) (rv (mP (Z.2.1 54))) i (l - 1))) ∧ h' = HP Z) := by
  intro n
  induction n with
  | zero => intro t g0 g1; omega
  | succ n ih =>
    intro t g0 g1
    obtain ⟨hc, c20, hl, l8, ok, hf, hdi, hfb⟩ := id mi
    have okc := ok_cut ok
    refine XW.iload_n 21 dX4_nearestIn_20 rfl rfl ?_
    refine XW.aload_n 22 dX4_nearestIn_21 rfl rfl ?_
    refine XW.getf 25 (v := .ref 54) f4_7 dX4_nearestIn_22 rfl rfl rfl ?_
    refine XW.bipush 27 dX4_nearestIn_25 (v := 120) (by decide) rfl ?_
    refine XW.iald 28 120 dX4_nearestIn_27 rfl rfl (by omega) (by decide) rfl ?_
    refine XW.icmp_geN 72 31 (t + 1) l dX4_nearestIn_28 (by decide) rfl rfl hl (by omega) (by omega) (fun c_28 => ?_) (fun c_28 => ?_)
    · refine XW.fload_n 73 dX4_nearestIn_72 rfl rfl ?_
      exact XW.fret dX4_nearestIn_73 trivial (⟨by rw [show l - 1 = t by omega], rfl⟩)
    · have b1 := (hf (t + 1) (by omega)).2
      have b4 := hG _ _ ic b1 (hni (t + 1) (by omega))
      have b5 : NF (Z.2.2.1 59 (20 * i + rv (mP (Z.2.1 54)) (t + 1))) := by rw [b4]; exact apG_NF okc (by omega) (by omega)
      refine XW.aload_n 32 dX4_nearestIn_31 rfl rfl ?_
      refine XW.getf 35 (v := .ref 59) f4_25 dX4_nearestIn_32 rfl rfl rfl ?_
      refine XW.bipush 37 dX4_nearestIn_35 (v := 20) (by decide) rfl ?_
      refine XW.iload_n 38 dX4_nearestIn_37 rfl rfl ?_
      refine XW.imul 39 dX4_nearestIn_38 rfl ?_
      refine XW.aload_n 40 dX4_nearestIn_39 rfl rfl ?_
      refine XW.getf 43 (v := .ref 54) f4_7 dX4_nearestIn_40 rfl rfl rfl ?_
      refine XW.bipush 45 dX4_nearestIn_43 (v := 121) (by decide) rfl ?_
      refine XW.iload_n 46 dX4_nearestIn_45 rfl rfl ?_
      refine XW.iadd 47 dX4_nearestIn_46 rfl ?_
      refine XW.iald 48 (121 + (t + 1)) dX4_nearestIn_47 rfl (na rfl rfl) (by omega) (by decide) rfl ?_
      refine XW.iadd 49 dX4_nearestIn_48 rfl ?_
      refine XW.fald 50 ((20 * i) + (rv (mP (Z.2.1 54)) (t + 1))) dX4_nearestIn_49 rfl (na (nm rfl hx) (hf (t + 1) (by omega)).1) (by omega) (by decide) rfl ?_
      refine XW.fstore 52 (L' := [some (.ref 53), some (.int x), some (.float (grF (apG (nE (Z.2.1 54)) (nR (Z.2.1 54))) (rv (mP (Z.2.1 54))) i t)), some (.int (nI (t + 1))), some (.float (Z.2.2.1 59 ((20 * i) + (rv (mP (Z.2.1 54)) (t + 1)))))]) dX4_nearestIn_50 (by decide) rfl rfl rfl ?_
      refine XW.fload 54 dX4_nearestIn_52 rfl rfl ?_
      refine XW.fload_n 55 dX4_nearestIn_54 rfl rfl ?_
      refine XW.fcmpU 56 dX4_nearestIn_55 b5 (grF_NF t (fun k hk => apG_NF okc (by omega) (by have := (hf k (by omega)).2; omega))) rfl ?_
      refine XW.if_geU 64 59 dX4_nearestIn_56 (by decide) rfl (fun c_56 => ?_) (fun c_56 => ?_)
      · refine XW.fload_n 65 dX4_nearestIn_64 rfl rfl ?_
        refine XW.fstore_n 66 (L' := [some (.ref 53), some (.int x), some (.float (grF (apG (nE (Z.2.1 54)) (nR (Z.2.1 54))) (rv (mP (Z.2.1 54))) i t)), some (.int (nI (t + 1))), some (.float (Z.2.2.1 59 ((20 * i) + (rv (mP (Z.2.1 54)) (t + 1)))))]) dX4_nearestIn_65 (by decide) rfl rfl rfl ?_
        refine XW.iinc 69 (y := nI (t + 1 + 1)) (L' := [some (.ref 53), some (.int x), some (.float (grF (apG (nE (Z.2.1 54)) (nR (Z.2.1 54))) (rv (mP (Z.2.1 54))) i t)), some (.int (nI (t + 1 + 1))), some (.float (Z.2.2.1 59 ((20 * i) + (rv (mP (Z.2.1 54)) (t + 1)))))]) dX4_nearestIn_66 rfl (na rfl rfl) (by decide) rfl rfl rfl ?_
        refine XW.goto 20 dX4_nearestIn_69 (by decide) ?_
        refine XW.weak [true, true, true, true, false] (L' := [some (.ref 53), some (.int x), some (.float (grF (apG (nE (Z.2.1 54)) (nR (Z.2.1 54))) (rv (mP (Z.2.1 54))) i t)), some (.int (nI (t + 1 + 1))), none]) rfl ?_
        refine XW.eqs (L' := [some (.ref 53), some (.int x), some (.float (grF (apG (nE (Z.2.1 54)) (nR (Z.2.1 54))) (rv (mP (Z.2.1 54))) i (t + 1))), some (.int (nI ((t + 1) + 1))), none]) (by rw [show grF (apG (nE (Z.2.1 54)) (nR (Z.2.1 54))) (rv (mP (Z.2.1 54))) i (t + 1) = minU (grF (apG (nE (Z.2.1 54)) (nR (Z.2.1 54))) (rv (mP (Z.2.1 54))) i t) ((apG (nE (Z.2.1 54)) (nR (Z.2.1 54))) i (rv (mP (Z.2.1 54)) (t + 1))) from rfl, minU_f (b4 ▸ c_56)]) rfl rfl ?_
        exact ih (t + 1) (by omega) (by omega)
      · refine XW.fload 61 dX4_nearestIn_59 rfl rfl ?_
        refine XW.goto 65 dX4_nearestIn_61 (by decide) ?_
        refine XW.fstore_n 66 (L' := [some (.ref 53), some (.int x), some (.float (Z.2.2.1 59 ((20 * i) + (rv (mP (Z.2.1 54)) (t + 1))))), some (.int (nI (t + 1))), some (.float (Z.2.2.1 59 ((20 * i) + (rv (mP (Z.2.1 54)) (t + 1)))))]) dX4_nearestIn_65 (by decide) rfl rfl rfl ?_
        refine XW.iinc 69 (y := nI (t + 1 + 1)) (L' := [some (.ref 53), some (.int x), some (.float (Z.2.2.1 59 ((20 * i) + (rv (mP (Z.2.1 54)) (t + 1))))), some (.int (nI (t + 1 + 1))), some (.float (Z.2.2.1 59 ((20 * i) + (rv (mP (Z.2.1 54)) (t + 1)))))]) dX4_nearestIn_66 rfl (na rfl rfl) (by decide) rfl rfl rfl ?_
        refine XW.goto 20 dX4_nearestIn_69 (by decide) ?_
        refine XW.weak [true, true, true, true, false] (L' := [some (.ref 53), some (.int x), some (.float (Z.2.2.1 59 ((20 * i) + (rv (mP (Z.2.1 54)) (t + 1))))), some (.int (nI (t + 1 + 1))), none]) rfl ?_
        refine XW.eqs (L' := [some (.ref 53), some (.int x), some (.float (grF (apG (nE (Z.2.1 54)) (nR (Z.2.1 54))) (rv (mP (Z.2.1 54))) i (t + 1))), some (.int (nI ((t + 1) + 1))), none]) (by rw [show grF (apG (nE (Z.2.1 54)) (nR (Z.2.1 54))) (rv (mP (Z.2.1 54))) i (t + 1) = minU (grF (apG (nE (Z.2.1 54)) (nR (Z.2.1 54))) (rv (mP (Z.2.1 54))) i t) ((apG (nE (Z.2.1 54)) (nR (Z.2.1 54))) i (rv (mP (Z.2.1 54)) (t + 1))) from rfl, minU_t (b4 ▸ c_56), ← b4]) rfl rfl ?_
        exact ih (t + 1) (by omega) (by omega)
set_option maxHeartbeats 400000 in
set_option maxRecDepth 100000 in
theorem k_nearestIn {Z : xZ} {c l : Nat} (mi : MI (Z.2.1 54) c l) {x : Int32} {i : Nat} (hx : x = nI i) (ic : i < c) (hni : ∀ p, p < l → i ≠ rv (mP (Z.2.1 54)) p) (l1 : 1 ≤ l) (hG : gapOK (Z.2.2.1 59) (nE (Z.2.1 54)) (nR (Z.2.1 54)) c) : XC mX4_nearestIn 0 0 0 [.ref 53, .int x] (HP Z) (fun r h' => r = some (.float (grF (apG (nE (Z.2.1 54)) (nR (Z.2.1 54))) (rv (mP (Z.2.1 54))) i (l - 1))) ∧ h' = HP Z) := by
  show XW mX4_nearestIn 0 0 0 0 [some (.ref 53), some (.int x), none, none, none] [] (HP Z) _
  obtain ⟨hc, c20, hl, l8, ok, hf, hdi, hfb⟩ := id mi
  have okc := ok_cut ok
  have b1 := (hf (0) (by omega)).2
  have b4 := hG _ _ ic b1 (hni (0) (by omega))
  have b5 : NF (Z.2.2.1 59 (20 * i + rv (mP (Z.2.1 54)) (0))) := by rw [b4]; exact apG_NF okc (by omega) (by omega)
  refine XW.aload_n 1 dX4_nearestIn_0 rfl rfl ?_
  refine XW.getf 4 (v := .ref 59) f4_25 dX4_nearestIn_1 rfl rfl rfl ?_
  refine XW.bipush 6 dX4_nearestIn_4 (v := 20) (by decide) rfl ?_
  refine XW.iload_n 7 dX4_nearestIn_6 rfl rfl ?_
  refine XW.imul 8 dX4_nearestIn_7 rfl ?_
  refine XW.aload_n 9 dX4_nearestIn_8 rfl rfl ?_
  refine XW.getf 12 (v := .ref 54) f4_7 dX4_nearestIn_9 rfl rfl rfl ?_
  refine XW.bipush 14 dX4_nearestIn_12 (v := 121) (by decide) rfl ?_
  refine XW.iald 15 121 dX4_nearestIn_14 rfl rfl (by omega) (by decide) rfl ?_
  refine XW.iadd 16 dX4_nearestIn_15 rfl ?_
  refine XW.fald 17 ((20 * i) + (rv (mP (Z.2.1 54)) 0)) dX4_nearestIn_16 rfl (na (nm rfl hx) (hf 0 (by omega)).1) (by omega) (by decide) rfl ?_
  refine XW.fstore_n 18 (L' := [some (.ref 53), some (.int x), some (.float (Z.2.2.1 59 ((20 * i) + (rv (mP (Z.2.1 54)) 0)))), none, none]) dX4_nearestIn_17 (by decide) rfl rfl rfl ?_
  refine XW.iconst 19 dX4_nearestIn_18 (v := 1) (by decide) rfl ?_
  refine XW.istore_n 20 (L' := [some (.ref 53), some (.int x), some (.float (Z.2.2.1 59 ((20 * i) + (rv (mP (Z.2.1 54)) 0)))), some (.int 1), none]) dX4_nearestIn_19 (by decide) rfl rfl rfl ?_
  refine XW.eqs (L' := [some (.ref 53), some (.int x), some (.float (grF (apG (nE (Z.2.1 54)) (nR (Z.2.1 54))) (rv (mP (Z.2.1 54))) i 0)), some (.int (nI (0 + 1))), none]) (by rw [b4]; rfl) rfl rfl ?_
  exact l_knear mi hx ic hni l1 hG (l + 1) 0 (by omega) (by omega)
set_option maxHeartbeats 400000 in
set_option maxRecDepth 100000 in
theorem l_kfarthest {Z : xZ} {c l : Nat} (mi : MI (Z.2.1 54) c l) {fit : Int32} (hfit : Z.1 53 8 = fit) (l1 : 1 ≤ l) (hG : gapOK (Z.2.2.1 59) (nE (Z.2.1 54)) (nR (Z.2.1 54)) c) : ∀ (n : Nat) (i : Nat), i ≤ c → c < i + n → XW mX4_farthest 1 0 0 6 [some (.ref 53), some (.int ((nxF (fun i => bitB (fit &&& (rbF (mP (Z.2.1 54)) l ^^^ (-1))) (nI i)) (rkF (apG (nE (Z.2.1 54)) (nR (Z.2.1 54))) (nR (Z.2.1 54)) (rv (mP (Z.2.1 54))) l) i).1)), some (.float ((nxF (fun i => bitB (fit &&& (rbF (mP (Z.2.1 54)) l ^^^ (-1))) (nI i)) (rkF (apG (nE (Z.2.1 54)) (nR (Z.2.1 54))) (nR (Z.2.1 54)) (rv (mP (Z.2.1 54))) l) i).2)), some (.int (nI i)), none] [] (HP Z) (fun r h' => r = some (.int (nxS (apG (nE (Z.2.1 54)) (nR (Z.2.1 54))) (nR (Z.2.1 54)) fit c ((mP (Z.2.1 54)), l))) ∧ h' = HP Z) := by
  intro n
  induction n with
  | zero => intro i g0 g1; omega
  | succ n ih =>
    intro i g0 g1
    obtain ⟨hc, c20, hl, l8, ok, hf, hdi, hfb⟩ := id mi
    have okc := ok_cut ok
    refine XW.iload_n 7 dX4_farthest_6 rfl rfl ?_
    refine XW.aload_n 8 dX4_farthest_7 rfl rfl ?_
    refine XW.getf 11 (v := .ref 54) f4_7 dX4_farthest_8 rfl rfl rfl ?_
    refine XW.iconst 12 dX4_farthest_11 (v := 0) (by decide) rfl ?_
    refine XW.iald 13 0 dX4_farthest_12 rfl rfl (by omega) (by decide) rfl ?_
    refine XW.icmp_geN 66 16 i c dX4_farthest_13 (by decide) rfl rfl hc (by omega) (by omega) (fun c_13 => ?_) (fun c_13 => ?_)
    · refine XW.iload_n 67 dX4_farthest_66 rfl rfl ?_
      exact XW.iret dX4_farthest_67 rfl (⟨by rw [show i = c by omega]; rfl, rfl⟩)
    · refine XW.aload_n 17 dX4_farthest_16 rfl rfl ?_
      refine XW.getf 20 (v := .int (Z.1 53 8)) f4_133 dX4_farthest_17 rfl rfl rfl ?_
      refine XW.iload_n 21 dX4_farthest_20 rfl rfl ?_
      refine XW.callS 24 (vs := [.int (Z.1 53 8), .int (nI i)]) (rest := []) (mcr := 0) (msr := 0) c4_136 dX4_farthest_21 rfl (by decide) (Nat.le_of_ble_eq_true rfl) rfl rfl (Nat.le_of_ble_eq_true rfl) rfl (k_has _ _ _) (fun r h1 hq => ?_)
      obtain ⟨rfl, rfl⟩ := hq
      refine XW.eqs (st' := [.int (b2i (bitB fit (nI i)))]) rfl (by rw [← hfit]; rfl) rfl ?_
      refine XW.if_eqB 60 27 dX4_farthest_24 (by decide) rfl (fun c_24 => ?_) (fun c_24 => ?_)
      · have c0 : ¬ (fun i => bitB (fit &&& (rbF (mP (Z.2.1 54)) l ^^^ (-1))) (nI i)) i = true := fun q => by have := ((may_iff hf (by omega) (by omega)).mp q).1; rw [← bitB_bt (by omega), c_24] at this; cases this
        refine XW.iinc 63 (y := nI (i + 1)) (L' := [some (.ref 53), some (.int ((nxF (fun i => bitB (fit &&& (rbF (mP (Z.2.1 54)) l ^^^ (-1))) (nI i)) (rkF (apG (nE (Z.2.1 54)) (nR (Z.2.1 54))) (nR (Z.2.1 54)) (rv (mP (Z.2.1 54))) l) i).1)), some (.float ((nxF (fun i => bitB (fit &&& (rbF (mP (Z.2.1 54)) l ^^^ (-1))) (nI i)) (rkF (apG (nE (Z.2.1 54)) (nR (Z.2.1 54))) (nR (Z.2.1 54)) (rv (mP (Z.2.1 54))) l) i).2)), some (.int (nI (i + 1))), none]) dX4_farthest_60 rfl (na rfl rfl) (by decide) rfl rfl rfl ?_
        refine XW.goto 6 dX4_farthest_63 (by decide) ?_
        refine XW.eqs (L' := [some (.ref 53), some (.int ((nxF (fun i => bitB (fit &&& (rbF (mP (Z.2.1 54)) l ^^^ (-1))) (nI i)) (rkF (apG (nE (Z.2.1 54)) (nR (Z.2.1 54))) (nR (Z.2.1 54)) (rv (mP (Z.2.1 54))) l) (i + 1)).1)), some (.float ((nxF (fun i => bitB (fit &&& (rbF (mP (Z.2.1 54)) l ^^^ (-1))) (nI i)) (rkF (apG (nE (Z.2.1 54)) (nR (Z.2.1 54))) (nR (Z.2.1 54)) (rv (mP (Z.2.1 54))) l) (i + 1)).2)), some (.int (nI (i + 1))), none]) (by rw [nxF_n (may := (fun i => bitB (fit &&& (rbF (mP (Z.2.1 54)) l ^^^ (-1))) (nI i))) c0]) rfl rfl ?_
        exact ih (i + 1) (by omega) (by omega)
      · refine XW.aload_n 28 dX4_farthest_27 rfl rfl ?_
        refine XW.iload_n 29 dX4_farthest_28 rfl rfl ?_
        refine XW.callV 32 (vs := [.int (nI i)]) (rest := []) (mcr := 0) (msr := 0) c4_111 dX4_farthest_29 rfl rfl (by decide) (Nat.le_of_ble_eq_true rfl) rfl rfl (Nat.le_of_ble_eq_true rfl) rfl (k_placeOf mi _) (fun r h1 hq => ?_)
        obtain ⟨rfl, rfl⟩ := hq
        refine XW.iconst 33 dX4_farthest_32 (v := -1) (by decide) rfl ?_
        refine XW.icmp_ne 60 36 dX4_farthest_33 (by decide) rfl (fun c_33 => ?_) (fun c_33 => ?_)
        · have c0 : ¬ (fun i => bitB (fit &&& (rbF (mP (Z.2.1 54)) l ^^^ (-1))) (nI i)) i = true := fun q => c_33 ((pl_m1 hf l8 (by omega)).mpr ((may_iff hf (by omega) (by omega)).mp q).2)
          refine XW.iinc 63 (y := nI (i + 1)) (L' := [some (.ref 53), some (.int ((nxF (fun i => bitB (fit &&& (rbF (mP (Z.2.1 54)) l ^^^ (-1))) (nI i)) (rkF (apG (nE (Z.2.1 54)) (nR (Z.2.1 54))) (nR (Z.2.1 54)) (rv (mP (Z.2.1 54))) l) i).1)), some (.float ((nxF (fun i => bitB (fit &&& (rbF (mP (Z.2.1 54)) l ^^^ (-1))) (nI i)) (rkF (apG (nE (Z.2.1 54)) (nR (Z.2.1 54))) (nR (Z.2.1 54)) (rv (mP (Z.2.1 54))) l) i).2)), some (.int (nI (i + 1))), none]) dX4_farthest_60 rfl (na rfl rfl) (by decide) rfl rfl rfl ?_
          refine XW.goto 6 dX4_farthest_63 (by decide) ?_
          refine XW.eqs (L' := [some (.ref 53), some (.int ((nxF (fun i => bitB (fit &&& (rbF (mP (Z.2.1 54)) l ^^^ (-1))) (nI i)) (rkF (apG (nE (Z.2.1 54)) (nR (Z.2.1 54))) (nR (Z.2.1 54)) (rv (mP (Z.2.1 54))) l) (i + 1)).1)), some (.float ((nxF (fun i => bitB (fit &&& (rbF (mP (Z.2.1 54)) l ^^^ (-1))) (nI i)) (rkF (apG (nE (Z.2.1 54)) (nR (Z.2.1 54))) (nR (Z.2.1 54)) (rv (mP (Z.2.1 54))) l) (i + 1)).2)), some (.int (nI (i + 1))), none]) (by rw [nxF_n (may := (fun i => bitB (fit &&& (rbF (mP (Z.2.1 54)) l ^^^ (-1))) (nI i))) c0]) rfl rfl ?_
          exact ih (i + 1) (by omega) (by omega)
        · have c0 : (fun i => bitB (fit &&& (rbF (mP (Z.2.1 54)) l ^^^ (-1))) (nI i)) i = true := (may_iff hf (by omega) (by omega)).mpr ⟨by rw [← bitB_bt (by omega)]; exact c_24, (pl_m1 hf l8 (by omega)).mp c_33⟩
          have er : rkF (apG (nE (Z.2.1 54)) (nR (Z.2.1 54))) (nR (Z.2.1 54)) (rv (mP (Z.2.1 54))) l i = grF (apG (nE (Z.2.1 54)) (nR (Z.2.1 54))) (rv (mP (Z.2.1 54))) i (l - 1) := if_neg (by omega)
          refine XW.aload_n 37 dX4_farthest_36 rfl rfl ?_
          refine XW.iload_n 38 dX4_farthest_37 rfl rfl ?_
          refine XW.callV 41 (vs := [.int (nI i)]) (rest := []) (mcr := 0) (msr := 0) c4_139 dX4_farthest_38 rfl rfl (by decide) (Nat.le_of_ble_eq_true rfl) rfl rfl (Nat.le_of_ble_eq_true rfl) rfl (k_nearestIn mi (i := i) rfl (by omega) (fun p hp e => ((may_iff hf (by omega) (by omega)).mp c0).2 p hp e.symm) l1 hG) (fun r h1 hq => ?_)
          obtain ⟨rfl, rfl⟩ := hq
          refine XW.fstore 43 (L' := [some (.ref 53), some (.int ((nxF (fun i => bitB (fit &&& (rbF (mP (Z.2.1 54)) l ^^^ (-1))) (nI i)) (rkF (apG (nE (Z.2.1 54)) (nR (Z.2.1 54))) (nR (Z.2.1 54)) (rv (mP (Z.2.1 54))) l) i).1)), some (.float ((nxF (fun i => bitB (fit &&& (rbF (mP (Z.2.1 54)) l ^^^ (-1))) (nI i)) (rkF (apG (nE (Z.2.1 54)) (nR (Z.2.1 54))) (nR (Z.2.1 54)) (rv (mP (Z.2.1 54))) l) i).2)), some (.int (nI i)), some (.float (grF (apG (nE (Z.2.1 54)) (nR (Z.2.1 54))) (rv (mP (Z.2.1 54))) i (l - 1)))]) dX4_farthest_41 (by decide) rfl rfl rfl ?_
          refine XW.iload_n 44 dX4_farthest_43 rfl rfl ?_
          refine XW.iconst 45 dX4_farthest_44 (v := -1) (by decide) rfl ?_
          refine XW.icmp_eq 55 48 dX4_farthest_45 (by decide) rfl (fun c_45 => ?_) (fun c_45 => ?_)
          · refine XW.iload_n 56 dX4_farthest_55 rfl rfl ?_
            refine XW.istore_n 57 (L' := [some (.ref 53), some (.int (nI i)), some (.float ((nxF (fun i => bitB (fit &&& (rbF (mP (Z.2.1 54)) l ^^^ (-1))) (nI i)) (rkF (apG (nE (Z.2.1 54)) (nR (Z.2.1 54))) (nR (Z.2.1 54)) (rv (mP (Z.2.1 54))) l) i).2)), some (.int (nI i)), some (.float (grF (apG (nE (Z.2.1 54)) (nR (Z.2.1 54))) (rv (mP (Z.2.1 54))) i (l - 1)))]) dX4_farthest_56 (by decide) rfl rfl rfl ?_
            refine XW.fload 59 dX4_farthest_57 rfl rfl ?_
            refine XW.fstore_n 60 (L' := [some (.ref 53), some (.int (nI i)), some (.float (grF (apG (nE (Z.2.1 54)) (nR (Z.2.1 54))) (rv (mP (Z.2.1 54))) i (l - 1))), some (.int (nI i)), some (.float (grF (apG (nE (Z.2.1 54)) (nR (Z.2.1 54))) (rv (mP (Z.2.1 54))) i (l - 1)))]) dX4_farthest_59 (by decide) rfl rfl rfl ?_
            refine XW.iinc 63 (y := nI (i + 1)) (L' := [some (.ref 53), some (.int (nI i)), some (.float (grF (apG (nE (Z.2.1 54)) (nR (Z.2.1 54))) (rv (mP (Z.2.1 54))) i (l - 1))), some (.int (nI (i + 1))), some (.float (grF (apG (nE (Z.2.1 54)) (nR (Z.2.1 54))) (rv (mP (Z.2.1 54))) i (l - 1)))]) dX4_farthest_60 rfl (na rfl rfl) (by decide) rfl rfl rfl ?_
            refine XW.goto 6 dX4_farthest_63 (by decide) ?_
            refine XW.weak [true, true, true, true, false] (L' := [some (.ref 53), some (.int (nI i)), some (.float (grF (apG (nE (Z.2.1 54)) (nR (Z.2.1 54))) (rv (mP (Z.2.1 54))) i (l - 1))), some (.int (nI (i + 1))), none]) rfl ?_
            refine XW.eqs (L' := [some (.ref 53), some (.int ((nxF (fun i => bitB (fit &&& (rbF (mP (Z.2.1 54)) l ^^^ (-1))) (nI i)) (rkF (apG (nE (Z.2.1 54)) (nR (Z.2.1 54))) (nR (Z.2.1 54)) (rv (mP (Z.2.1 54))) l) (i + 1)).1)), some (.float ((nxF (fun i => bitB (fit &&& (rbF (mP (Z.2.1 54)) l ^^^ (-1))) (nI i)) (rkF (apG (nE (Z.2.1 54)) (nR (Z.2.1 54))) (nR (Z.2.1 54)) (rv (mP (Z.2.1 54))) l) (i + 1)).2)), some (.int (nI (i + 1))), none]) (by rw [nxF_t (may := (fun i => bitB (fit &&& (rbF (mP (Z.2.1 54)) l ^^^ (-1))) (nI i))) (rank := (rkF (apG (nE (Z.2.1 54)) (nR (Z.2.1 54))) (nR (Z.2.1 54)) (rv (mP (Z.2.1 54))) l)) c0 (by first | exact Or.inl c_45 | exact Or.inr (er ▸ c_52)), er]) rfl rfl ?_
            exact ih (i + 1) (by omega) (by omega)
          · refine XW.fload 50 dX4_farthest_48 rfl rfl ?_
            refine XW.fload_n 51 dX4_farthest_50 rfl rfl ?_
            refine XW.fcmpU 52 dX4_farthest_51 (er ▸ rkF_NF okc hf c20 (by omega)) (nxF_NF i (fun k hk _ => rkF_NF okc hf c20 (by omega))) rfl ?_
            refine XW.if_leU 60 55 dX4_farthest_52 (by decide) rfl (fun c_52 => ?_) (fun c_52 => ?_)
            · refine XW.iinc 63 (y := nI (i + 1)) (L' := [some (.ref 53), some (.int ((nxF (fun i => bitB (fit &&& (rbF (mP (Z.2.1 54)) l ^^^ (-1))) (nI i)) (rkF (apG (nE (Z.2.1 54)) (nR (Z.2.1 54))) (nR (Z.2.1 54)) (rv (mP (Z.2.1 54))) l) i).1)), some (.float ((nxF (fun i => bitB (fit &&& (rbF (mP (Z.2.1 54)) l ^^^ (-1))) (nI i)) (rkF (apG (nE (Z.2.1 54)) (nR (Z.2.1 54))) (nR (Z.2.1 54)) (rv (mP (Z.2.1 54))) l) i).2)), some (.int (nI (i + 1))), some (.float (grF (apG (nE (Z.2.1 54)) (nR (Z.2.1 54))) (rv (mP (Z.2.1 54))) i (l - 1)))]) dX4_farthest_60 rfl (na rfl rfl) (by decide) rfl rfl rfl ?_
              refine XW.goto 6 dX4_farthest_63 (by decide) ?_
              refine XW.weak [true, true, true, true, false] (L' := [some (.ref 53), some (.int ((nxF (fun i => bitB (fit &&& (rbF (mP (Z.2.1 54)) l ^^^ (-1))) (nI i)) (rkF (apG (nE (Z.2.1 54)) (nR (Z.2.1 54))) (nR (Z.2.1 54)) (rv (mP (Z.2.1 54))) l) i).1)), some (.float ((nxF (fun i => bitB (fit &&& (rbF (mP (Z.2.1 54)) l ^^^ (-1))) (nI i)) (rkF (apG (nE (Z.2.1 54)) (nR (Z.2.1 54))) (nR (Z.2.1 54)) (rv (mP (Z.2.1 54))) l) i).2)), some (.int (nI (i + 1))), none]) rfl ?_
              refine XW.eqs (L' := [some (.ref 53), some (.int ((nxF (fun i => bitB (fit &&& (rbF (mP (Z.2.1 54)) l ^^^ (-1))) (nI i)) (rkF (apG (nE (Z.2.1 54)) (nR (Z.2.1 54))) (nR (Z.2.1 54)) (rv (mP (Z.2.1 54))) l) (i + 1)).1)), some (.float ((nxF (fun i => bitB (fit &&& (rbF (mP (Z.2.1 54)) l ^^^ (-1))) (nI i)) (rkF (apG (nE (Z.2.1 54)) (nR (Z.2.1 54))) (nR (Z.2.1 54)) (rv (mP (Z.2.1 54))) l) (i + 1)).2)), some (.int (nI (i + 1))), none]) (by rw [nxF_f (may := (fun i => bitB (fit &&& (rbF (mP (Z.2.1 54)) l ^^^ (-1))) (nI i))) (rank := (rkF (apG (nE (Z.2.1 54)) (nR (Z.2.1 54))) (nR (Z.2.1 54)) (rv (mP (Z.2.1 54))) l)) c_45 (er ▸ c_52)]) rfl rfl ?_
              exact ih (i + 1) (by omega) (by omega)
            · refine XW.iload_n 56 dX4_farthest_55 rfl rfl ?_
              refine XW.istore_n 57 (L' := [some (.ref 53), some (.int (nI i)), some (.float ((nxF (fun i => bitB (fit &&& (rbF (mP (Z.2.1 54)) l ^^^ (-1))) (nI i)) (rkF (apG (nE (Z.2.1 54)) (nR (Z.2.1 54))) (nR (Z.2.1 54)) (rv (mP (Z.2.1 54))) l) i).2)), some (.int (nI i)), some (.float (grF (apG (nE (Z.2.1 54)) (nR (Z.2.1 54))) (rv (mP (Z.2.1 54))) i (l - 1)))]) dX4_farthest_56 (by decide) rfl rfl rfl ?_
              refine XW.fload 59 dX4_farthest_57 rfl rfl ?_
              refine XW.fstore_n 60 (L' := [some (.ref 53), some (.int (nI i)), some (.float (grF (apG (nE (Z.2.1 54)) (nR (Z.2.1 54))) (rv (mP (Z.2.1 54))) i (l - 1))), some (.int (nI i)), some (.float (grF (apG (nE (Z.2.1 54)) (nR (Z.2.1 54))) (rv (mP (Z.2.1 54))) i (l - 1)))]) dX4_farthest_59 (by decide) rfl rfl rfl ?_
              refine XW.iinc 63 (y := nI (i + 1)) (L' := [some (.ref 53), some (.int (nI i)), some (.float (grF (apG (nE (Z.2.1 54)) (nR (Z.2.1 54))) (rv (mP (Z.2.1 54))) i (l - 1))), some (.int (nI (i + 1))), some (.float (grF (apG (nE (Z.2.1 54)) (nR (Z.2.1 54))) (rv (mP (Z.2.1 54))) i (l - 1)))]) dX4_farthest_60 rfl (na rfl rfl) (by decide) rfl rfl rfl ?_
              refine XW.goto 6 dX4_farthest_63 (by decide) ?_
              refine XW.weak [true, true, true, true, false] (L' := [some (.ref 53), some (.int (nI i)), some (.float (grF (apG (nE (Z.2.1 54)) (nR (Z.2.1 54))) (rv (mP (Z.2.1 54))) i (l - 1))), some (.int (nI (i + 1))), none]) rfl ?_
              refine XW.eqs (L' := [some (.ref 53), some (.int ((nxF (fun i => bitB (fit &&& (rbF (mP (Z.2.1 54)) l ^^^ (-1))) (nI i)) (rkF (apG (nE (Z.2.1 54)) (nR (Z.2.1 54))) (nR (Z.2.1 54)) (rv (mP (Z.2.1 54))) l) (i + 1)).1)), some (.float ((nxF (fun i => bitB (fit &&& (rbF (mP (Z.2.1 54)) l ^^^ (-1))) (nI i)) (rkF (apG (nE (Z.2.1 54)) (nR (Z.2.1 54))) (nR (Z.2.1 54)) (rv (mP (Z.2.1 54))) l) (i + 1)).2)), some (.int (nI (i + 1))), none]) (by rw [nxF_t (may := (fun i => bitB (fit &&& (rbF (mP (Z.2.1 54)) l ^^^ (-1))) (nI i))) (rank := (rkF (apG (nE (Z.2.1 54)) (nR (Z.2.1 54))) (nR (Z.2.1 54)) (rv (mP (Z.2.1 54))) l)) c0 (by first | exact Or.inl c_45 | exact Or.inr (er ▸ c_52)), er]) rfl rfl ?_
              exact ih (i + 1) (by omega) (by omega)
set_option maxHeartbeats 400000 in
set_option maxRecDepth 100000 in
theorem k_farthest {Z : xZ} {c l : Nat} (mi : MI (Z.2.1 54) c l) {fit : Int32} (hfit : Z.1 53 8 = fit) (l1 : 1 ≤ l) (hG : gapOK (Z.2.2.1 59) (nE (Z.2.1 54)) (nR (Z.2.1 54)) c) : XC mX4_farthest 1 0 0 [.ref 53] (HP Z) (fun r h' => r = some (.int (nxS (apG (nE (Z.2.1 54)) (nR (Z.2.1 54))) (nR (Z.2.1 54)) fit c ((mP (Z.2.1 54)), l))) ∧ h' = HP Z) := by
  show XW mX4_farthest 1 0 0 0 [some (.ref 53), none, none, none, none] [] (HP Z) _
  obtain ⟨hc, c20, hl, l8, ok, hf, hdi, hfb⟩ := id mi
  refine XW.iconst 1 dX4_farthest_0 (v := -1) (by decide) rfl ?_
  refine XW.istore_n 2 (L' := [some (.ref 53), some (.int (-1)), none, none, none]) dX4_farthest_1 (by decide) rfl rfl rfl ?_
  refine XW.fconst0 3 dX4_farthest_2 rfl ?_
  refine XW.fstore_n 4 (L' := [some (.ref 53), some (.int (-1)), some (.float FP.fconst0), none, none]) dX4_farthest_3 (by decide) rfl rfl rfl ?_
  refine XW.iconst 5 dX4_farthest_4 (v := 0) (by decide) rfl ?_
  refine XW.istore_n 6 (L' := [some (.ref 53), some (.int (-1)), some (.float FP.fconst0), some (.int 0), none]) dX4_farthest_5 (by decide) rfl rfl rfl ?_
  refine XW.eqs (L' := [some (.ref 53), some (.int ((nxF (fun i => bitB (fit &&& (rbF (mP (Z.2.1 54)) l ^^^ (-1))) (nI i)) (rkF (apG (nE (Z.2.1 54)) (nR (Z.2.1 54))) (nR (Z.2.1 54)) (rv (mP (Z.2.1 54))) l) 0).1)), some (.float ((nxF (fun i => bitB (fit &&& (rbF (mP (Z.2.1 54)) l ^^^ (-1))) (nI i)) (rkF (apG (nE (Z.2.1 54)) (nR (Z.2.1 54))) (nR (Z.2.1 54)) (rv (mP (Z.2.1 54))) l) 0).2)), some (.int (nI 0)), none]) (by rfl) rfl rfl ?_
  exact l_kfarthest mi hfit l1 hG (c + 1) 0 (by omega) (by omega)
