/-! Floats: their bits, the two methods -/
theorem n_val {x : UInt32} (h : FP.Core.val32 x ≠ .nan) : vf_n32 x := by
  show x &&& 0x7fffffff ≤ 0x7f800000
  rw [UInt32.le_iff_toNat_le, FP.Core.mask_toNat32]
  exact (FP.Core.ne_nan32 x).mp h
theorem n_mul {a b : UInt32} {s t : Bool} {c d : Nat} {q r : Int} (ea : FP.Core.val32 a = .fin s c q) (eb : FP.Core.val32 b = .fin t d r) : vf_n32 (FP.fmul a b) := n_val (by rw [mul_sg ea eb]; exact FP.Core.roundRatio_ne_nan _ _ _ _ _)
theorem NF_1 : NF FP.fconst1 := by unfold NF; decide
theorem NF_2 : NF FP.fconst2 := by unfold NF; decide
theorem lt_1 {e m : Nat} (he : e ≤ 254) (hm : m < 8388608) : fb e m < FP.fconst1 ↔ e < 127 := by
  rw [UInt32.lt_iff_toNat_lt, fb_nat he hm, show (FP.fconst1).toNat = 127 * 8388608 by decide]; omega
theorem lt_2 {e m : Nat} (he : e ≤ 254) (hm : m < 8388608) : fb e m < FP.fconst2 ↔ e < 128 := by
  rw [UInt32.lt_iff_toNat_lt, fb_nat he hm, show (FP.fconst2).toNat = 128 * 8388608 by decide]; omega
theorem cm_neg {E m : Nat} (h1 : 1 ≤ E) (hE : E ≤ 254) (hm : m < 8388608) (op : CmpOp) : Op.cmpValue (FP.fcmp (fs 1 E m) FP.fconst0) op = -1 := by
  have n := fs_nat (s := 1) (by decide) hE hm
  have h : FP.fcmp (fs 1 E m) FP.fconst0 = some (compare (FP.Core.fkey (fs 1 E m)) (FP.Core.fkey FP.fconst0)) := FP.Core.fcmp_key ((FP.Core.ne_nan32 _).mpr (by rw [n]; omega)) ((FP.Core.ne_nan32 _).mpr (by decide))
  rw [h, (FP.Core.compare_lt_iff _ _).mpr ?_]
  · rfl
  · rw [show FP.Core.fkey FP.fconst0 = 0 by decide]
    unfold FP.Core.fkey
    rw [if_pos (by rw [n]; omega), n]
    omega
theorem cm_pos {E m : Nat} (h1 : 1 ≤ E) (hE : E ≤ 254) (hm : m < 8388608) (op : CmpOp) : Op.cmpValue (FP.fcmp (fb E m) FP.fconst0) op = 1 := by
  rw [fl_cmp' (fb_NF hE hm) NF_0]
  unfold cmpU
  have : ¬ fb E m < FP.fconst0 := fun h => by rw [UInt32.lt_iff_toNat_lt] at h; exact absurd h (Nat.not_lt_zero _)
  rw [if_neg this, if_neg]
  intro h
  have h : (fb E m).toNat = 0 := by rw [h]; rfl
  rw [fb_nat hE hm] at h
  omega
theorem fneg_fs {E m : Nat} (h1 : 1 ≤ E) (hE : E ≤ 254) (hm : m < 8388608) : FP.fneg (fs 1 E m) = fb E m := by
  have n := fs_nat (s := 1) (by decide) hE hm
  refine UInt32.toNat_inj.mp ?_
  show (fs 1 E m ^^^ 0x80000000).toNat = _
  rw [UInt32.toNat_xor, n, fb_nat hE hm, show (0x80000000 : UInt32).toNat = 2 ^ 31 * 1 by decide]
  rw [show 1 * 2147483648 + E * 8388608 + m = 2 ^ 31 * 1 + (E * 8388608 + m) by omega, Nat.two_pow_add_eq_or_of_lt (by omega) 1]
  apply Nat.eq_of_testBit_eq
  intro i
  rw [Nat.testBit_xor, Nat.testBit_or]
  by_cases e : i < 31
  · have z : (2 ^ 31 * 1 : Nat).testBit i = false := by rw [Nat.testBit_two_pow_mul, decide_eq_false (by omega)]; rfl
    rw [z]; cases (E * 8388608 + m).testBit i <;> rfl
  · have z : (E * 8388608 + m).testBit i = false := Nat.testBit_lt_two_pow (Nat.lt_of_lt_of_le (show E * 8388608 + m < 2 ^ 31 by omega) (Nat.pow_le_pow_right (by decide) (by omega)))
    rw [z]; cases (2 ^ 31 * 1 : Nat).testBit i <;> rfl
theorem bt_w {w j : Nat} (hj : j < 32) : bt (nI w) j = w.testBit j := by
  unfold bt
  show (BitVec.ofNat 32 w).getLsbD j = _
  rw [BitVec.getLsbD_ofNat, decide_eq_true hj, Bool.true_and]
theorem nI_or {a b : Nat} : nI a ||| nI b = nI (a ||| b) := by
  apply b_ext
  intro j hj
  rw [b_or, bt_w hj, bt_w hj, bt_w hj, Nat.testBit_or]
theorem sh_P : ∀ P, P < 191 → 1 ≤ P → (nI P - 1) <<< ((23 : Int32) &&& 31) = nI ((P - 1) * 8388608) := by decide +kernel
theorem sh_Q : ∀ P, P < 191 → nI P <<< ((23 : Int32) &&& 31) = nI (P * 8388608) := by decide +kernel
theorem or_P {P m : Nat} (hm : m < 8388608) : P * 8388608 ||| m = P * 8388608 + m := by
  have := Nat.two_pow_add_eq_or_of_lt (b := m) (i := 23) hm P
  rw [Nat.mul_comm P, show 8388608 = 2 ^ 23 from rfl, this]
theorem or_S {w : Nat} (hw : w < 2147483648) : 2147483648 ||| w = 2147483648 + w := by
  have := Nat.two_pow_add_eq_or_of_lt (b := w) (i := 31) hw 1
  exact this.symm
theorem fb_int {P m : Nat} : nI (P * 8388608 + m) = (fb P m).toInt32 := rfl
theorem fs_int {P m : Nat} (hP : P ≤ 254) (hm : m < 8388608) : nI (P * 8388608 + m) ||| (-2147483648) = (fs 1 P m).toInt32 := by
  rw [show (-2147483648 : Int32) = nI 2147483648 from rfl, nI_or, Nat.or_comm, or_S (by omega)]
  show nI (2147483648 + (P * 8388608 + m)) = nI (1 * 2147483648 + P * 8388608 + m)
  congr 1; omega
theorem dec_q {q : Nat} (h : 1 ≤ q) : nI q + Int32.ofInt (-1) = nI (q - 1) := by
  obtain ⟨k, rfl⟩ : ∃ k, q = k + 1 := ⟨q - 1, by omega⟩
  rw [Nat.add_sub_cancel, ← nI_pred k, Int32.sub_eq_add_neg]; rfl
set_option maxHeartbeats 400000 in
set_option maxRecDepth 100000 in
theorem X3_bitsOf_dbl {x : UInt32} {h : xH} {P m : Nat} {Post : Option Value → xH → Prop} (hm : m < 8388608) (P1 : 64 ≤ P) (P2 : P ≤ 190) (KK : XW mX3_bitsOf 0 0 0 62 [some (.float x), some (.float (fb 127 m)), some (.int (nI P)), none] [] h Post) : ∀ (n e q : Nat), e ≤ 127 → 127 < e + n → 1 ≤ e → q + e = P + 127 → XW mX3_bitsOf 0 0 0 41 [some (.float x), some (.float (fb e m)), some (.int (nI q)), none] [] h Post := by
  intro n
  induction n with
  | zero => intro e q g0 g1; omega
  | succ n ih =>
    intro e q g0 g1 g2 g3
    refine XW.fload_n 42 dX3_bitsOf_41 rfl rfl ?_
    refine XW.fconst1 43 dX3_bitsOf_42 rfl ?_
    refine XW.fcmpU 44 dX3_bitsOf_43 (fb_NF (by omega) hm) NF_1 rfl ?_
    refine XW.if_geU 62 47 dX3_bitsOf_44 (by decide) rfl (fun c0 => ?_) (fun c0 => ?_)
    · rw [lt_1 (by omega) hm] at c0
      have e1 : e = 127 := by omega
      have e2 : q = P := by omega
      subst e1; subst e2; exact KK
    · rw [lt_1 (by omega) hm] at c0
      refine XW.iload_n 48 dX3_bitsOf_47 rfl rfl ?_
      refine XW.iconst 49 dX3_bitsOf_48 (v := 1) (by decide) rfl ?_
      refine XW.icmp_leN 62 52 q 1 dX3_bitsOf_49 (by decide) rfl rfl rfl (by omega) (by omega) (fun c1 => absurd c1 (by omega)) (fun c1 => ?_)
      refine XW.fload_n 53 dX3_bitsOf_52 rfl rfl ?_
      refine XW.fconst2 54 dX3_bitsOf_53 rfl ?_
      refine XW.fmul 55 dX3_bitsOf_54 (n_mul (fb_val g2 (by omega) hm) k_two) rfl ?_
      refine XW.eqs (st' := [.float (fb (e + 1) m)]) rfl (by rw [fm_two g2 (by omega) hm]) rfl ?_
      refine XW.fstore_n 56 (L' := [some (.float x), some (.float (fb (e + 1) m)), some (.int (nI q)), none]) dX3_bitsOf_55 (by decide) rfl rfl rfl ?_
      refine XW.iinc 59 (y := nI (q - 1)) (L' := [some (.float x), some (.float (fb (e + 1) m)), some (.int (nI (q - 1))), none]) dX3_bitsOf_56 rfl (dec_q (by omega)) (by decide) rfl rfl rfl ?_
      refine XW.goto 41 dX3_bitsOf_59 (by decide) ?_
      exact ih (e + 1) (q - 1) (by omega) (by omega) (by omega) (by omega)
set_option maxHeartbeats 400000 in
set_option maxRecDepth 100000 in
theorem X3_bitsOf_hlv {x : UInt32} {h : xH} {P m : Nat} {Post : Option Value → xH → Prop} (hm : m < 8388608) (P1 : 64 ≤ P) (P2 : P ≤ 190) (KK : ∀ e q, 1 ≤ e → e ≤ 127 → q + e = P + 127 → XW mX3_bitsOf 0 0 0 41 [some (.float x), some (.float (fb e m)), some (.int (nI q)), none] [] h Post) : ∀ (n e q : Nat), e < n → 1 ≤ e → e ≤ 190 → q + e = P + 127 → XW mX3_bitsOf 0 0 0 16 [some (.float x), some (.float (fb e m)), some (.int (nI q)), none] [] h Post := by
  intro n
  induction n with
  | zero => intro e q g0; omega
  | succ n ih =>
    intro e q g0 g1 g2 g3
    refine XW.fload_n 17 dX3_bitsOf_16 rfl rfl ?_
    refine XW.fconst2 18 dX3_bitsOf_17 rfl ?_
    refine XW.fcmpU 19 dX3_bitsOf_18 (fb_NF (by omega) hm) NF_2 rfl ?_
    refine XW.if_ltU 41 22 dX3_bitsOf_19 (by decide) rfl (fun c0 => ?_) (fun c0 => ?_)
    · rw [lt_2 (by omega) hm] at c0
      exact KK e q g1 (by omega) g3
    · rw [lt_2 (by omega) hm] at c0
      refine XW.iload_n 23 dX3_bitsOf_22 rfl rfl ?_
      refine XW.sipush 26 dX3_bitsOf_23 (v := 254) (by decide) rfl ?_
      refine XW.icmp_geN 41 29 q 254 dX3_bitsOf_26 (by decide) rfl rfl rfl (by omega) (by omega) (fun c1 => absurd c1 (by omega)) (fun c1 => ?_)
      refine XW.fload_n 30 dX3_bitsOf_29 rfl rfl ?_
      refine XW.ldcwf 33 k3_256 dX3_bitsOf_30 rfl ?_
      refine XW.fmul 34 dX3_bitsOf_33 (n_mul (fb_val g1 (by omega) hm) k_half) rfl ?_
      refine XW.eqs (st' := [.float (fb (e - 1) m)]) rfl (by rw [fm_half (by omega) (by omega) hm]) rfl ?_
      refine XW.fstore_n 35 (L' := [some (.float x), some (.float (fb (e - 1) m)), some (.int (nI q)), none]) dX3_bitsOf_34 (by decide) rfl rfl rfl ?_
      refine XW.iinc 38 (y := nI (q + 1)) (L' := [some (.float x), some (.float (fb (e - 1) m)), some (.int (nI (q + 1))), none]) dX3_bitsOf_35 rfl (na rfl rfl) (by decide) rfl rfl rfl ?_
      refine XW.goto 16 dX3_bitsOf_38 (by decide) ?_
      exact ih (e - 1) (q + 1) (by omega) (by omega) (by omega) (by omega)
set_option maxHeartbeats 400000 in
set_option maxRecDepth 100000 in
theorem X4_bitsOf_dbl {x : UInt32} {h : xH} {P m : Nat} {Post : Option Value → xH → Prop} (hm : m < 8388608) (P1 : 64 ≤ P) (P2 : P ≤ 190) (KK : XW mX4_bitsOf 0 0 0 70 [some (.float x), some (.float (fb 127 m)), some (.int (nI P)), none] [] h Post) : ∀ (n e q : Nat), e ≤ 127 → 127 < e + n → 1 ≤ e → q + e = P + 127 → XW mX4_bitsOf 0 0 0 54 [some (.float x), some (.float (fb e m)), some (.int (nI q)), none] [] h Post := by
  intro n
  induction n with
  | zero => intro e q g0 g1; omega
  | succ n ih =>
    intro e q g0 g1 g2 g3
    refine XW.fload_n 55 dX4_bitsOf_54 rfl rfl ?_
    refine XW.fconst1 56 dX4_bitsOf_55 rfl ?_
    refine XW.fcmpU 57 dX4_bitsOf_56 (fb_NF (by omega) hm) NF_1 rfl ?_
    refine XW.if_geU 70 60 dX4_bitsOf_57 (by decide) rfl (fun c0 => ?_) (fun c0 => ?_)
    · rw [lt_1 (by omega) hm] at c0
      have e1 : e = 127 := by omega
      have e2 : q = P := by omega
      subst e1; subst e2; exact KK
    · rw [lt_1 (by omega) hm] at c0
      refine XW.fload_n 61 dX4_bitsOf_60 rfl rfl ?_
      refine XW.fconst2 62 dX4_bitsOf_61 rfl ?_
      refine XW.fmul 63 dX4_bitsOf_62 (n_mul (fb_val g2 (by omega) hm) k_two) rfl ?_
      refine XW.eqs (st' := [.float (fb (e + 1) m)]) rfl (by rw [fm_two g2 (by omega) hm]) rfl ?_
      refine XW.fstore_n 64 (L' := [some (.float x), some (.float (fb (e + 1) m)), some (.int (nI q)), none]) dX4_bitsOf_63 (by decide) rfl rfl rfl ?_
      refine XW.iinc 67 (y := nI (q - 1)) (L' := [some (.float x), some (.float (fb (e + 1) m)), some (.int (nI (q - 1))), none]) dX4_bitsOf_64 rfl (dec_q (by omega)) (by decide) rfl rfl rfl ?_
      refine XW.goto 54 dX4_bitsOf_67 (by decide) ?_
      exact ih (e + 1) (q - 1) (by omega) (by omega) (by omega) (by omega)
set_option maxHeartbeats 400000 in
set_option maxRecDepth 100000 in
theorem X4_bitsOf_hlv {x : UInt32} {h : xH} {P m : Nat} {Post : Option Value → xH → Prop} (hm : m < 8388608) (P1 : 64 ≤ P) (P2 : P ≤ 190) (KK : ∀ e q, 1 ≤ e → e ≤ 127 → q + e = P + 127 → XW mX4_bitsOf 0 0 0 54 [some (.float x), some (.float (fb e m)), some (.int (nI q)), none] [] h Post) : ∀ (n e q : Nat), e < n → 1 ≤ e → e ≤ 190 → q + e = P + 127 → XW mX4_bitsOf 0 0 0 37 [some (.float x), some (.float (fb e m)), some (.int (nI q)), none] [] h Post := by
  intro n
  induction n with
  | zero => intro e q g0; omega
  | succ n ih =>
    intro e q g0 g1 g2 g3
    refine XW.fload_n 38 dX4_bitsOf_37 rfl rfl ?_
    refine XW.fconst2 39 dX4_bitsOf_38 rfl ?_
    refine XW.fcmpU 40 dX4_bitsOf_39 (fb_NF (by omega) hm) NF_2 rfl ?_
    refine XW.if_ltU 54 43 dX4_bitsOf_40 (by decide) rfl (fun c0 => ?_) (fun c0 => ?_)
    · rw [lt_2 (by omega) hm] at c0
      exact KK e q g1 (by omega) g3
    · rw [lt_2 (by omega) hm] at c0
      refine XW.fload_n 44 dX4_bitsOf_43 rfl rfl ?_
      refine XW.ldcf 46 k4_39 dX4_bitsOf_44 rfl ?_
      refine XW.fmul 47 dX4_bitsOf_46 (n_mul (fb_val g1 (by omega) hm) k_half) rfl ?_
      refine XW.eqs (st' := [.float (fb (e - 1) m)]) rfl (by rw [fm_half (by omega) (by omega) hm]) rfl ?_
      refine XW.fstore_n 48 (L' := [some (.float x), some (.float (fb (e - 1) m)), some (.int (nI q)), none]) dX4_bitsOf_47 (by decide) rfl rfl rfl ?_
      refine XW.iinc 51 (y := nI (q + 1)) (L' := [some (.float x), some (.float (fb (e - 1) m)), some (.int (nI (q + 1))), none]) dX4_bitsOf_48 rfl (na rfl rfl) (by decide) rfl rfl rfl ?_
      refine XW.goto 37 dX4_bitsOf_51 (by decide) ?_
      exact ih (e - 1) (q + 1) (by omega) (by omega) (by omega) (by omega)
set_option maxHeartbeats 400000 in
set_option maxRecDepth 100000 in
theorem c_b62_0 {h : xH} {P m : Nat} (hm : m < 8388608) (P1 : 64 ≤ P) (P2 : P ≤ 190) : XW mX3_bitsOf 0 0 0 62 [some (.float (fs 0 P m)), some (.float (fb 127 m)), some (.int (nI P)), none] [] h (fun r h' => r = some (.int ((fs 0 P m).toInt32)) ∧ h' = h) := by
  refine XW.iload_n 63 dX3_bitsOf_62 rfl rfl ?_
  refine XW.iconst 64 dX3_bitsOf_63 (v := 1) (by decide) rfl ?_
  refine XW.isub 65 dX3_bitsOf_64 rfl ?_
  refine XW.bipush 67 dX3_bitsOf_65 (v := 23) (by decide) rfl ?_
  refine XW.ishl 68 dX3_bitsOf_67 rfl ?_
  refine XW.fload_n 69 dX3_bitsOf_68 rfl rfl ?_
  refine XW.ldcwf 72 k3_257 dX3_bitsOf_69 rfl ?_
  refine XW.fmul 73 dX3_bitsOf_72 (n_mul (fb_val (by omega) (by omega) hm) k_23) rfl ?_
  refine XW.f2i 74 dX3_bitsOf_73 rfl ?_
  refine XW.iadd 75 dX3_bitsOf_74 rfl ?_
  refine XW.eqs (st' := [.int (nI (P * 8388608 + m))]) rfl (by rw [c_fig hm, sh_P P (by omega) (by omega), nI_add, show (P - 1) * 8388608 + (8388608 + m) = P * 8388608 + m by omega]) rfl ?_
  refine XW.istore_n 76 (L' := [some (.float (fs 0 P m)), some (.float (fb 127 m)), some (.int (nI P)), some (.int (nI (P * 8388608 + m)))]) dX3_bitsOf_75 (by decide) rfl rfl rfl ?_
  refine XW.fload_n 77 dX3_bitsOf_76 rfl rfl ?_
  refine XW.fconst0 78 dX3_bitsOf_77 rfl ?_
  refine XW.fcmp 79 dX3_bitsOf_78 rfl ?_
  refine XW.if_ge 89 82 dX3_bitsOf_79 (by decide) rfl (fun c0 => ?_) (fun c0 => absurd (by rw [fs_0, cm_pos (by omega) (by omega) hm]; decide) c0)
  refine XW.iload_n 90 dX3_bitsOf_89 rfl rfl ?_
  exact XW.iret dX3_bitsOf_90 rfl ⟨by rw [fs_0]; rfl, rfl⟩
set_option maxHeartbeats 400000 in
set_option maxRecDepth 100000 in
theorem c_b_0 {h : xH} {P m : Nat} (hm : m < 8388608) (P1 : 64 ≤ P) (P2 : P ≤ 190) : XC mX3_bitsOf 0 0 0 [.float (fs 0 P m)] h (fun r h' => r = some (.int ((fs 0 P m).toInt32)) ∧ h' = h) := by
  show XW mX3_bitsOf 0 0 0 0 [some (.float (fs 0 P m)), none, none, none] [] h _
  refine XW.fload_n 1 dX3_bitsOf_0 rfl rfl ?_
  refine XW.fconst0 2 dX3_bitsOf_1 rfl ?_
  refine XW.fcmp 3 dX3_bitsOf_2 rfl ?_
  refine XW.if_ge 11 6 dX3_bitsOf_3 (by decide) rfl (fun c0 => ?_) (fun c0 => absurd (by rw [fs_0, cm_pos (by omega) (by omega) hm]; decide) c0)
  refine XW.fload_n 12 dX3_bitsOf_11 rfl rfl ?_
  refine XW.eqs (st' := [.float (fb P m)]) rfl (by rw [fs_0]) rfl ?_
  refine XW.fstore_n 13 (L' := [some (.float (fs 0 P m)), some (.float (fb P m)), none, none]) dX3_bitsOf_12 (by decide) rfl rfl rfl ?_
  refine XW.bipush 15 dX3_bitsOf_13 (v := 127) (by decide) rfl ?_
  refine XW.istore_n 16 (L' := [some (.float (fs 0 P m)), some (.float (fb P m)), some (.int (nI 127)), none]) dX3_bitsOf_15 (by decide) rfl rfl rfl ?_
  exact X3_bitsOf_hlv hm P1 P2 (fun e q g1 g2 g3 => X3_bitsOf_dbl hm P1 P2 (c_b62_0 hm P1 P2) 128 e q g2 (by omega) g1 g3) 191 P 127 (by omega) (by omega) (by omega) (by omega)
set_option maxHeartbeats 400000 in
set_option maxRecDepth 100000 in
theorem c_b62_1 {h : xH} {P m : Nat} (hm : m < 8388608) (P1 : 64 ≤ P) (P2 : P ≤ 190) : XW mX3_bitsOf 0 0 0 62 [some (.float (fs 1 P m)), some (.float (fb 127 m)), some (.int (nI P)), none] [] h (fun r h' => r = some (.int ((fs 1 P m).toInt32)) ∧ h' = h) := by
  refine XW.iload_n 63 dX3_bitsOf_62 rfl rfl ?_
  refine XW.iconst 64 dX3_bitsOf_63 (v := 1) (by decide) rfl ?_
  refine XW.isub 65 dX3_bitsOf_64 rfl ?_
  refine XW.bipush 67 dX3_bitsOf_65 (v := 23) (by decide) rfl ?_
  refine XW.ishl 68 dX3_bitsOf_67 rfl ?_
  refine XW.fload_n 69 dX3_bitsOf_68 rfl rfl ?_
  refine XW.ldcwf 72 k3_257 dX3_bitsOf_69 rfl ?_
  refine XW.fmul 73 dX3_bitsOf_72 (n_mul (fb_val (by omega) (by omega) hm) k_23) rfl ?_
  refine XW.f2i 74 dX3_bitsOf_73 rfl ?_
  refine XW.iadd 75 dX3_bitsOf_74 rfl ?_
  refine XW.eqs (st' := [.int (nI (P * 8388608 + m))]) rfl (by rw [c_fig hm, sh_P P (by omega) (by omega), nI_add, show (P - 1) * 8388608 + (8388608 + m) = P * 8388608 + m by omega]) rfl ?_
  refine XW.istore_n 76 (L' := [some (.float (fs 1 P m)), some (.float (fb 127 m)), some (.int (nI P)), some (.int (nI (P * 8388608 + m)))]) dX3_bitsOf_75 (by decide) rfl rfl rfl ?_
  refine XW.fload_n 77 dX3_bitsOf_76 rfl rfl ?_
  refine XW.fconst0 78 dX3_bitsOf_77 rfl ?_
  refine XW.fcmp 79 dX3_bitsOf_78 rfl ?_
  refine XW.if_ge 89 82 dX3_bitsOf_79 (by decide) rfl (fun c0 => absurd c0 (by rw [cm_neg (by omega) (by omega) hm]; decide)) (fun c0 => ?_)
  refine XW.iload_n 83 dX3_bitsOf_82 rfl rfl ?_
  refine XW.ldci 85 k3_120 dX3_bitsOf_83 rfl ?_
  refine XW.ior 86 dX3_bitsOf_85 rfl ?_
  refine XW.goto 90 dX3_bitsOf_86 (by decide) ?_
  exact XW.iret dX3_bitsOf_90 rfl ⟨by rw [fs_int (by omega) hm], rfl⟩
set_option maxHeartbeats 400000 in
set_option maxRecDepth 100000 in
theorem c_b_1 {h : xH} {P m : Nat} (hm : m < 8388608) (P1 : 64 ≤ P) (P2 : P ≤ 190) : XC mX3_bitsOf 0 0 0 [.float (fs 1 P m)] h (fun r h' => r = some (.int ((fs 1 P m).toInt32)) ∧ h' = h) := by
  show XW mX3_bitsOf 0 0 0 0 [some (.float (fs 1 P m)), none, none, none] [] h _
  refine XW.fload_n 1 dX3_bitsOf_0 rfl rfl ?_
  refine XW.fconst0 2 dX3_bitsOf_1 rfl ?_
  refine XW.fcmp 3 dX3_bitsOf_2 rfl ?_
  refine XW.if_ge 11 6 dX3_bitsOf_3 (by decide) rfl (fun c0 => absurd c0 (by rw [cm_neg (by omega) (by omega) hm]; decide)) (fun c0 => ?_)
  refine XW.fload_n 7 dX3_bitsOf_6 rfl rfl ?_
  refine XW.fneg 8 dX3_bitsOf_7 rfl ?_
  refine XW.goto 12 dX3_bitsOf_8 (by decide) ?_
  refine XW.eqs (st' := [.float (fb P m)]) rfl (by rw [fneg_fs (by omega) (by omega) hm]) rfl ?_
  refine XW.fstore_n 13 (L' := [some (.float (fs 1 P m)), some (.float (fb P m)), none, none]) dX3_bitsOf_12 (by decide) rfl rfl rfl ?_
  refine XW.bipush 15 dX3_bitsOf_13 (v := 127) (by decide) rfl ?_
  refine XW.istore_n 16 (L' := [some (.float (fs 1 P m)), some (.float (fb P m)), some (.int (nI 127)), none]) dX3_bitsOf_15 (by decide) rfl rfl rfl ?_
  exact X3_bitsOf_hlv hm P1 P2 (fun e q g1 g2 g3 => X3_bitsOf_dbl hm P1 P2 (c_b62_1 hm P1 P2) 128 e q g2 (by omega) g1 g3) 191 P 127 (by omega) (by omega) (by omega) (by omega)
set_option maxHeartbeats 400000 in
set_option maxRecDepth 100000 in
theorem c_z62 {h : xH} : XW mX3_bitsOf 0 0 0 62 [some (.float 0), some (.float 0), some (.int (nI 1)), none] [] h (fun r h' => r = some (.int (0)) ∧ h' = h) := by
  refine XW.iload_n 63 dX3_bitsOf_62 rfl rfl ?_
  refine XW.iconst 64 dX3_bitsOf_63 (v := 1) (by decide) rfl ?_
  refine XW.isub 65 dX3_bitsOf_64 rfl ?_
  refine XW.bipush 67 dX3_bitsOf_65 (v := 23) (by decide) rfl ?_
  refine XW.ishl 68 dX3_bitsOf_67 rfl ?_
  refine XW.fload_n 69 dX3_bitsOf_68 rfl rfl ?_
  refine XW.ldcwf 72 k3_257 dX3_bitsOf_69 rfl ?_
  refine XW.fmul 73 dX3_bitsOf_72 (by show (FP.fmul 0 1258291200 : UInt32) &&& 0x7fffffff ≤ 0x7f800000; decide +kernel) rfl ?_
  refine XW.f2i 74 dX3_bitsOf_73 rfl ?_
  refine XW.iadd 75 dX3_bitsOf_74 rfl ?_
  refine XW.eqs (st' := [.int 0]) rfl (by rw [show (nI 1 - 1) <<< ((23 : Int32) &&& 31) + FP.f2i (FP.fmul 0 1258291200) = 0 by decide +kernel]) rfl ?_
  refine XW.istore_n 76 (L' := [some (.float 0), some (.float 0), some (.int (nI 1)), some (.int 0)]) dX3_bitsOf_75 (by decide) rfl rfl rfl ?_
  refine XW.fload_n 77 dX3_bitsOf_76 rfl rfl ?_
  refine XW.fconst0 78 dX3_bitsOf_77 rfl ?_
  refine XW.fcmp 79 dX3_bitsOf_78 rfl ?_
  refine XW.if_ge 89 82 dX3_bitsOf_79 (by decide) rfl (fun c0 => ?_) (fun c0 => absurd (by decide +kernel) c0)
  refine XW.iload_n 90 dX3_bitsOf_89 rfl rfl ?_
  exact XW.iret dX3_bitsOf_90 rfl ⟨rfl, rfl⟩
set_option maxHeartbeats 400000 in
set_option maxRecDepth 100000 in
theorem c_z41 {h : xH} : ∀ (n q : Nat), q < n → 1 ≤ q → q ≤ 127 → XW mX3_bitsOf 0 0 0 41 [some (.float 0), some (.float 0), some (.int (nI q)), none] [] h (fun r h' => r = some (.int (0)) ∧ h' = h) := by
  intro n
  induction n with
  | zero => intro q g0; omega
  | succ n ih =>
    intro q g0 g1 g2
    refine XW.fload_n 42 dX3_bitsOf_41 rfl rfl ?_
    refine XW.fconst1 43 dX3_bitsOf_42 rfl ?_
    refine XW.fcmp 44 dX3_bitsOf_43 rfl ?_
    refine XW.if_ge 62 47 dX3_bitsOf_44 (by decide) rfl (fun c0 => absurd c0 (by decide +kernel)) (fun c0 => ?_)
    refine XW.iload_n 48 dX3_bitsOf_47 rfl rfl ?_
    refine XW.iconst 49 dX3_bitsOf_48 (v := 1) (by decide) rfl ?_
    refine XW.icmp_leN 62 52 q 1 dX3_bitsOf_49 (by decide) rfl rfl rfl (by omega) (by omega) (fun c1 => ?_) (fun c1 => ?_)
    · have e : q = 1 := by omega
      subst e; exact c_z62
    · refine XW.fload_n 53 dX3_bitsOf_52 rfl rfl ?_
      refine XW.fconst2 54 dX3_bitsOf_53 rfl ?_
      refine XW.fmul 55 dX3_bitsOf_54 (by show (FP.fmul 0 FP.fconst2 : UInt32) &&& 0x7fffffff ≤ 0x7f800000; decide +kernel) rfl ?_
      refine XW.eqs (st' := [.float 0]) rfl (by rw [show FP.fmul 0 FP.fconst2 = 0 by decide +kernel]) rfl ?_
      refine XW.fstore_n 56 (L' := [some (.float 0), some (.float 0), some (.int (nI q)), none]) dX3_bitsOf_55 (by decide) rfl rfl rfl ?_
      refine XW.iinc 59 (y := nI (q - 1)) (L' := [some (.float 0), some (.float 0), some (.int (nI (q - 1))), none]) dX3_bitsOf_56 rfl (dec_q (by omega)) (by decide) rfl rfl rfl ?_
      refine XW.goto 41 dX3_bitsOf_59 (by decide) ?_
      exact ih (q - 1) (by omega) (by omega) (by omega)
set_option maxHeartbeats 400000 in
set_option maxRecDepth 100000 in
theorem c_z {h : xH} : XC mX3_bitsOf 0 0 0 [.float 0] h (fun r h' => r = some (.int (0)) ∧ h' = h) := by
  show XW mX3_bitsOf 0 0 0 0 [some (.float 0), none, none, none] [] h _
  refine XW.fload_n 1 dX3_bitsOf_0 rfl rfl ?_
  refine XW.fconst0 2 dX3_bitsOf_1 rfl ?_
  refine XW.fcmp 3 dX3_bitsOf_2 rfl ?_
  refine XW.if_ge 11 6 dX3_bitsOf_3 (by decide) rfl (fun c0 => ?_) (fun c0 => absurd (by decide +kernel) c0)
  refine XW.fload_n 12 dX3_bitsOf_11 rfl rfl ?_
  refine XW.fstore_n 13 (L' := [some (.float 0), some (.float 0), none, none]) dX3_bitsOf_12 (by decide) rfl rfl rfl ?_
  refine XW.bipush 15 dX3_bitsOf_13 (v := 127) (by decide) rfl ?_
  refine XW.istore_n 16 (L' := [some (.float 0), some (.float 0), some (.int (nI 127)), none]) dX3_bitsOf_15 (by decide) rfl rfl rfl ?_
  refine XW.fload_n 17 dX3_bitsOf_16 rfl rfl ?_
  refine XW.fconst2 18 dX3_bitsOf_17 rfl ?_
  refine XW.fcmp 19 dX3_bitsOf_18 rfl ?_
  refine XW.if_lt 41 22 dX3_bitsOf_19 (by decide) rfl (fun c0 => ?_) (fun c0 => absurd (by decide +kernel) c0)
  exact c_z41 128 127 (by omega) (by omega) (by omega)
theorem c_bitsOf' (x : UInt32) (h : xH) (hx : okB x) : XC mX3_bitsOf 0 0 0 [.float x] h (fun r h' => r = some (.int x.toInt32) ∧ h' = h) := by
  rcases hx with rfl | ⟨s, E, m, s2, E1, E2, hm, rfl⟩
  · exact c_z
  · rcases (show s = 0 ∨ s = 1 by omega) with rfl | rfl
    · exact c_b_0 hm E1 E2
    · exact c_b_1 hm E1 E2
set_option maxHeartbeats 400000 in
set_option maxRecDepth 100000 in
theorem k_b70_0 {h : xH} {P m : Nat} (hm : m < 8388608) (P1 : 64 ≤ P) (P2 : P ≤ 190) : XW mX4_bitsOf 0 0 0 70 [some (.float (fs 0 P m)), some (.float (fb 127 m)), some (.int (nI P)), none] [] h (fun r h' => r = some (.int ((fs 0 P m).toInt32)) ∧ h' = h) := by
  obtain ⟨cc, qq, k1, k2, k3⟩ := k_sub hm
  refine XW.fload_n 71 dX4_bitsOf_70 rfl rfl ?_
  refine XW.fconst1 72 dX4_bitsOf_71 rfl ?_
  refine XW.fsub 73 dX4_bitsOf_72 (n_val (by rw [k1]; exact FP.Core.Datum.noConfusion)) rfl ?_
  refine XW.ldcf 75 k4_40 dX4_bitsOf_73 rfl ?_
  refine XW.fmul 76 dX4_bitsOf_75 (n_mul k1 k_23) rfl ?_
  refine XW.f2i 77 dX4_bitsOf_76 rfl ?_
  refine XW.eqs (st' := [.int (nI m)]) rfl (by rw [k_fig hm]) rfl ?_
  refine XW.istore_n 78 (L' := [some (.float (fs 0 P m)), some (.float (fb 127 m)), some (.int (nI P)), some (.int (nI m))]) dX4_bitsOf_77 (by decide) rfl rfl rfl ?_
  refine XW.fload_n 79 dX4_bitsOf_78 rfl rfl ?_
  refine XW.fconst0 80 dX4_bitsOf_79 rfl ?_
  refine XW.fcmp 81 dX4_bitsOf_80 rfl ?_
  refine XW.if_ge 89 84 dX4_bitsOf_81 (by decide) rfl (fun c0 => ?_) (fun c0 => absurd (by rw [fs_0, cm_pos (by omega) (by omega) hm]; decide) c0)
  refine XW.iconst 90 dX4_bitsOf_89 (v := 0) (by decide) rfl ?_
  refine XW.iload_n 91 dX4_bitsOf_90 rfl rfl ?_
  refine XW.bipush 93 dX4_bitsOf_91 (v := 23) (by decide) rfl ?_
  refine XW.ishl 94 dX4_bitsOf_93 rfl ?_
  refine XW.ior 95 dX4_bitsOf_94 rfl ?_
  refine XW.iload_n 96 dX4_bitsOf_95 rfl rfl ?_
  refine XW.ior 97 dX4_bitsOf_96 rfl ?_
  exact XW.iret dX4_bitsOf_97 rfl ⟨by rw [sh_Q P (by omega), show (0 : Int32) = nI 0 from rfl, nI_or, nI_or, Nat.zero_or, or_P hm, fs_0]; rfl, rfl⟩
set_option maxHeartbeats 400000 in
set_option maxRecDepth 100000 in
theorem k_b_0 {h : xH} {P m : Nat} (hm : m < 8388608) (P1 : 64 ≤ P) (P2 : P ≤ 190) : XC mX4_bitsOf 0 0 0 [.float (fs 0 P m)] h (fun r h' => r = some (.int ((fs 0 P m).toInt32)) ∧ h' = h) := by
  show XW mX4_bitsOf 0 0 0 0 [some (.float (fs 0 P m)), none, none, none] [] h _
  refine XW.fload_n 1 dX4_bitsOf_0 rfl rfl ?_
  refine XW.fconst0 2 dX4_bitsOf_1 rfl ?_
  refine XW.fcmp 3 dX4_bitsOf_2 rfl ?_
  refine XW.if_ne 21 6 dX4_bitsOf_3 (by decide) rfl (fun c0 => ?_) (fun c0 => absurd c0 (by rw [fs_0, cm_pos (by omega) (by omega) hm]; decide))
  refine XW.fload_n 22 dX4_bitsOf_21 rfl rfl ?_
  refine XW.fconst0 23 dX4_bitsOf_22 rfl ?_
  refine XW.fcmp 24 dX4_bitsOf_23 rfl ?_
  refine XW.if_ge 32 27 dX4_bitsOf_24 (by decide) rfl (fun c0 => ?_) (fun c0 => absurd (by rw [fs_0, cm_pos (by omega) (by omega) hm]; decide) c0)
  refine XW.fload_n 33 dX4_bitsOf_32 rfl rfl ?_
  refine XW.eqs (st' := [.float (fb P m)]) rfl (by rw [fs_0]) rfl ?_
  refine XW.fstore_n 34 (L' := [some (.float (fs 0 P m)), some (.float (fb P m)), none, none]) dX4_bitsOf_33 (by decide) rfl rfl rfl ?_
  refine XW.bipush 36 dX4_bitsOf_34 (v := 127) (by decide) rfl ?_
  refine XW.istore_n 37 (L' := [some (.float (fs 0 P m)), some (.float (fb P m)), some (.int (nI 127)), none]) dX4_bitsOf_36 (by decide) rfl rfl rfl ?_
  exact X4_bitsOf_hlv hm P1 P2 (fun e q g1 g2 g3 => X4_bitsOf_dbl hm P1 P2 (k_b70_0 hm P1 P2) 128 e q g2 (by omega) g1 g3) 191 P 127 (by omega) (by omega) (by omega) (by omega)
set_option maxHeartbeats 400000 in
set_option maxRecDepth 100000 in
theorem k_b70_1 {h : xH} {P m : Nat} (hm : m < 8388608) (P1 : 64 ≤ P) (P2 : P ≤ 190) : XW mX4_bitsOf 0 0 0 70 [some (.float (fs 1 P m)), some (.float (fb 127 m)), some (.int (nI P)), none] [] h (fun r h' => r = some (.int ((fs 1 P m).toInt32)) ∧ h' = h) := by
  obtain ⟨cc, qq, k1, k2, k3⟩ := k_sub hm
  refine XW.fload_n 71 dX4_bitsOf_70 rfl rfl ?_
  refine XW.fconst1 72 dX4_bitsOf_71 rfl ?_
  refine XW.fsub 73 dX4_bitsOf_72 (n_val (by rw [k1]; exact FP.Core.Datum.noConfusion)) rfl ?_
  refine XW.ldcf 75 k4_40 dX4_bitsOf_73 rfl ?_
  refine XW.fmul 76 dX4_bitsOf_75 (n_mul k1 k_23) rfl ?_
  refine XW.f2i 77 dX4_bitsOf_76 rfl ?_
  refine XW.eqs (st' := [.int (nI m)]) rfl (by rw [k_fig hm]) rfl ?_
  refine XW.istore_n 78 (L' := [some (.float (fs 1 P m)), some (.float (fb 127 m)), some (.int (nI P)), some (.int (nI m))]) dX4_bitsOf_77 (by decide) rfl rfl rfl ?_
  refine XW.fload_n 79 dX4_bitsOf_78 rfl rfl ?_
  refine XW.fconst0 80 dX4_bitsOf_79 rfl ?_
  refine XW.fcmp 81 dX4_bitsOf_80 rfl ?_
  refine XW.if_ge 89 84 dX4_bitsOf_81 (by decide) rfl (fun c0 => absurd c0 (by rw [cm_neg (by omega) (by omega) hm]; decide)) (fun c0 => ?_)
  refine XW.ldci 86 k4_38 dX4_bitsOf_84 rfl ?_
  refine XW.goto 90 dX4_bitsOf_86 (by decide) ?_
  refine XW.iload_n 91 dX4_bitsOf_90 rfl rfl ?_
  refine XW.bipush 93 dX4_bitsOf_91 (v := 23) (by decide) rfl ?_
  refine XW.ishl 94 dX4_bitsOf_93 rfl ?_
  refine XW.ior 95 dX4_bitsOf_94 rfl ?_
  refine XW.iload_n 96 dX4_bitsOf_95 rfl rfl ?_
  refine XW.ior 97 dX4_bitsOf_96 rfl ?_
  exact XW.iret dX4_bitsOf_97 rfl ⟨by rw [sh_Q P (by omega), show (-2147483648 : Int32) = nI 2147483648 from rfl, nI_or, nI_or, Nat.or_assoc, or_P hm, Nat.or_comm, ← nI_or, show nI 2147483648 = (-2147483648 : Int32) from rfl, fs_int (by omega) hm], rfl⟩
set_option maxHeartbeats 400000 in
set_option maxRecDepth 100000 in
theorem k_b_1 {h : xH} {P m : Nat} (hm : m < 8388608) (P1 : 64 ≤ P) (P2 : P ≤ 190) : XC mX4_bitsOf 0 0 0 [.float (fs 1 P m)] h (fun r h' => r = some (.int ((fs 1 P m).toInt32)) ∧ h' = h) := by
  show XW mX4_bitsOf 0 0 0 0 [some (.float (fs 1 P m)), none, none, none] [] h _
  refine XW.fload_n 1 dX4_bitsOf_0 rfl rfl ?_
  refine XW.fconst0 2 dX4_bitsOf_1 rfl ?_
  refine XW.fcmp 3 dX4_bitsOf_2 rfl ?_
  refine XW.if_ne 21 6 dX4_bitsOf_3 (by decide) rfl (fun c0 => ?_) (fun c0 => absurd c0 (by rw [cm_neg (by omega) (by omega) hm]; decide))
  refine XW.fload_n 22 dX4_bitsOf_21 rfl rfl ?_
  refine XW.fconst0 23 dX4_bitsOf_22 rfl ?_
  refine XW.fcmp 24 dX4_bitsOf_23 rfl ?_
  refine XW.if_ge 32 27 dX4_bitsOf_24 (by decide) rfl (fun c0 => absurd c0 (by rw [cm_neg (by omega) (by omega) hm]; decide)) (fun c0 => ?_)
  refine XW.fload_n 28 dX4_bitsOf_27 rfl rfl ?_
  refine XW.fneg 29 dX4_bitsOf_28 rfl ?_
  refine XW.goto 33 dX4_bitsOf_29 (by decide) ?_
  refine XW.eqs (st' := [.float (fb P m)]) rfl (by rw [fneg_fs (by omega) (by omega) hm]) rfl ?_
  refine XW.fstore_n 34 (L' := [some (.float (fs 1 P m)), some (.float (fb P m)), none, none]) dX4_bitsOf_33 (by decide) rfl rfl rfl ?_
  refine XW.bipush 36 dX4_bitsOf_34 (v := 127) (by decide) rfl ?_
  refine XW.istore_n 37 (L' := [some (.float (fs 1 P m)), some (.float (fb P m)), some (.int (nI 127)), none]) dX4_bitsOf_36 (by decide) rfl rfl rfl ?_
  exact X4_bitsOf_hlv hm P1 P2 (fun e q g1 g2 g3 => X4_bitsOf_dbl hm P1 P2 (k_b70_1 hm P1 P2) 128 e q g2 (by omega) g1 g3) 191 P 127 (by omega) (by omega) (by omega) (by omega)
set_option maxHeartbeats 400000 in
set_option maxRecDepth 100000 in
theorem k_zp {h : xH} : XC mX4_bitsOf 0 0 0 [.float 0] h (fun r h' => r = some (.int ((0 : UInt32).toInt32)) ∧ h' = h) := by
  show XW mX4_bitsOf 0 0 0 0 [some (.float 0), none, none, none] [] h _
  refine XW.fload_n 1 dX4_bitsOf_0 rfl rfl ?_
  refine XW.fconst0 2 dX4_bitsOf_1 rfl ?_
  refine XW.fcmp 3 dX4_bitsOf_2 rfl ?_
  refine XW.if_ne 21 6 dX4_bitsOf_3 (by decide) rfl (fun c0 => absurd (by decide +kernel) c0) (fun c0 => ?_)
  refine XW.fconst1 7 dX4_bitsOf_6 rfl ?_
  refine XW.fload_n 8 dX4_bitsOf_7 rfl rfl ?_
  refine XW.fdiv 9 dX4_bitsOf_8 (by show (FP.fdiv FP.fconst1 0 : UInt32) &&& 0x7fffffff ≤ 0x7f800000; decide +kernel) rfl ?_
  refine XW.fconst0 10 dX4_bitsOf_9 rfl ?_
  refine XW.fcmp 11 dX4_bitsOf_10 rfl ?_
  refine XW.if_ge 19 14 dX4_bitsOf_11 (by decide) rfl (fun c0 => ?_) (fun c0 => absurd (by decide +kernel) c0)
  refine XW.iconst 20 dX4_bitsOf_19 (v := 0) (by decide) rfl ?_
  exact XW.iret dX4_bitsOf_20 rfl ⟨rfl, rfl⟩
set_option maxHeartbeats 400000 in
set_option maxRecDepth 100000 in
theorem k_zn {h : xH} : XC mX4_bitsOf 0 0 0 [.float 2147483648] h (fun r h' => r = some (.int ((2147483648 : UInt32).toInt32)) ∧ h' = h) := by
  show XW mX4_bitsOf 0 0 0 0 [some (.float 2147483648), none, none, none] [] h _
  refine XW.fload_n 1 dX4_bitsOf_0 rfl rfl ?_
  refine XW.fconst0 2 dX4_bitsOf_1 rfl ?_
  refine XW.fcmp 3 dX4_bitsOf_2 rfl ?_
  refine XW.if_ne 21 6 dX4_bitsOf_3 (by decide) rfl (fun c0 => absurd (by decide +kernel) c0) (fun c0 => ?_)
  refine XW.fconst1 7 dX4_bitsOf_6 rfl ?_
  refine XW.fload_n 8 dX4_bitsOf_7 rfl rfl ?_
  refine XW.fdiv 9 dX4_bitsOf_8 (by show (FP.fdiv FP.fconst1 2147483648 : UInt32) &&& 0x7fffffff ≤ 0x7f800000; decide +kernel) rfl ?_
  refine XW.fconst0 10 dX4_bitsOf_9 rfl ?_
  refine XW.fcmp 11 dX4_bitsOf_10 rfl ?_
  refine XW.if_ge 19 14 dX4_bitsOf_11 (by decide) rfl (fun c0 => absurd c0 (by decide +kernel)) (fun c0 => ?_)
  refine XW.ldci 16 k4_38 dX4_bitsOf_14 rfl ?_
  refine XW.goto 20 dX4_bitsOf_16 (by decide) ?_
  exact XW.iret dX4_bitsOf_20 rfl ⟨rfl, rfl⟩
theorem k_bitsOf' (x : UInt32) (h : xH) (hx : okB x ∨ x = 2147483648) : XC mX4_bitsOf 0 0 0 [.float x] h (fun r h' => r = some (.int x.toInt32) ∧ h' = h) := by
  rcases hx with (rfl | ⟨s, E, m, s2, E1, E2, hm, rfl⟩) | rfl
  · exact k_zp
  · rcases (show s = 0 ∨ s = 1 by omega) with rfl | rfl
    · exact k_b_0 hm E1 E2
    · exact k_b_1 hm E1 E2
  · exact k_zn
