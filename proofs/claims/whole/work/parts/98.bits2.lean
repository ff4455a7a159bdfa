/-! Floats: their bits, by halving and doubling -/
def fb (E m : Nat) : UInt32 := UInt32.ofNat (E * 8388608 + m)
def fs (s E m : Nat) : UInt32 := UInt32.ofNat (s * 2147483648 + E * 8388608 + m)
section Fb
variable {E m s : Nat}
theorem fb_nat (hE : E ≤ 254) (hm : m < 8388608) : (fb E m).toNat = E * 8388608 + m := by
  unfold fb; rw [UInt32.toNat_ofNat']; omega
theorem fs_nat (hs : s < 2) (hE : E ≤ 254) (hm : m < 8388608) : (fs s E m).toNat = s * 2147483648 + E * 8388608 + m := by
  unfold fs; rw [UInt32.toNat_ofNat']; omega
theorem fs_0 : fs 0 E m = fb E m := by unfold fs fb; rw [Nat.zero_mul, Nat.zero_add]
theorem fb_NF (hE : E ≤ 254) (hm : m < 8388608) : NF (fb E m) := by
  show (fb E m).toNat < 0x7f800000
  rw [fb_nat hE hm]; omega
theorem fb_val (h1 : 1 ≤ E) (hE : E ≤ 254) (hm : m < 8388608) : FP.Core.val32 (fb E m) = .fin false (2 ^ 23 + m) ((E : Int) - 150) := by
  have e1 : FP.Core.fieldE FP.Core.b32 (fb E m).toNat = E := by
    show (fb E m).toNat / 2 ^ 23 % 2 ^ 8 = E
    rw [fb_nat hE hm]; omega
  have e2 : FP.Core.fieldT FP.Core.b32 (fb E m).toNat = m := by
    show (fb E m).toNat % 2 ^ 23 = m
    rw [fb_nat hE hm]; omega
  have e3 : FP.Core.fieldS FP.Core.b32 (fb E m).toNat = false := by
    show ((fb E m).toNat / 2 ^ 23 / 2 ^ 8 % 2 == 1) = false
    rw [fb_nat hE hm, show (E * 8388608 + m) / 2 ^ 23 / 2 ^ 8 % 2 = 0 by omega]; rfl
  unfold FP.Core.val32 FP.Core.decode
  rw [e1, e2, e3, if_neg (by show ¬ E = 2 ^ 8 - 1; omega), if_neg (by omega), FP.Core.tails_b32, FP.Core.qmin_b32]
  congr 1
  omega
theorem fb_fits {s : Bool} (h1 : 1 ≤ E) (hE : E ≤ 254) (hm : m < 8388608) : FP.Core.fits FP.Core.b32 (.fin s (2 ^ 23 + m) ((E : Int) - 150)) := by
  refine ⟨by show 2 ^ 23 + m < 2 ^ 24; omega, by rw [FP.Core.qmin_b32]; omega, ?_, Or.inr (by rw [FP.Core.tails_b32]; omega)⟩
  have : FP.Core.b32.qmax = 104 := by decide
  rw [this]; omega
/-- times a power of two -/
theorem fm_pow {E' : Nat} {K : UInt32} {t : Int} (hK : FP.Core.val32 K = .fin false (2 ^ 23) t) (h1 : 1 ≤ E) (hE : E ≤ 254) (hm : m < 8388608) (h1' : 1 ≤ E') (hE' : E' ≤ 254) (he : (E' : Int) = E + t + 23) : FP.fmul (fb E m) K = fb E' m := by
  have e : FP.Core.val32 (FP.fmul (fb E m) K) = FP.Core.val32 (fb E' m) := by
    rw [mul_sg (fb_val h1 hE hm) hK, fb_val h1' hE' hm]
    refine FP.Core.roundRatio_exact FP.Core.good_b32 (by decide) (fb_fits h1' hE' hm) ?_
    rw [show ((E : Int) - 150 + t - ((E' : Int) - 150)).toNat = 0 by omega, show ((E' : Int) - 150 - ((E : Int) - 150 + t)).toNat = 23 by omega, Nat.pow_zero, Nat.mul_one, Nat.mul_one]
  refine FP.Core.val32_inj ?_ e
  rw [e, fb_val h1' hE' hm]
  exact FP.Core.Datum.noConfusion
theorem k_half : FP.Core.val32 1056964608 = .fin false (2 ^ 23) (-24) := by decide +kernel
theorem k_two : FP.Core.val32 FP.fconst2 = .fin false (2 ^ 23) (-22) := by decide +kernel
theorem k_one : FP.Core.val32 FP.fconst1 = .fin false (2 ^ 23) (-23) := by decide +kernel
theorem k_23 : FP.Core.val32 1258291200 = .fin false (2 ^ 23) 0 := by decide +kernel
theorem fm_half (h1 : 2 ≤ E) (hE : E ≤ 254) (hm : m < 8388608) : FP.fmul (fb E m) 1056964608 = fb (E - 1) m := fm_pow k_half (by omega) hE hm (by omega) (by omega) (by omega)
theorem fm_two (h1 : 1 ≤ E) (hE : E ≤ 253) (hm : m < 8388608) : FP.fmul (fb E m) FP.fconst2 = fb (E + 1) m := fm_pow k_two h1 (by omega) hm (by omega) (by omega) (by omega)
theorem i2f_val {w : Nat} (hw : w ≤ 2 ^ 24) : FP.Core.val32 (FP.i2f (nI w)) = FP.Core.roundRatio FP.Core.b32 false w 1 0 := by
  have h1 : (nI w).toInt = (w : Int) := Int32.toInt_ofNat_of_lt (by omega)
  show FP.Core.val32 (FP.Core.i2f (nI w)) = _
  rw [FP.Core.val32_i2f, h1]
  show FP.Core.roundRatio FP.Core.b32 (decide ((w : Int) < 0)) (w : Int).natAbs 1 0 = _
  rw [decide_eq_false (by omega), Int.natAbs_natCast]
theorem f2i_back {w : Nat} {y : UInt32} (hw : w ≤ 2 ^ 24) (h : FP.Core.val32 y = FP.Core.roundRatio FP.Core.b32 false w 1 0) : FP.f2i y = nI w := by
  have e : y = FP.i2f (nI w) := FP.Core.val32_inj (by rw [h]; exact FP.Core.roundRatio_ne_nan _ _ _ _ _) (by rw [h, i2f_val hw])
  rw [e]
  refine FP.Core.f2i_i2f ?_
  rw [show (nI w).toInt = (w : Int) from Int32.toInt_ofNat_of_lt (by omega), Int.natAbs_natCast]; exact hw
/-- the figures of a number from 1 to 2 -/
theorem c_fig (hm : m < 8388608) : FP.f2i (FP.fmul (fb 127 m) 1258291200) = nI (8388608 + m) := by
  refine f2i_back (by omega) ?_
  rw [mul_sg (fb_val (by omega) (by omega) hm) k_23]
  refine FP.Core.roundRatio_congr (by decide) (by decide) ?_
  rw [show (((127 : Nat) : Int) - 150 + 0 - 0).toNat = 0 by decide, show ((0 : Int) - (((127 : Nat) : Int) - 150 + 0)).toNat = 23 by decide, Nat.pow_zero, Nat.mul_one, Nat.mul_one, Nat.mul_one]
theorem k_sub (hm : m < 8388608) : ∃ c q, FP.Core.val32 (FP.fsub (fb 127 m) FP.fconst1) = .fin false c q ∧ -149 ≤ q ∧ FP.Core.inUnits c q (-149) = m * 2 ^ 126 := by
  have e : FP.Core.val32 (FP.fsub (fb 127 m) FP.fconst1) = FP.Core.round FP.Core.b32 (.fin false m (-23)) := by
    show FP.Core.val32 (FP.Core.fsub (fb 127 m) FP.fconst1) = _
    rw [FP.Core.val32_fsub, fb_val (by omega) (by omega) hm, k_one]
    congr 1
    have v : FP.Core.sumUnits false (2 ^ 23 + m) (-23) true (2 ^ 23) (-23) (-23) = (m : Int) := by
      unfold FP.Core.sumUnits FP.Core.inUnits FP.Core.signed
      rw [show ((-23 : Int) - -23).toNat = 0 by decide, Nat.pow_zero, Nat.mul_one, Nat.mul_one, if_neg (by decide), if_pos rfl]
      omega
    show FP.Core.Datum.fin (FP.Core.sumSign false true (FP.Core.sumUnits false (2 ^ 23 + m) (-23) true (2 ^ 23) (-23) (-23))) (FP.Core.sumUnits false (2 ^ 23 + m) (-23) true (2 ^ 23) (-23) (-23)).natAbs (-23) = _
    rw [v]
    have g : FP.Core.sumSign false true (m : Int) = false := by
      unfold FP.Core.sumSign
      split
      · rfl
      · exact decide_eq_false (by omega)
    rw [g, Int.natAbs_natCast]
  obtain ⟨c, q, h1, h2⟩ := FP.Core.round_exact FP.Core.good_b32 false (c := m) (q := -23) (by show m < 2 ^ 24; omega) (by rw [FP.Core.qmin_b32]; decide) (by decide)
  refine ⟨c, q, by rw [e, h1], ?_, ?_⟩
  · have := (FP.Core.val32_fits (FP.fsub (fb 127 m) FP.fconst1))
    rw [e, h1] at this
    have := this.2.1
    rw [FP.Core.qmin_b32] at this; exact this
  · rw [FP.Core.qmin_b32] at h2; rw [h2]; rfl
theorem k_fig (hm : m < 8388608) : FP.f2i (FP.fmul (FP.fsub (fb 127 m) FP.fconst1) 1258291200) = nI m := by
  obtain ⟨c, q, h1, h2, h3⟩ := k_sub hm
  refine f2i_back (by omega) ?_
  rw [mul_sg h1 k_23]
  refine FP.Core.roundRatio_congr (by decide) (by decide) ?_
  unfold FP.Core.inUnits at h3
  rw [Nat.mul_one, Nat.mul_one, Int.add_zero, Int.sub_zero, show (0 : Int) - q = -q by omega]
  have p : 0 < 2 ^ (min q 0 - -149).toNat := Nat.two_pow_pos _
  refine Nat.eq_of_mul_eq_mul_right p ?_
  have a1 : q.toNat + (min q 0 - -149).toNat = (q - -149).toNat := by omega
  have a2 : (-q).toNat + (min q 0 - -149).toNat = 149 := by omega
  rw [Nat.mul_assoc (c * 2 ^ 23), ← Nat.pow_add, a1, Nat.mul_assoc m, ← Nat.pow_add, a2, Nat.mul_right_comm c, h3, Nat.mul_assoc, ← Nat.pow_add]
end Fb
