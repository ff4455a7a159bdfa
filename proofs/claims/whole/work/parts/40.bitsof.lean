/-! A float as its bits: the two methods -/
/-- a float that the two methods give the bits of alike: +0, or one whose exponent is neither small nor great -/
def okB (x : UInt32) : Prop := x = 0 ∨ ∃ s E m : Nat, s < 2 ∧ 64 ≤ E ∧ E ≤ 190 ∧ m < 8388608 ∧ x = UInt32.ofNat (s * 2147483648 + E * 8388608 + m)
theorem and_g {a b : Bool} (h : (a && b) = true) : a = true ∧ b = true := by rw [Bool.and_eq_true] at h; exact h
theorem okB_FQ {K k : Nat} {x : UInt32} (h : FQ K k x) (hk : 86 ≤ k) (hK : K ≤ 191) (nz : ¬ x.toNat % 2 ^ 31 = 0) : okB x := by
  have h1 := h.1
  have h2 := dy_mag (by omega) (h.fi (by omega)) h.2 nz
  have h3 := x.toNat_lt
  have h4 : 64 * 2 ^ 23 ≤ x.toNat % 2 ^ 31 := Nat.le_trans (Nat.mul_le_mul_right _ (by omega)) h2
  have h5 : x.toNat % 2 ^ 31 < 191 * 2 ^ 23 := Nat.lt_of_lt_of_le h1 (Nat.mul_le_mul_right _ hK)
  refine Or.inr ⟨x.toNat / 2 ^ 31, x.toNat % 2 ^ 31 / 2 ^ 23, x.toNat % 2 ^ 23, by omega, by omega, by omega, by omega, ?_⟩
  rw [show x.toNat / 2 ^ 31 * 2147483648 + x.toNat % 2 ^ 31 / 2 ^ 23 * 8388608 + x.toNat % 2 ^ 23 = x.toNat by omega, UInt32.ofNat_toNat]
theorem okB_pos {K k : Nat} {x : UInt32} (h : FQ K k x) (hk : 86 ≤ k) (hK : K ≤ 191) (hp : posF x) : okB x := by
  by_cases e : x.toNat % 2 ^ 31 = 0
  · have hp : x.toNat < 2 ^ 31 := hp
    exact Or.inl (UInt32.toNat_inj.mp (by rw [show x.toNat = 0 by omega]; rfl))
  · exact okB_FQ h hk hK e
theorem ob_light {r g b : Int32} (hr : isP r) (hg : isP g) (hb : isP b) : okB (lightF r g b) := okB_pos (fq_li hr hg hb).1 (by decide) (by decide) (fq_li hr hg hb).2
theorem ob_far {w0 w1 w2 : Int32} {a0 b0 a1 b1 a2 b2 : UInt32} (h0 : isW w0) (h1 : isW w1) (h2 : isW w2) (ha0 : isS a0) (hb0 : isS b0) (ha1 : isS a1) (hb1 : isS b1) (ha2 : isS a2) (hb2 : isS b2) : okB (farF w0 w1 w2 a0 b0 a1 b1 a2 b2) := okB_pos (fq_fa h0 h1 h2 ha0 hb0 ha1 hb1 ha2 hb2).1 (by decide) (by decide) (fq_fa h0 h1 h2 ha0 hb0 ha1 hb1 ha2 hb2).2
/-- what is rounded to nothing was nothing -/
theorem rr_nz {x : UInt32} {s : Bool} {A : Nat} {e e0 : Int} (h : FP.Core.val32 x = FP.Core.roundRatio FP.Core.b32 s A 1 e) (h0 : e0 ≤ -149) (h1 : e0 ≤ e) (hA : 2 ^ (-149 - e0).toNat ≤ FP.Core.inUnits A e e0) : ¬ x.toNat % 2 ^ 31 = 0 := by
  have h2 := FP.Core.mag_ge (m := 1) FP.Core.good_b32 (n := x.toNat) h (by decide) (by rw [FP.Core.qmin_b32]; exact h0) h1 (by rw [FP.Core.infBits_b32]; decide) (by rw [FP.Core.qmin_b32, show FP.Core.unitsOf FP.Core.b32 1 = 1 by decide +kernel, Nat.one_mul, Nat.mul_one]; exact hA)
  rw [FP.Core.mag_toNat32] at h2
  omega
theorem neg0_of {a : UInt32} {s : Bool} {c : Nat} {q : Int} (h : FP.Core.val32 a = .fin s c q) (hs : s = true) (hc : c = 0) : a = 2147483648 := by
  subst hs; subst hc
  have hf : FP.Core.fits FP.Core.b32 (.fin true 0 q) := h ▸ FP.Core.val32_fits a
  have hq := FP.Core.fits_zero_q FP.Core.good_b32 hf
  subst hq
  refine FP.Core.val32_inj (by rw [h]; exact FP.Core.Datum.noConfusion) ?_
  rw [h]; exact FP.Core.val32_fzeroNeg.symm
theorem add_neg0 {a b : UInt32} (fa : fiF a) (fb : fiF b) (h : FP.fadd a b = 2147483648) : a = 2147483648 ∧ b = 2147483648 := by
  obtain ⟨s, c, q, ea, ga⟩ := fi_at fa
  obtain ⟨t, d, r, eb, gb⟩ := fi_at fb
  have e : FP.Core.val32 (FP.fadd a b) = FP.Core.roundRatio FP.Core.b32 (FP.Core.sumSign s t (FP.Core.sumUnits s c q t d r (min q r))) (FP.Core.sumUnits s c q t d r (min q r)).natAbs 1 (min q r) := by
    show FP.Core.val32 (FP.Core.fadd a b) = _
    rw [FP.Core.val32_fadd, ea, eb]; rfl
  have hq : -149 ≤ q := by have := ga.2.1; rw [FP.Core.qmin_b32] at this; exact this
  have hr : -149 ≤ r := by have := gb.2.1; rw [FP.Core.qmin_b32] at this; exact this
  have hv : FP.Core.sumUnits s c q t d r (min q r) = 0 := by
    refine Classical.byContradiction fun hn => ?_
    refine rr_nz e (e0 := -149) (by omega) (by omega) ?_ (by rw [h]; decide)
    unfold FP.Core.inUnits
    exact Nat.mul_pos (Int.natAbs_pos.mpr hn) (Nat.two_pow_pos _)
  have hs := FP.Core.sgn_roundRatio FP.Core.b32 (FP.Core.sumSign s t (FP.Core.sumUnits s c q t d r (min q r))) (FP.Core.sumUnits s c q t d r (min q r)).natAbs 1 (min q r)
  rw [← e, h, show FP.Core.val32 2147483648 = .fin true 0 FP.Core.b32.qmin from FP.Core.val32_fzeroNeg, hv] at hs
  have hs : true = (s && t) := hs
  obtain ⟨s1, t1⟩ := and_g hs.symm
  subst s1; subst t1
  have hv : -((FP.Core.inUnits c q (min q r) : Nat) : Int) + -((FP.Core.inUnits d r (min q r) : Nat) : Int) = 0 := hv
  have z : ∀ (c : Nat) (q e : Int), FP.Core.inUnits c q e = 0 → c = 0 := fun c q e h => (Nat.mul_eq_zero.mp h).resolve_right (Nat.ne_of_gt (Nat.two_pow_pos _))
  exact ⟨neg0_of ea rfl (z c q (min q r) (by omega)), neg0_of eb rfl (z d r (min q r) (by omega))⟩
theorem mul_neg0 {x r : Int32} (hx : isT x) (hr : isP r) (h : FP.fmul (FP.fdiv (FP.i2f x) 1120403456) (FP.i2f r) = 2147483648) : x < 0 ∧ r = 0 := by
  obtain ⟨qx, px, zx⟩ := fq_t hx
  obtain ⟨qr, pr⟩ := fq_part hr
  obtain ⟨s, c, q, ea, ga⟩ := fi_at (qx.fi (by decide))
  obtain ⟨t, d, u, eb, gb⟩ := fi_at (qr.fi (by decide))
  have e := mul_sg ea eb
  have ht := pos_sg eb pr
  subst ht
  have hs := FP.Core.sgn_roundRatio FP.Core.b32 (s != false) (c * d) 1 (q + u)
  rw [← e, h, show FP.Core.val32 2147483648 = .fin true 0 FP.Core.b32.qmin from FP.Core.val32_fzeroNeg] at hs
  have hs : true = (s != false) := hs
  have s1 : s = true := by cases s with
    | true => rfl
    | false => cases hs
  subst s1
  have hn : x < 0 := Classical.byContradiction fun hn => by
    have := pos_sg ea (px.mpr hn)
    cases this
  refine ⟨hn, Classical.byContradiction fun h0 => ?_⟩
  obtain ⟨p1, p2, p3⟩ := FP.Core.product_units ga gb
  rw [FP.Core.qmin_b32] at p2 p3
  have z1 : 2 ^ 119 ≤ FP.Core.zmag FP.Core.b32 (FP.Core.val32 (FP.fdiv (FP.i2f x) 1120403456)) := Nat.le_of_dvd (Nat.pos_of_ne_zero fun z => (zx hn).1 (by rw [FP.Core.zmag_toNat32 (fi_nn (qx.fi (by decide)))] at z; exact FP.Core.unitsOf_eq_zero.mp z)) qx.2
  have z2 : 2 ^ 149 ≤ FP.Core.zmag FP.Core.b32 (FP.Core.val32 (FP.i2f r)) := Nat.le_of_dvd (Nat.pos_of_ne_zero fun z => FP.Core.i2f_ne_zero h0 (by rw [FP.Core.zmag_toNat32 (fi_nn (qr.fi (by decide)))] at z; exact FP.Core.unitsOf_eq_zero.mp z)) qr.2
  rw [ea] at z1
  rw [eb] at z2
  refine rr_nz e (e0 := 2 * -149) (by omega) p2 ?_ (by rw [h]; decide)
  rw [p3]
  refine Nat.le_trans ?_ (Nat.mul_le_mul z1 z2)
  decide
theorem ob_seen {x y z r g b : Int32} (hx : isT x) (hy : isT y) (hz : isT z) (hr : isP r) (hg : isP g) (hb : isP b) : (mzF x y z r g b = false → okB (seenF x y z r g b)) ∧ (mzF x y z r g b = true → seenF x y z r g b = 2147483648) := by
  have q := fq_se hx hy hz hr hg hb
  constructor
  · intro hm
    by_cases e : (seenF x y z r g b).toNat % 2 ^ 31 = 0
    · have h3 := (seenF x y z r g b).toNat_lt
      rcases (show (seenF x y z r g b).toNat = 0 ∨ (seenF x y z r g b).toNat = 2147483648 by omega) with e2 | e2
      · exact Or.inl (UInt32.toNat_inj.mp (by rw [e2]; rfl))
      · have e3 : seenF x y z r g b = 2147483648 := UInt32.toNat_inj.mp (by rw [e2]; rfl)
        obtain ⟨a1, a2⟩ := add_neg0 ((fq_s2 hx hy hr hg).fi (by decide)) ((fq_s1 hz hb).fi (by decide)) e3
        obtain ⟨a3, a4⟩ := add_neg0 ((fq_s1 hx hr).fi (by decide)) ((fq_s1 hy hg).fi (by decide)) a1
        obtain ⟨b1, b2⟩ := mul_neg0 hx hr a3
        obtain ⟨b3, b4⟩ := mul_neg0 hy hg a4
        obtain ⟨b5, b6⟩ := mul_neg0 hz hb a2
        have := of_decide_eq_false hm
        exact absurd ⟨b1, b2, b3, b4, b5, b6⟩ this
    · exact okB_FQ q (by decide) (by decide) e
  · intro hm
    obtain ⟨b1, b2, b3, b4, b5, b6⟩ := of_decide_eq_true hm
    unfold seenF
    rw [b2, b4, b6, ((fq_t hx).2.2 b1).2, ((fq_t hy).2.2 b3).2, ((fq_t hz).2.2 b5).2]
    decide +kernel
def fb (E m : Nat) : UInt32 := UInt32.ofNat (E * 8388608 + m)
def fs (s E m : Nat) : UInt32 := UInt32.ofNat (s * 2147483648 + E * 8388608 + m)
section Fb
variable {E m s : Nat}
theorem fb_nat (hE : E ≤ 254) (hm : m < 8388608) : (fb E m).toNat = E * 8388608 + m := by
  unfold fb; rw [UInt32.toNat_ofNat']; omega
theorem fs_nat (hs : s < 2) (hE : E ≤ 254) (hm : m < 8388608) : (fs s E m).toNat = s * 2147483648 + E * 8388608 + m := by
  unfold fs; rw [UInt32.toNat_ofNat']; omega
theorem fs_0 : fs 0 E m = fb E m := by unfold fs fb; rw [Nat.zero_mul, Nat.zero_add]
theorem fb_NF (hE : E ≤ 254) (hm : m < 8388608) : NF (fb E m) := by
  show (fb E m).toNat < 0x7f800000
  rw [fb_nat hE hm]; omega
theorem fb_val (h1 : 1 ≤ E) (hE : E ≤ 254) (hm : m < 8388608) : FP.Core.val32 (fb E m) = .fin false (2 ^ 23 + m) ((E : Int) - 150) := by
  have e1 : FP.Core.fieldE FP.Core.b32 (fb E m).toNat = E := by
    show (fb E m).toNat / 2 ^ 23 % 2 ^ 8 = E
    rw [fb_nat hE hm]; omega
  have e2 : FP.Core.fieldT FP.Core.b32 (fb E m).toNat = m := by
    show (fb E m).toNat % 2 ^ 23 = m
    rw [fb_nat hE hm]; omega
  have e3 : FP.Core.fieldS FP.Core.b32 (fb E m).toNat = false := by
    show ((fb E m).toNat / 2 ^ 23 / 2 ^ 8 % 2 == 1) = false
    rw [fb_nat hE hm, show (E * 8388608 + m) / 2 ^ 23 / 2 ^ 8 % 2 = 0 by omega]; rfl
  unfold FP.Core.val32 FP.Core.decode
  rw [e1, e2, e3, if_neg (by show ¬ E = 2 ^ 8 - 1; omega), if_neg (by omega), FP.Core.tails_b32, FP.Core.qmin_b32]
  congr 1
  omega
theorem fb_fits {s : Bool} (h1 : 1 ≤ E) (hE : E ≤ 254) (hm : m < 8388608) : FP.Core.fits FP.Core.b32 (.fin s (2 ^ 23 + m) ((E : Int) - 150)) := by
  refine ⟨by show 2 ^ 23 + m < 2 ^ 24; omega, by rw [FP.Core.qmin_b32]; omega, ?_, Or.inr (by rw [FP.Core.tails_b32]; omega)⟩
  have : FP.Core.b32.qmax = 104 := by decide
  rw [this]; omega
/-- times a power of two -/
theorem fm_pow {E' : Nat} {K : UInt32} {t : Int} (hK : FP.Core.val32 K = .fin false (2 ^ 23) t) (h1 : 1 ≤ E) (hE : E ≤ 254) (hm : m < 8388608) (h1' : 1 ≤ E') (hE' : E' ≤ 254) (he : (E' : Int) = E + t + 23) : FP.fmul (fb E m) K = fb E' m := by
  have e : FP.Core.val32 (FP.fmul (fb E m) K) = FP.Core.val32 (fb E' m) := by
    rw [mul_sg (fb_val h1 hE hm) hK, fb_val h1' hE' hm]
    refine FP.Core.roundRatio_exact FP.Core.good_b32 (by decide) (fb_fits h1' hE' hm) ?_
    rw [show ((E : Int) - 150 + t - ((E' : Int) - 150)).toNat = 0 by omega, show ((E' : Int) - 150 - ((E : Int) - 150 + t)).toNat = 23 by omega, Nat.pow_zero, Nat.mul_one, Nat.mul_one]
  refine FP.Core.val32_inj ?_ e
  rw [e, fb_val h1' hE' hm]
  exact FP.Core.Datum.noConfusion
theorem k_half : FP.Core.val32 1056964608 = .fin false (2 ^ 23) (-24) := by decide +kernel
theorem k_two : FP.Core.val32 FP.fconst2 = .fin false (2 ^ 23) (-22) := by decide +kernel
theorem k_one : FP.Core.val32 FP.fconst1 = .fin false (2 ^ 23) (-23) := by decide +kernel
theorem k_23 : FP.Core.val32 1258291200 = .fin false (2 ^ 23) 0 := by decide +kernel
theorem fm_half (h1 : 2 ≤ E) (hE : E ≤ 254) (hm : m < 8388608) : FP.fmul (fb E m) 1056964608 = fb (E - 1) m := fm_pow k_half (by omega) hE hm (by omega) (by omega) (by omega)
theorem fm_two (h1 : 1 ≤ E) (hE : E ≤ 253) (hm : m < 8388608) : FP.fmul (fb E m) FP.fconst2 = fb (E + 1) m := fm_pow k_two h1 (by omega) hm (by omega) (by omega) (by omega)
theorem i2f_val {w : Nat} (hw : w ≤ 2 ^ 24) : FP.Core.val32 (FP.i2f (nI w)) = FP.Core.roundRatio FP.Core.b32 false w 1 0 := by
  have h1 : (nI w).toInt = (w : Int) := Int32.toInt_ofNat_of_lt (by omega)
  show FP.Core.val32 (FP.Core.i2f (nI w)) = _
  rw [FP.Core.val32_i2f, h1]
  show FP.Core.roundRatio FP.Core.b32 (decide ((w : Int) < 0)) (w : Int).natAbs 1 0 = _
  rw [decide_eq_false (by omega), Int.natAbs_natCast]
theorem f2i_back {w : Nat} {y : UInt32} (hw : w ≤ 2 ^ 24) (h : FP.Core.val32 y = FP.Core.roundRatio FP.Core.b32 false w 1 0) : FP.f2i y = nI w := by
  have e : y = FP.i2f (nI w) := FP.Core.val32_inj (by rw [h]; exact FP.Core.roundRatio_ne_nan _ _ _ _ _) (by rw [h, i2f_val hw])
  rw [e]
  refine FP.Core.f2i_i2f ?_
  rw [show (nI w).toInt = (w : Int) from Int32.toInt_ofNat_of_lt (by omega), Int.natAbs_natCast]; exact hw
/-- the figures of a number from 1 to 2 -/
theorem c_fig (hm : m < 8388608) : FP.f2i (FP.fmul (fb 127 m) 1258291200) = nI (8388608 + m) := by
  refine f2i_back (by omega) ?_
  rw [mul_sg (fb_val (by omega) (by omega) hm) k_23]
  refine FP.Core.roundRatio_congr (by decide) (by decide) ?_
  rw [show (((127 : Nat) : Int) - 150 + 0 - 0).toNat = 0 by decide, show ((0 : Int) - (((127 : Nat) : Int) - 150 + 0)).toNat = 23 by decide, Nat.pow_zero, Nat.mul_one, Nat.mul_one, Nat.mul_one]
theorem k_sub (hm : m < 8388608) : ∃ c q, FP.Core.val32 (FP.fsub (fb 127 m) FP.fconst1) = .fin false c q ∧ -149 ≤ q ∧ FP.Core.inUnits c q (-149) = m * 2 ^ 126 := by
  have e : FP.Core.val32 (FP.fsub (fb 127 m) FP.fconst1) = FP.Core.round FP.Core.b32 (.fin false m (-23)) := by
    show FP.Core.val32 (FP.Core.fsub (fb 127 m) FP.fconst1) = _
    rw [FP.Core.val32_fsub, fb_val (by omega) (by omega) hm, k_one]
    congr 1
    have v : FP.Core.sumUnits false (2 ^ 23 + m) (-23) true (2 ^ 23) (-23) (-23) = (m : Int) := by
      unfold FP.Core.sumUnits FP.Core.inUnits FP.Core.signed
      rw [show ((-23 : Int) - -23).toNat = 0 by decide, Nat.pow_zero, Nat.mul_one, Nat.mul_one, if_neg (by decide), if_pos rfl]
      omega
    show FP.Core.Datum.fin (FP.Core.sumSign false true (FP.Core.sumUnits false (2 ^ 23 + m) (-23) true (2 ^ 23) (-23) (-23))) (FP.Core.sumUnits false (2 ^ 23 + m) (-23) true (2 ^ 23) (-23) (-23)).natAbs (-23) = _
    rw [v]
    have g : FP.Core.sumSign false true (m : Int) = false := by
      unfold FP.Core.sumSign
      split
      · rfl
      · exact decide_eq_false (by omega)
    rw [g, Int.natAbs_natCast]
  obtain ⟨c, q, h1, h2⟩ := FP.Core.round_exact FP.Core.good_b32 false (c := m) (q := -23) (by show m < 2 ^ 24; omega) (by rw [FP.Core.qmin_b32]; decide) (by decide)
  refine ⟨c, q, by rw [e, h1], ?_, ?_⟩
  · have := (FP.Core.val32_fits (FP.fsub (fb 127 m) FP.fconst1))
    rw [e, h1] at this
    have := this.2.1
    rw [FP.Core.qmin_b32] at this; exact this
  · rw [FP.Core.qmin_b32] at h2; rw [h2]; rfl
theorem k_fig (hm : m < 8388608) : FP.f2i (FP.fmul (FP.fsub (fb 127 m) FP.fconst1) 1258291200) = nI m := by
  obtain ⟨c, q, h1, h2, h3⟩ := k_sub hm
  refine f2i_back (by omega) ?_
  rw [mul_sg h1 k_23]
  refine FP.Core.roundRatio_congr (by decide) (by decide) ?_
  unfold FP.Core.inUnits at h3
  rw [Nat.mul_one, Nat.mul_one, Int.add_zero, Int.sub_zero, show (0 : Int) - q = -q by omega]
  have p : 0 < 2 ^ (min q 0 - -149).toNat := Nat.two_pow_pos _
  refine Nat.eq_of_mul_eq_mul_right p ?_
  have a1 : q.toNat + (min q 0 - -149).toNat = (q - -149).toNat := by omega
  have a2 : (-q).toNat + (min q 0 - -149).toNat = 149 := by omega
  rw [Nat.mul_assoc (c * 2 ^ 23), ← Nat.pow_add, a1, Nat.mul_assoc m, ← Nat.pow_add, a2, Nat.mul_right_comm c, h3, Nat.mul_assoc, ← Nat.pow_add]
end Fb
theorem n_val {x : UInt32} (h : FP.Core.val32 x ≠ .nan) : vf_n32 x := by
  show x &&& 0x7fffffff ≤ 0x7f800000
  rw [UInt32.le_iff_toNat_le, FP.Core.mask_toNat32]
  exact (FP.Core.ne_nan32 x).mp h
theorem n_mul {a b : UInt32} {s t : Bool} {c d : Nat} {q r : Int} (ea : FP.Core.val32 a = .fin s c q) (eb : FP.Core.val32 b = .fin t d r) : vf_n32 (FP.fmul a b) := n_val (by rw [mul_sg ea eb]; exact FP.Core.roundRatio_ne_nan _ _ _ _ _)
theorem NF_1 : NF FP.fconst1 := by unfold NF; decide
theorem NF_2 : NF FP.fconst2 := by unfold NF; decide
theorem lt_1 {e m : Nat} (he : e ≤ 254) (hm : m < 8388608) : fb e m < FP.fconst1 ↔ e < 127 := by
  rw [UInt32.lt_iff_toNat_lt, fb_nat he hm, show (FP.fconst1).toNat = 127 * 8388608 by decide]; omega
theorem lt_2 {e m : Nat} (he : e ≤ 254) (hm : m < 8388608) : fb e m < FP.fconst2 ↔ e < 128 := by
  rw [UInt32.lt_iff_toNat_lt, fb_nat he hm, show (FP.fconst2).toNat = 128 * 8388608 by decide]; omega
theorem cm_neg {E m : Nat} (h1 : 1 ≤ E) (hE : E ≤ 254) (hm : m < 8388608) (op : CmpOp) : Op.cmpValue (FP.fcmp (fs 1 E m) FP.fconst0) op = -1 := by
  have n := fs_nat (s := 1) (by decide) hE hm
  have h : FP.fcmp (fs 1 E m) FP.fconst0 = some (compare (FP.Core.fkey (fs 1 E m)) (FP.Core.fkey FP.fconst0)) := FP.Core.fcmp_key ((FP.Core.ne_nan32 _).mpr (by rw [n]; omega)) ((FP.Core.ne_nan32 _).mpr (by decide))
  rw [h, (FP.Core.compare_lt_iff _ _).mpr ?_]
  · rfl
  · rw [show FP.Core.fkey FP.fconst0 = 0 by decide]
    unfold FP.Core.fkey
    rw [if_pos (by rw [n]; omega), n]
    omega
theorem cm_pos {E m : Nat} (h1 : 1 ≤ E) (hE : E ≤ 254) (hm : m < 8388608) (op : CmpOp) : Op.cmpValue (FP.fcmp (fb E m) FP.fconst0) op = 1 := by
  rw [fl_cmp (fb_NF hE hm) NF_0]
  unfold cmpU
  have : ¬ fb E m < FP.fconst0 := fun h => by rw [UInt32.lt_iff_toNat_lt] at h; exact absurd h (Nat.not_lt_zero _)
  rw [if_neg this, if_neg]
  intro h
  have h : (fb E m).toNat = 0 := by rw [h]; rfl
  rw [fb_nat hE hm] at h
  omega
theorem fneg_fs {E m : Nat} (h1 : 1 ≤ E) (hE : E ≤ 254) (hm : m < 8388608) : FP.fneg (fs 1 E m) = fb E m := by
  have n := fs_nat (s := 1) (by decide) hE hm
  refine UInt32.toNat_inj.mp ?_
  show (fs 1 E m ^^^ 0x80000000).toNat = _
  rw [UInt32.toNat_xor, n, fb_nat hE hm, show (0x80000000 : UInt32).toNat = 2 ^ 31 * 1 by decide]
  rw [show 1 * 2147483648 + E * 8388608 + m = 2 ^ 31 * 1 + (E * 8388608 + m) by omega, Nat.two_pow_add_eq_or_of_lt (by omega) 1]
  apply Nat.eq_of_testBit_eq
  intro i
  rw [Nat.testBit_xor, Nat.testBit_or]
  by_cases e : i < 31
  · have z : (2 ^ 31 * 1 : Nat).testBit i = false := by rw [Nat.testBit_two_pow_mul, decide_eq_false (by omega)]; rfl
    rw [z]; cases (E * 8388608 + m).testBit i <;> rfl
  · have z : (E * 8388608 + m).testBit i = false := Nat.testBit_lt_two_pow (Nat.lt_of_lt_of_le (show E * 8388608 + m < 2 ^ 31 by omega) (Nat.pow_le_pow_right (by decide) (by omega)))
    rw [z]; cases (2 ^ 31 * 1 : Nat).testBit i <;> rfl
theorem bt_w {w j : Nat} (hj : j < 32) : bt (nI w) j = w.testBit j := by
  unfold bt
  show (BitVec.ofNat 32 w).getLsbD j = _
  rw [BitVec.getLsbD_ofNat, decide_eq_true hj, Bool.true_and]
theorem nI_or {a b : Nat} : nI a ||| nI b = nI (a ||| b) := by
  apply b_ext
  intro j hj
  rw [b_or, bt_w hj, bt_w hj, bt_w hj, Nat.testBit_or]
theorem sh_P : ∀ P, P < 191 → 1 ≤ P → (nI P - 1) <<< ((23 : Int32) &&& 31) = nI ((P - 1) * 8388608) := by decide +kernel
theorem sh_Q : ∀ P, P < 191 → nI P <<< ((23 : Int32) &&& 31) = nI (P * 8388608) := by decide +kernel
theorem or_P {P m : Nat} (hm : m < 8388608) : P * 8388608 ||| m = P * 8388608 + m := by
  have := Nat.two_pow_add_eq_or_of_lt (b := m) (i := 23) hm P
  rw [Nat.mul_comm P, show 8388608 = 2 ^ 23 from rfl, this]
theorem or_S {w : Nat} (hw : w < 2147483648) : 2147483648 ||| w = 2147483648 + w := by
  have := Nat.two_pow_add_eq_or_of_lt (b := w) (i := 31) hw 1
  exact this.symm
theorem fb_int {P m : Nat} : nI (P * 8388608 + m) = (fb P m).toInt32 := rfl
theorem fs_int {P m : Nat} (hP : P ≤ 254) (hm : m < 8388608) : nI (P * 8388608 + m) ||| (-2147483648) = (fs 1 P m).toInt32 := by
  rw [show (-2147483648 : Int32) = nI 2147483648 from rfl, nI_or, Nat.or_comm, or_S (by omega)]
  show nI (2147483648 + (P * 8388608 + m)) = nI (1 * 2147483648 + P * 8388608 + m)
  congr 1; omega
theorem dec_q {q : Nat} (h : 1 ≤ q) : nI q + Int32.ofInt (-1) = nI (q - 1) := by
  obtain ⟨k, rfl⟩ : ∃ k, q = k + 1 := ⟨q - 1, by omega⟩
  rw [Nat.add_sub_cancel, ← nI_pred k, Int32.sub_eq_add_neg]; rfl
set_option maxHeartbeats 400000 in
set_option maxRecDepth 100000 in
theorem X3_bitsOf_dbl {x : UInt32} {h : xH} {P m : Nat} {Post : Option Value → xH → Prop} (hm : m < 8388608) (P1 : 64 ≤ P) (P2 : P ≤ 190) (KK : XW mX3_bitsOf 0 0 0 62 [some (.float x), some (.float (fb 127 m)), some (.int (nI P)), none] [] h Post) : ∀ (n e q : Nat), e ≤ 127 → 127 < e + n → 1 ≤ e → q + e = P + 127 → XW mX3_bitsOf 0 0 0 41 [some (.float x), some (.float (fb e m)), some (.int (nI q)), none] [] h Post := by
  intro n
  induction n with
  | zero => intro e q g0 g1; omega
  | succ n ih =>
    intro e q g0 g1 g2 g3
    refine XW.fload_n 42 dX3_bitsOf_41 rfl rfl ?_
    refine XW.fconst1 43 dX3_bitsOf_42 rfl ?_
    refine XW.fcmpU 44 dX3_bitsOf_43 (fb_NF (by omega) hm) NF_1 rfl ?_
    refine XW.if_geU 62 47 dX3_bitsOf_44 (by decide) rfl (fun c0 => ?_) (fun c0 => ?_)
    · rw [lt_1 (by omega) hm] at c0
      have e1 : e = 127 := by omega
      have e2 : q = P := by omega
      subst e1; subst e2; exact KK
    · rw [lt_1 (by omega) hm] at c0
      refine XW.iload_n 48 dX3_bitsOf_47 rfl rfl ?_
      refine XW.iconst 49 dX3_bitsOf_48 (v := 1) (by decide) rfl ?_
      refine XW.icmp_leN 62 52 q 1 dX3_bitsOf_49 (by decide) rfl rfl rfl (by omega) (by omega) (fun c1 => absurd c1 (by omega)) (fun c1 => ?_)
      refine XW.fload_n 53 dX3_bitsOf_52 rfl rfl ?_
      refine XW.fconst2 54 dX3_bitsOf_53 rfl ?_
      refine XW.fmul 55 dX3_bitsOf_54 (n_mul (fb_val g2 (by omega) hm) k_two) rfl ?_
      refine XW.eqs (st' := [.float (fb (e + 1) m)]) rfl (by rw [fm_two g2 (by omega) hm]) rfl ?_
      refine XW.fstore_n 56 (L' := [some (.float x), some (.float (fb (e + 1) m)), some (.int (nI q)), none]) dX3_bitsOf_55 (by decide) rfl rfl rfl ?_
      refine XW.iinc 59 (y := nI (q - 1)) (L' := [some (.float x), some (.float (fb (e + 1) m)), some (.int (nI (q - 1))), none]) dX3_bitsOf_56 rfl (dec_q (by omega)) (by decide) rfl rfl rfl ?_
      refine XW.goto 41 dX3_bitsOf_59 (by decide) ?_
      exact ih (e + 1) (q - 1) (by omega) (by omega) (by omega) (by omega)
set_option maxHeartbeats 400000 in
set_option maxRecDepth 100000 in
theorem X3_bitsOf_hlv {x : UInt32} {h : xH} {P m : Nat} {Post : Option Value → xH → Prop} (hm : m < 8388608) (P1 : 64 ≤ P) (P2 : P ≤ 190) (KK : ∀ e q, 1 ≤ e → e ≤ 127 → q + e = P + 127 → XW mX3_bitsOf 0 0 0 41 [some (.float x), some (.float (fb e m)), some (.int (nI q)), none] [] h Post) : ∀ (n e q : Nat), e < n → 1 ≤ e → e ≤ 190 → q + e = P + 127 → XW mX3_bitsOf 0 0 0 16 [some (.float x), some (.float (fb e m)), some (.int (nI q)), none] [] h Post := by
  intro n
  induction n with
  | zero => intro e q g0; omega
  | succ n ih =>
    intro e q g0 g1 g2 g3
    refine XW.fload_n 17 dX3_bitsOf_16 rfl rfl ?_
    refine XW.fconst2 18 dX3_bitsOf_17 rfl ?_
    refine XW.fcmpU 19 dX3_bitsOf_18 (fb_NF (by omega) hm) NF_2 rfl ?_
    refine XW.if_ltU 41 22 dX3_bitsOf_19 (by decide) rfl (fun c0 => ?_) (fun c0 => ?_)
    · rw [lt_2 (by omega) hm] at c0
      exact KK e q g1 (by omega) g3
    · rw [lt_2 (by omega) hm] at c0
      refine XW.iload_n 23 dX3_bitsOf_22 rfl rfl ?_
      refine XW.sipush 26 dX3_bitsOf_23 (v := 254) (by decide) rfl ?_
      refine XW.icmp_geN 41 29 q 254 dX3_bitsOf_26 (by decide) rfl rfl rfl (by omega) (by omega) (fun c1 => absurd c1 (by omega)) (fun c1 => ?_)
      refine XW.fload_n 30 dX3_bitsOf_29 rfl rfl ?_
      refine XW.ldcwf 33 k3_256 dX3_bitsOf_30 rfl ?_
      refine XW.fmul 34 dX3_bitsOf_33 (n_mul (fb_val g1 (by omega) hm) k_half) rfl ?_
      refine XW.eqs (st' := [.float (fb (e - 1) m)]) rfl (by rw [fm_half (by omega) (by omega) hm]) rfl ?_
      refine XW.fstore_n 35 (L' := [some (.float x), some (.float (fb (e - 1) m)), some (.int (nI q)), none]) dX3_bitsOf_34 (by decide) rfl rfl rfl ?_
      refine XW.iinc 38 (y := nI (q + 1)) (L' := [some (.float x), some (.float (fb (e - 1) m)), some (.int (nI (q + 1))), none]) dX3_bitsOf_35 rfl (na rfl rfl) (by decide) rfl rfl rfl ?_
      refine XW.goto 16 dX3_bitsOf_38 (by decide) ?_
      exact ih (e - 1) (q + 1) (by omega) (by omega) (by omega) (by omega)
set_option maxHeartbeats 400000 in
set_option maxRecDepth 100000 in
theorem X4_bitsOf_dbl {x : UInt32} {h : xH} {P m : Nat} {Post : Option Value → xH → Prop} (hm : m < 8388608) (P1 : 64 ≤ P) (P2 : P ≤ 190) (KK : XW mX4_bitsOf 0 0 0 70 [some (.float x), some (.float (fb 127 m)), some (.int (nI P)), none] [] h Post) : ∀ (n e q : Nat), e ≤ 127 → 127 < e + n → 1 ≤ e → q + e = P + 127 → XW mX4_bitsOf 0 0 0 54 [some (.float x), some (.float (fb e m)), some (.int (nI q)), none] [] h Post := by
  intro n
  induction n with
  | zero => intro e q g0 g1; omega
  | succ n ih =>
    intro e q g0 g1 g2 g3
    refine XW.fload_n 55 dX4_bitsOf_54 rfl rfl ?_
    refine XW.fconst1 56 dX4_bitsOf_55 rfl ?_
    refine XW.fcmpU 57 dX4_bitsOf_56 (fb_NF (by omega) hm) NF_1 rfl ?_
    refine XW.if_geU 70 60 dX4_bitsOf_57 (by decide) rfl (fun c0 => ?_) (fun c0 => ?_)
    · rw [lt_1 (by omega) hm] at c0
      have e1 : e = 127 := by omega
      have e2 : q = P := by omega
      subst e1; subst e2; exact KK
    · rw [lt_1 (by omega) hm] at c0
      refine XW.fload_n 61 dX4_bitsOf_60 rfl rfl ?_
      refine XW.fconst2 62 dX4_bitsOf_61 rfl ?_
      refine XW.fmul 63 dX4_bitsOf_62 (n_mul (fb_val g2 (by omega) hm) k_two) rfl ?_
      refine XW.eqs (st' := [.float (fb (e + 1) m)]) rfl (by rw [fm_two g2 (by omega) hm]) rfl ?_
      refine XW.fstore_n 64 (L' := [some (.float x), some (.float (fb (e + 1) m)), some (.int (nI q)), none]) dX4_bitsOf_63 (by decide) rfl rfl rfl ?_
      refine XW.iinc 67 (y := nI (q - 1)) (L' := [some (.float x), some (.float (fb (e + 1) m)), some (.int (nI (q - 1))), none]) dX4_bitsOf_64 rfl (dec_q (by omega)) (by decide) rfl rfl rfl ?_
      refine XW.goto 54 dX4_bitsOf_67 (by decide) ?_
      exact ih (e + 1) (q - 1) (by omega) (by omega) (by omega) (by omega)
set_option maxHeartbeats 400000 in
set_option maxRecDepth 100000 in
theorem X4_bitsOf_hlv {x : UInt32} {h : xH} {P m : Nat} {Post : Option Value → xH → Prop} (hm : m < 8388608) (P1 : 64 ≤ P) (P2 : P ≤ 190) (KK : ∀ e q, 1 ≤ e → e ≤ 127 → q + e = P + 127 → XW mX4_bitsOf 0 0 0 54 [some (.float x), some (.float (fb e m)), some (.int (nI q)), none] [] h Post) : ∀ (n e q : Nat), e < n → 1 ≤ e → e ≤ 190 → q + e = P + 127 → XW mX4_bitsOf 0 0 0 37 [some (.float x), some (.float (fb e m)), some (.int (nI q)), none] [] h Post := by
  intro n
  induction n with
  | zero => intro e q g0; omega
  | succ n ih =>
    intro e q g0 g1 g2 g3
    refine XW.fload_n 38 dX4_bitsOf_37 rfl rfl ?_
    refine XW.fconst2 39 dX4_bitsOf_38 rfl ?_
    refine XW.fcmpU 40 dX4_bitsOf_39 (fb_NF (by omega) hm) NF_2 rfl ?_
    refine XW.if_ltU 54 43 dX4_bitsOf_40 (by decide) rfl (fun c0 => ?_) (fun c0 => ?_)
    · rw [lt_2 (by omega) hm] at c0
      exact KK e q g1 (by omega) g3
    · rw [lt_2 (by omega) hm] at c0
      refine XW.fload_n 44 dX4_bitsOf_43 rfl rfl ?_
      refine XW.ldcf 46 k4_39 dX4_bitsOf_44 rfl ?_
      refine XW.fmul 47 dX4_bitsOf_46 (n_mul (fb_val g1 (by omega) hm) k_half) rfl ?_
      refine XW.eqs (st' := [.float (fb (e - 1) m)]) rfl (by rw [fm_half (by omega) (by omega) hm]) rfl ?_
      refine XW.fstore_n 48 (L' := [some (.float x), some (.float (fb (e - 1) m)), some (.int (nI q)), none]) dX4_bitsOf_47 (by decide) rfl rfl rfl ?_
      refine XW.iinc 51 (y := nI (q + 1)) (L' := [some (.float x), some (.float (fb (e - 1) m)), some (.int (nI (q + 1))), none]) dX4_bitsOf_48 rfl (na rfl rfl) (by decide) rfl rfl rfl ?_
      refine XW.goto 37 dX4_bitsOf_51 (by decide) ?_
      exact ih (e - 1) (q + 1) (by omega) (by omega) (by omega) (by omega)
set_option maxHeartbeats 400000 in
set_option maxRecDepth 100000 in
theorem c_b62_0 {h : xH} {P m : Nat} (hm : m < 8388608) (P1 : 64 ≤ P) (P2 : P ≤ 190) : XW mX3_bitsOf 0 0 0 62 [some (.float (fs 0 P m)), some (.float (fb 127 m)), some (.int (nI P)), none] [] h (fun r h' => r = some (.int ((fs 0 P m).toInt32)) ∧ h' = h) := by
  refine XW.iload_n 63 dX3_bitsOf_62 rfl rfl ?_
  refine XW.iconst 64 dX3_bitsOf_63 (v := 1) (by decide) rfl ?_
  refine XW.isub 65 dX3_bitsOf_64 rfl ?_
  refine XW.bipush 67 dX3_bitsOf_65 (v := 23) (by decide) rfl ?_
  refine XW.ishl 68 dX3_bitsOf_67 rfl ?_
  refine XW.fload_n 69 dX3_bitsOf_68 rfl rfl ?_
  refine XW.ldcwf 72 k3_257 dX3_bitsOf_69 rfl ?_
  refine XW.fmul 73 dX3_bitsOf_72 (n_mul (fb_val (by omega) (by omega) hm) k_23) rfl ?_
  refine XW.f2i 74 dX3_bitsOf_73 rfl ?_
  refine XW.iadd 75 dX3_bitsOf_74 rfl ?_
  refine XW.eqs (st' := [.int (nI (P * 8388608 + m))]) rfl (by rw [c_fig hm, sh_P P (by omega) (by omega), nI_add, show (P - 1) * 8388608 + (8388608 + m) = P * 8388608 + m by omega]) rfl ?_
  refine XW.istore_n 76 (L' := [some (.float (fs 0 P m)), some (.float (fb 127 m)), some (.int (nI P)), some (.int (nI (P * 8388608 + m)))]) dX3_bitsOf_75 (by decide) rfl rfl rfl ?_
  refine XW.fload_n 77 dX3_bitsOf_76 rfl rfl ?_
  refine XW.fconst0 78 dX3_bitsOf_77 rfl ?_
  refine XW.fcmp 79 dX3_bitsOf_78 rfl ?_
  refine XW.if_ge 89 82 dX3_bitsOf_79 (by decide) rfl (fun c0 => ?_) (fun c0 => absurd (by rw [fs_0, cm_pos (by omega) (by omega) hm]; decide) c0)
  refine XW.iload_n 90 dX3_bitsOf_89 rfl rfl ?_
  exact XW.iret dX3_bitsOf_90 rfl ⟨by rw [fs_0]; rfl, rfl⟩
set_option maxHeartbeats 400000 in
set_option maxRecDepth 100000 in
theorem c_b_0 {h : xH} {P m : Nat} (hm : m < 8388608) (P1 : 64 ≤ P) (P2 : P ≤ 190) : XC mX3_bitsOf 0 0 0 [.float (fs 0 P m)] h (fun r h' => r = some (.int ((fs 0 P m).toInt32)) ∧ h' = h) := by
  show XW mX3_bitsOf 0 0 0 0 [some (.float (fs 0 P m)), none, none, none] [] h _
  refine XW.fload_n 1 dX3_bitsOf_0 rfl rfl ?_
  refine XW.fconst0 2 dX3_bitsOf_1 rfl ?_
  refine XW.fcmp 3 dX3_bitsOf_2 rfl ?_
  refine XW.if_ge 11 6 dX3_bitsOf_3 (by decide) rfl (fun c0 => ?_) (fun c0 => absurd (by rw [fs_0, cm_pos (by omega) (by omega) hm]; decide) c0)
  refine XW.fload_n 12 dX3_bitsOf_11 rfl rfl ?_
  refine XW.eqs (st' := [.float (fb P m)]) rfl (by rw [fs_0]) rfl ?_
  refine XW.fstore_n 13 (L' := [some (.float (fs 0 P m)), some (.float (fb P m)), none, none]) dX3_bitsOf_12 (by decide) rfl rfl rfl ?_
  refine XW.bipush 15 dX3_bitsOf_13 (v := 127) (by decide) rfl ?_
  refine XW.istore_n 16 (L' := [some (.float (fs 0 P m)), some (.float (fb P m)), some (.int (nI 127)), none]) dX3_bitsOf_15 (by decide) rfl rfl rfl ?_
  exact X3_bitsOf_hlv hm P1 P2 (fun e q g1 g2 g3 => X3_bitsOf_dbl hm P1 P2 (c_b62_0 hm P1 P2) 128 e q g2 (by omega) g1 g3) 191 P 127 (by omega) (by omega) (by omega) (by omega)
set_option maxHeartbeats 400000 in
set_option maxRecDepth 100000 in
theorem c_b62_1 {h : xH} {P m : Nat} (hm : m < 8388608) (P1 : 64 ≤ P) (P2 : P ≤ 190) : XW mX3_bitsOf 0 0 0 62 [some (.float (fs 1 P m)), some (.float (fb 127 m)), some (.int (nI P)), none] [] h (fun r h' => r = some (.int ((fs 1 P m).toInt32)) ∧ h' = h) := by
  refine XW.iload_n 63 dX3_bitsOf_62 rfl rfl ?_
  refine XW.iconst 64 dX3_bitsOf_63 (v := 1) (by decide) rfl ?_
  refine XW.isub 65 dX3_bitsOf_64 rfl ?_
  refine XW.bipush 67 dX3_bitsOf_65 (v := 23) (by decide) rfl ?_
  refine XW.ishl 68 dX3_bitsOf_67 rfl ?_
  refine XW.fload_n 69 dX3_bitsOf_68 rfl rfl ?_
  refine XW.ldcwf 72 k3_257 dX3_bitsOf_69 rfl ?_
  refine XW.fmul 73 dX3_bitsOf_72 (n_mul (fb_val (by omega) (by omega) hm) k_23) rfl ?_
  refine XW.f2i 74 dX3_bitsOf_73 rfl ?_
  refine XW.iadd 75 dX3_bitsOf_74 rfl ?_
  refine XW.eqs (st' := [.int (nI (P * 8388608 + m))]) rfl (by rw [c_fig hm, sh_P P (by omega) (by omega), nI_add, show (P - 1) * 8388608 + (8388608 + m) = P * 8388608 + m by omega]) rfl ?_
  refine XW.istore_n 76 (L' := [some (.float (fs 1 P m)), some (.float (fb 127 m)), some (.int (nI P)), some (.int (nI (P * 8388608 + m)))]) dX3_bitsOf_75 (by decide) rfl rfl rfl ?_
  refine XW.fload_n 77 dX3_bitsOf_76 rfl rfl ?_
  refine XW.fconst0 78 dX3_bitsOf_77 rfl ?_
  refine XW.fcmp 79 dX3_bitsOf_78 rfl ?_
  refine XW.if_ge 89 82 dX3_bitsOf_79 (by decide) rfl (fun c0 => absurd c0 (by rw [cm_neg (by omega) (by omega) hm]; decide)) (fun c0 => ?_)
  refine XW.iload_n 83 dX3_bitsOf_82 rfl rfl ?_
  refine XW.ldci 85 k3_120 dX3_bitsOf_83 rfl ?_
  refine XW.ior 86 dX3_bitsOf_85 rfl ?_
  refine XW.goto 90 dX3_bitsOf_86 (by decide) ?_
  exact XW.iret dX3_bitsOf_90 rfl ⟨by rw [fs_int (by omega) hm], rfl⟩
set_option maxHeartbeats 400000 in
set_option maxRecDepth 100000 in
theorem c_b_1 {h : xH} {P m : Nat} (hm : m < 8388608) (P1 : 64 ≤ P) (P2 : P ≤ 190) : XC mX3_bitsOf 0 0 0 [.float (fs 1 P m)] h (fun r h' => r = some (.int ((fs 1 P m).toInt32)) ∧ h' = h) := by
  show XW mX3_bitsOf 0 0 0 0 [some (.float (fs 1 P m)), none, none, none] [] h _
  refine XW.fload_n 1 dX3_bitsOf_0 rfl rfl ?_
  refine XW.fconst0 2 dX3_bitsOf_1 rfl ?_
  refine XW.fcmp 3 dX3_bitsOf_2 rfl ?_
  refine XW.if_ge 11 6 dX3_bitsOf_3 (by decide) rfl (fun c0 => absurd c0 (by rw [cm_neg (by omega) (by omega) hm]; decide)) (fun c0 => ?_)
  refine XW.fload_n 7 dX3_bitsOf_6 rfl rfl ?_
  refine XW.fneg 8 dX3_bitsOf_7 rfl ?_
  refine XW.goto 12 dX3_bitsOf_8 (by decide) ?_
  refine XW.eqs (st' := [.float (fb P m)]) rfl (by rw [fneg_fs (by omega) (by omega) hm]) rfl ?_
  refine XW.fstore_n 13 (L' := [some (.float (fs 1 P m)), some (.float (fb P m)), none, none]) dX3_bitsOf_12 (by decide) rfl rfl rfl ?_
  refine XW.bipush 15 dX3_bitsOf_13 (v := 127) (by decide) rfl ?_
  refine XW.istore_n 16 (L' := [some (.float (fs 1 P m)), some (.float (fb P m)), some (.int (nI 127)), none]) dX3_bitsOf_15 (by decide) rfl rfl rfl ?_
  exact X3_bitsOf_hlv hm P1 P2 (fun e q g1 g2 g3 => X3_bitsOf_dbl hm P1 P2 (c_b62_1 hm P1 P2) 128 e q g2 (by omega) g1 g3) 191 P 127 (by omega) (by omega) (by omega) (by omega)
set_option maxHeartbeats 400000 in
set_option maxRecDepth 100000 in
theorem c_z62 {h : xH} : XW mX3_bitsOf 0 0 0 62 [some (.float 0), some (.float 0), some (.int (nI 1)), none] [] h (fun r h' => r = some (.int (0)) ∧ h' = h) := by
  refine XW.iload_n 63 dX3_bitsOf_62 rfl rfl ?_
  refine XW.iconst 64 dX3_bitsOf_63 (v := 1) (by decide) rfl ?_
  refine XW.isub 65 dX3_bitsOf_64 rfl ?_
  refine XW.bipush 67 dX3_bitsOf_65 (v := 23) (by decide) rfl ?_
  refine XW.ishl 68 dX3_bitsOf_67 rfl ?_
  refine XW.fload_n 69 dX3_bitsOf_68 rfl rfl ?_
  refine XW.ldcwf 72 k3_257 dX3_bitsOf_69 rfl ?_
  refine XW.fmul 73 dX3_bitsOf_72 (by show (FP.fmul 0 1258291200 : UInt32) &&& 0x7fffffff ≤ 0x7f800000; decide +kernel) rfl ?_
  refine XW.f2i 74 dX3_bitsOf_73 rfl ?_
  refine XW.iadd 75 dX3_bitsOf_74 rfl ?_
  refine XW.eqs (st' := [.int 0]) rfl (by rw [show (nI 1 - 1) <<< ((23 : Int32) &&& 31) + FP.f2i (FP.fmul 0 1258291200) = 0 by decide +kernel]) rfl ?_
  refine XW.istore_n 76 (L' := [some (.float 0), some (.float 0), some (.int (nI 1)), some (.int 0)]) dX3_bitsOf_75 (by decide) rfl rfl rfl ?_
  refine XW.fload_n 77 dX3_bitsOf_76 rfl rfl ?_
  refine XW.fconst0 78 dX3_bitsOf_77 rfl ?_
  refine XW.fcmp 79 dX3_bitsOf_78 rfl ?_
  refine XW.if_ge 89 82 dX3_bitsOf_79 (by decide) rfl (fun c0 => ?_) (fun c0 => absurd (by decide +kernel) c0)
  refine XW.iload_n 90 dX3_bitsOf_89 rfl rfl ?_
  exact XW.iret dX3_bitsOf_90 rfl ⟨rfl, rfl⟩
set_option maxHeartbeats 400000 in
set_option maxRecDepth 100000 in
theorem c_z41 {h : xH} : ∀ (n q : Nat), q < n → 1 ≤ q → q ≤ 127 → XW mX3_bitsOf 0 0 0 41 [some (.float 0), some (.float 0), some (.int (nI q)), none] [] h (fun r h' => r = some (.int (0)) ∧ h' = h) := by
  intro n
  induction n with
  | zero => intro q g0; omega
  | succ n ih =>
    intro q g0 g1 g2
    refine XW.fload_n 42 dX3_bitsOf_41 rfl rfl ?_
    refine XW.fconst1 43 dX3_bitsOf_42 rfl ?_
    refine XW.fcmp 44 dX3_bitsOf_43 rfl ?_
    refine XW.if_ge 62 47 dX3_bitsOf_44 (by decide) rfl (fun c0 => absurd c0 (by decide +kernel)) (fun c0 => ?_)
    refine XW.iload_n 48 dX3_bitsOf_47 rfl rfl ?_
    refine XW.iconst 49 dX3_bitsOf_48 (v := 1) (by decide) rfl ?_
    refine XW.icmp_leN 62 52 q 1 dX3_bitsOf_49 (by decide) rfl rfl rfl (by omega) (by omega) (fun c1 => ?_) (fun c1 => ?_)
    · have e : q = 1 := by omega
      subst e; exact c_z62
    · refine XW.fload_n 53 dX3_bitsOf_52 rfl rfl ?_
      refine XW.fconst2 54 dX3_bitsOf_53 rfl ?_
      refine XW.fmul 55 dX3_bitsOf_54 (by show (FP.fmul 0 FP.fconst2 : UInt32) &&& 0x7fffffff ≤ 0x7f800000; decide +kernel) rfl ?_
      refine XW.eqs (st' := [.float 0]) rfl (by rw [show FP.fmul 0 FP.fconst2 = 0 by decide +kernel]) rfl ?_
      refine XW.fstore_n 56 (L' := [some (.float 0), some (.float 0), some (.int (nI q)), none]) dX3_bitsOf_55 (by decide) rfl rfl rfl ?_
      refine XW.iinc 59 (y := nI (q - 1)) (L' := [some (.float 0), some (.float 0), some (.int (nI (q - 1))), none]) dX3_bitsOf_56 rfl (dec_q (by omega)) (by decide) rfl rfl rfl ?_
      refine XW.goto 41 dX3_bitsOf_59 (by decide) ?_
      exact ih (q - 1) (by omega) (by omega) (by omega)
set_option maxHeartbeats 400000 in
set_option maxRecDepth 100000 in
theorem c_z {h : xH} : XC mX3_bitsOf 0 0 0 [.float 0] h (fun r h' => r = some (.int (0)) ∧ h' = h) := by
  show XW mX3_bitsOf 0 0 0 0 [some (.float 0), none, none, none] [] h _
  refine XW.fload_n 1 dX3_bitsOf_0 rfl rfl ?_
  refine XW.fconst0 2 dX3_bitsOf_1 rfl ?_
  refine XW.fcmp 3 dX3_bitsOf_2 rfl ?_
  refine XW.if_ge 11 6 dX3_bitsOf_3 (by decide) rfl (fun c0 => ?_) (fun c0 => absurd (by decide +kernel) c0)
  refine XW.fload_n 12 dX3_bitsOf_11 rfl rfl ?_
  refine XW.fstore_n 13 (L' := [some (.float 0), some (.float 0), none, none]) dX3_bitsOf_12 (by decide) rfl rfl rfl ?_
  refine XW.bipush 15 dX3_bitsOf_13 (v := 127) (by decide) rfl ?_
  refine XW.istore_n 16 (L' := [some (.float 0), some (.float 0), some (.int (nI 127)), none]) dX3_bitsOf_15 (by decide) rfl rfl rfl ?_
  refine XW.fload_n 17 dX3_bitsOf_16 rfl rfl ?_
  refine XW.fconst2 18 dX3_bitsOf_17 rfl ?_
  refine XW.fcmp 19 dX3_bitsOf_18 rfl ?_
  refine XW.if_lt 41 22 dX3_bitsOf_19 (by decide) rfl (fun c0 => ?_) (fun c0 => absurd (by decide +kernel) c0)
  exact c_z41 128 127 (by omega) (by omega) (by omega)
theorem c_bitsOf (x : UInt32) (h : xH) (hx : okB x) : XC mX3_bitsOf 0 0 0 [.float x] h (fun r h' => r = some (.int x.toInt32) ∧ h' = h) := by
  rcases hx with rfl | ⟨s, E, m, s2, E1, E2, hm, rfl⟩
  · exact c_z
  · rcases (show s = 0 ∨ s = 1 by omega) with rfl | rfl
    · exact c_b_0 hm E1 E2
    · exact c_b_1 hm E1 E2
set_option maxHeartbeats 400000 in
set_option maxRecDepth 100000 in
theorem k_b70_0 {h : xH} {P m : Nat} (hm : m < 8388608) (P1 : 64 ≤ P) (P2 : P ≤ 190) : XW mX4_bitsOf 0 0 0 70 [some (.float (fs 0 P m)), some (.float (fb 127 m)), some (.int (nI P)), none] [] h (fun r h' => r = some (.int ((fs 0 P m).toInt32)) ∧ h' = h) := by
  obtain ⟨cc, qq, k1, k2, k3⟩ := k_sub hm
  refine XW.fload_n 71 dX4_bitsOf_70 rfl rfl ?_
  refine XW.fconst1 72 dX4_bitsOf_71 rfl ?_
  refine XW.fsub 73 dX4_bitsOf_72 (n_val (by rw [k1]; exact FP.Core.Datum.noConfusion)) rfl ?_
  refine XW.ldcf 75 k4_40 dX4_bitsOf_73 rfl ?_
  refine XW.fmul 76 dX4_bitsOf_75 (n_mul k1 k_23) rfl ?_
  refine XW.f2i 77 dX4_bitsOf_76 rfl ?_
  refine XW.eqs (st' := [.int (nI m)]) rfl (by rw [k_fig hm]) rfl ?_
  refine XW.istore_n 78 (L' := [some (.float (fs 0 P m)), some (.float (fb 127 m)), some (.int (nI P)), some (.int (nI m))]) dX4_bitsOf_77 (by decide) rfl rfl rfl ?_
  refine XW.fload_n 79 dX4_bitsOf_78 rfl rfl ?_
  refine XW.fconst0 80 dX4_bitsOf_79 rfl ?_
  refine XW.fcmp 81 dX4_bitsOf_80 rfl ?_
  refine XW.if_ge 89 84 dX4_bitsOf_81 (by decide) rfl (fun c0 => ?_) (fun c0 => absurd (by rw [fs_0, cm_pos (by omega) (by omega) hm]; decide) c0)
  refine XW.iconst 90 dX4_bitsOf_89 (v := 0) (by decide) rfl ?_
  refine XW.iload_n 91 dX4_bitsOf_90 rfl rfl ?_
  refine XW.bipush 93 dX4_bitsOf_91 (v := 23) (by decide) rfl ?_
  refine XW.ishl 94 dX4_bitsOf_93 rfl ?_
  refine XW.ior 95 dX4_bitsOf_94 rfl ?_
  refine XW.iload_n 96 dX4_bitsOf_95 rfl rfl ?_
  refine XW.ior 97 dX4_bitsOf_96 rfl ?_
  exact XW.iret dX4_bitsOf_97 rfl ⟨by rw [sh_Q P (by omega), show (0 : Int32) = nI 0 from rfl, nI_or, nI_or, Nat.zero_or, or_P hm, fs_0]; rfl, rfl⟩
set_option maxHeartbeats 400000 in
set_option maxRecDepth 100000 in
theorem k_b_0 {h : xH} {P m : Nat} (hm : m < 8388608) (P1 : 64 ≤ P) (P2 : P ≤ 190) : XC mX4_bitsOf 0 0 0 [.float (fs 0 P m)] h (fun r h' => r = some (.int ((fs 0 P m).toInt32)) ∧ h' = h) := by
  show XW mX4_bitsOf 0 0 0 0 [some (.float (fs 0 P m)), none, none, none] [] h _
  refine XW.fload_n 1 dX4_bitsOf_0 rfl rfl ?_
  refine XW.fconst0 2 dX4_bitsOf_1 rfl ?_
  refine XW.fcmp 3 dX4_bitsOf_2 rfl ?_
  refine XW.if_ne 21 6 dX4_bitsOf_3 (by decide) rfl (fun c0 => ?_) (fun c0 => absurd c0 (by rw [fs_0, cm_pos (by omega) (by omega) hm]; decide))
  refine XW.fload_n 22 dX4_bitsOf_21 rfl rfl ?_
  refine XW.fconst0 23 dX4_bitsOf_22 rfl ?_
  refine XW.fcmp 24 dX4_bitsOf_23 rfl ?_
  refine XW.if_ge 32 27 dX4_bitsOf_24 (by decide) rfl (fun c0 => ?_) (fun c0 => absurd (by rw [fs_0, cm_pos (by omega) (by omega) hm]; decide) c0)
  refine XW.fload_n 33 dX4_bitsOf_32 rfl rfl ?_
  refine XW.eqs (st' := [.float (fb P m)]) rfl (by rw [fs_0]) rfl ?_
  refine XW.fstore_n 34 (L' := [some (.float (fs 0 P m)), some (.float (fb P m)), none, none]) dX4_bitsOf_33 (by decide) rfl rfl rfl ?_
  refine XW.bipush 36 dX4_bitsOf_34 (v := 127) (by decide) rfl ?_
  refine XW.istore_n 37 (L' := [some (.float (fs 0 P m)), some (.float (fb P m)), some (.int (nI 127)), none]) dX4_bitsOf_36 (by decide) rfl rfl rfl ?_
  exact X4_bitsOf_hlv hm P1 P2 (fun e q g1 g2 g3 => X4_bitsOf_dbl hm P1 P2 (k_b70_0 hm P1 P2) 128 e q g2 (by omega) g1 g3) 191 P 127 (by omega) (by omega) (by omega) (by omega)
set_option maxHeartbeats 400000 in
set_option maxRecDepth 100000 in
theorem k_b70_1 {h : xH} {P m : Nat} (hm : m < 8388608) (P1 : 64 ≤ P) (P2 : P ≤ 190) : XW mX4_bitsOf 0 0 0 70 [some (.float (fs 1 P m)), some (.float (fb 127 m)), some (.int (nI P)), none] [] h (fun r h' => r = some (.int ((fs 1 P m).toInt32)) ∧ h' = h) := by
  obtain ⟨cc, qq, k1, k2, k3⟩ := k_sub hm
  refine XW.fload_n 71 dX4_bitsOf_70 rfl rfl ?_
  refine XW.fconst1 72 dX4_bitsOf_71 rfl ?_
  refine XW.fsub 73 dX4_bitsOf_72 (n_val (by rw [k1]; exact FP.Core.Datum.noConfusion)) rfl ?_
  refine XW.ldcf 75 k4_40 dX4_bitsOf_73 rfl ?_
  refine XW.fmul 76 dX4_bitsOf_75 (n_mul k1 k_23) rfl ?_
  refine XW.f2i 77 dX4_bitsOf_76 rfl ?_
  refine XW.eqs (st' := [.int (nI m)]) rfl (by rw [k_fig hm]) rfl ?_
  refine XW.istore_n 78 (L' := [some (.float (fs 1 P m)), some (.float (fb 127 m)), some (.int (nI P)), some (.int (nI m))]) dX4_bitsOf_77 (by decide) rfl rfl rfl ?_
  refine XW.fload_n 79 dX4_bitsOf_78 rfl rfl ?_
  refine XW.fconst0 80 dX4_bitsOf_79 rfl ?_
  refine XW.fcmp 81 dX4_bitsOf_80 rfl ?_
  refine XW.if_ge 89 84 dX4_bitsOf_81 (by decide) rfl (fun c0 => absurd c0 (by rw [cm_neg (by omega) (by omega) hm]; decide)) (fun c0 => ?_)
  refine XW.ldci 86 k4_38 dX4_bitsOf_84 rfl ?_
  refine XW.goto 90 dX4_bitsOf_86 (by decide) ?_
  refine XW.iload_n 91 dX4_bitsOf_90 rfl rfl ?_
  refine XW.bipush 93 dX4_bitsOf_91 (v := 23) (by decide) rfl ?_
  refine XW.ishl 94 dX4_bitsOf_93 rfl ?_
  refine XW.ior 95 dX4_bitsOf_94 rfl ?_
  refine XW.iload_n 96 dX4_bitsOf_95 rfl rfl ?_
  refine XW.ior 97 dX4_bitsOf_96 rfl ?_
  exact XW.iret dX4_bitsOf_97 rfl ⟨by rw [sh_Q P (by omega), show (-2147483648 : Int32) = nI 2147483648 from rfl, nI_or, nI_or, Nat.or_assoc, or_P hm, Nat.or_comm, ← nI_or, show nI 2147483648 = (-2147483648 : Int32) from rfl, fs_int (by omega) hm], rfl⟩
set_option maxHeartbeats 400000 in
set_option maxRecDepth 100000 in
theorem k_b_1 {h : xH} {P m : Nat} (hm : m < 8388608) (P1 : 64 ≤ P) (P2 : P ≤ 190) : XC mX4_bitsOf 0 0 0 [.float (fs 1 P m)] h (fun r h' => r = some (.int ((fs 1 P m).toInt32)) ∧ h' = h) := by
  show XW mX4_bitsOf 0 0 0 0 [some (.float (fs 1 P m)), none, none, none] [] h _
  refine XW.fload_n 1 dX4_bitsOf_0 rfl rfl ?_
  refine XW.fconst0 2 dX4_bitsOf_1 rfl ?_
  refine XW.fcmp 3 dX4_bitsOf_2 rfl ?_
  refine XW.if_ne 21 6 dX4_bitsOf_3 (by decide) rfl (fun c0 => ?_) (fun c0 => absurd c0 (by rw [cm_neg (by omega) (by omega) hm]; decide))
  refine XW.fload_n 22 dX4_bitsOf_21 rfl rfl ?_
  refine XW.fconst0 23 dX4_bitsOf_22 rfl ?_
  refine XW.fcmp 24 dX4_bitsOf_23 rfl ?_
  refine XW.if_ge 32 27 dX4_bitsOf_24 (by decide) rfl (fun c0 => absurd c0 (by rw [cm_neg (by omega) (by omega) hm]; decide)) (fun c0 => ?_)
  refine XW.fload_n 28 dX4_bitsOf_27 rfl rfl ?_
  refine XW.fneg 29 dX4_bitsOf_28 rfl ?_
  refine XW.goto 33 dX4_bitsOf_29 (by decide) ?_
  refine XW.eqs (st' := [.float (fb P m)]) rfl (by rw [fneg_fs (by omega) (by omega) hm]) rfl ?_
  refine XW.fstore_n 34 (L' := [some (.float (fs 1 P m)), some (.float (fb P m)), none, none]) dX4_bitsOf_33 (by decide) rfl rfl rfl ?_
  refine XW.bipush 36 dX4_bitsOf_34 (v := 127) (by decide) rfl ?_
  refine XW.istore_n 37 (L' := [some (.float (fs 1 P m)), some (.float (fb P m)), some (.int (nI 127)), none]) dX4_bitsOf_36 (by decide) rfl rfl rfl ?_
  exact X4_bitsOf_hlv hm P1 P2 (fun e q g1 g2 g3 => X4_bitsOf_dbl hm P1 P2 (k_b70_1 hm P1 P2) 128 e q g2 (by omega) g1 g3) 191 P 127 (by omega) (by omega) (by omega) (by omega)
set_option maxHeartbeats 400000 in
set_option maxRecDepth 100000 in
theorem k_zp {h : xH} : XC mX4_bitsOf 0 0 0 [.float 0] h (fun r h' => r = some (.int ((0 : UInt32).toInt32)) ∧ h' = h) := by
  show XW mX4_bitsOf 0 0 0 0 [some (.float 0), none, none, none] [] h _
  refine XW.fload_n 1 dX4_bitsOf_0 rfl rfl ?_
  refine XW.fconst0 2 dX4_bitsOf_1 rfl ?_
  refine XW.fcmp 3 dX4_bitsOf_2 rfl ?_
  refine XW.if_ne 21 6 dX4_bitsOf_3 (by decide) rfl (fun c0 => absurd (by decide +kernel) c0) (fun c0 => ?_)
  refine XW.fconst1 7 dX4_bitsOf_6 rfl ?_
  refine XW.fload_n 8 dX4_bitsOf_7 rfl rfl ?_
  refine XW.fdiv 9 dX4_bitsOf_8 (by show (FP.fdiv FP.fconst1 0 : UInt32) &&& 0x7fffffff ≤ 0x7f800000; decide +kernel) rfl ?_
  refine XW.fconst0 10 dX4_bitsOf_9 rfl ?_
  refine XW.fcmp 11 dX4_bitsOf_10 rfl ?_
  refine XW.if_ge 19 14 dX4_bitsOf_11 (by decide) rfl (fun c0 => ?_) (fun c0 => absurd (by decide +kernel) c0)
  refine XW.iconst 20 dX4_bitsOf_19 (v := 0) (by decide) rfl ?_
  exact XW.iret dX4_bitsOf_20 rfl ⟨rfl, rfl⟩
set_option maxHeartbeats 400000 in
set_option maxRecDepth 100000 in
theorem k_zn {h : xH} : XC mX4_bitsOf 0 0 0 [.float 2147483648] h (fun r h' => r = some (.int ((2147483648 : UInt32).toInt32)) ∧ h' = h) := by
  show XW mX4_bitsOf 0 0 0 0 [some (.float 2147483648), none, none, none] [] h _
  refine XW.fload_n 1 dX4_bitsOf_0 rfl rfl ?_
  refine XW.fconst0 2 dX4_bitsOf_1 rfl ?_
  refine XW.fcmp 3 dX4_bitsOf_2 rfl ?_
  refine XW.if_ne 21 6 dX4_bitsOf_3 (by decide) rfl (fun c0 => absurd (by decide +kernel) c0) (fun c0 => ?_)
  refine XW.fconst1 7 dX4_bitsOf_6 rfl ?_
  refine XW.fload_n 8 dX4_bitsOf_7 rfl rfl ?_
  refine XW.fdiv 9 dX4_bitsOf_8 (by show (FP.fdiv FP.fconst1 2147483648 : UInt32) &&& 0x7fffffff ≤ 0x7f800000; decide +kernel) rfl ?_
  refine XW.fconst0 10 dX4_bitsOf_9 rfl ?_
  refine XW.fcmp 11 dX4_bitsOf_10 rfl ?_
  refine XW.if_ge 19 14 dX4_bitsOf_11 (by decide) rfl (fun c0 => absurd c0 (by decide +kernel)) (fun c0 => ?_)
  refine XW.ldci 16 k4_38 dX4_bitsOf_14 rfl ?_
  refine XW.goto 20 dX4_bitsOf_16 (by decide) ?_
  exact XW.iret dX4_bitsOf_20 rfl ⟨rfl, rfl⟩
theorem k_bitsOf (x : UInt32) (h : xH) (hx : okB x ∨ x = 2147483648) : XC mX4_bitsOf 0 0 0 [.float x] h (fun r h' => r = some (.int x.toInt32) ∧ h' = h) := by
  rcases hx with (rfl | ⟨s, E, m, s2, E1, E2, hm, rfl⟩) | rfl
  · exact k_zp
  · rcases (show s = 0 ∨ s = 1 by omega) with rfl | rfl
    · exact k_b_0 hm E1 E2
    · exact k_b_1 hm E1 E2
  · exact k_zn
section OkB
variable {rgb gr ey lm : Nat → Int32}
theorem okB_0 : okB FP.fconst0 := Or.inl rfl
theorem okB_light (ok : okS rgb gr ey lm) {k : Nat} (hk : k + 2 < 60) : okB (lightC rgb k) := ob_light (ok.1 k (by omega)) (ok.1 _ (by omega)) (ok.1 _ (by omega))
theorem okB_saw (ok : okS rgb gr ey lm) {e i k : Nat} (he : e < 4) (hi : i < 20) (hk : k < 3) : (mzF (ey (13 * e + 3 * k)) (ey (13 * e + 3 * k + 1)) (ey (13 * e + 3 * k + 2)) (rgb (3 * i)) (rgb (3 * i + 1)) (rgb (3 * i + 2)) = false → okB (sawF ey rgb e i k)) ∧ (mzF (ey (13 * e + 3 * k)) (ey (13 * e + 3 * k + 1)) (ey (13 * e + 3 * k + 2)) (rgb (3 * i)) (rgb (3 * i + 1)) (rgb (3 * i + 2)) = true → sawF ey rgb e i k = 2147483648) :=
  ob_seen (ok.2.2.1 e (3 * k) he (by omega)) (ok.2.2.1 e (3 * k + 1) he (by omega)) (ok.2.2.1 e (3 * k + 2) he (by omega)) (ok.1 _ (by omega)) (ok.1 _ (by omega)) (ok.1 _ (by omega))
theorem okB_dist (ok : okS rgb gr ey lm) {e i j : Nat} (he : e < 4) (hi : i < 20) (hj : j < 20) : okB (distF ey rgb e i j) :=
  ob_far (ok.2.2.2.1 e 0 he (by omega)) (ok.2.2.2.1 e 1 he (by omega)) (ok.2.2.2.1 e 2 he (by omega)) (ok_saw ok he hi (by omega)) (ok_saw ok he hj (by omega)) (ok_saw ok he hi (by omega)) (ok_saw ok he hj (by omega)) (ok_saw ok he hi (by omega)) (ok_saw ok he hj (by omega))
theorem okB_apS (ok : okS rgb gr ey lm) {i j : Nat} (hi : i < 20) (hj : j < 20) : ∀ e, e ≤ 4 → okB (apS ey rgb i j e).1
  | 0, _ => okB_0
  | e + 1, h => by
    have ih := okB_apS ok hi hj e (by omega)
    by_cases q : ey (13 * e + 12) = 1
    · rw [apS_y q]; dsimp only; split
      · exact ih
      · exact okB_dist ok (by omega) hi hj
    · rw [apS_n q]; exact ih
theorem okB_apG (ok : okS rgb gr ey lm) {i j : Nat} (hi : i < 20) (hj : j < 20) : okB (apG ey rgb i j) := by
  unfold apG; split
  · exact okB_apS ok hi hj 4 (by omega)
  · exact okB_apS ok hj hi 4 (by omega)
theorem okB_ls (ok : okS rgb gr ey lm) {f : Nat → Int32} {l c : Nat} (hf : rowOK f l c) (c20 : c ≤ 20) : okB (lsV (apG ey rgb) (rv f) l) := by
  have s := lsV_spec (apG ey rgb) (rv f) l
  by_cases h : l < 2
  · rw [s.1 h]; exact okB_0
  · obtain ⟨⟨a, b, h1, h2, h3⟩, -⟩ := s.2 (by omega)
    rw [h3]
    exact okB_apG ok (by have := (hf a (by omega)).2; omega) (by have := (hf b h2).2; omega)
end OkB
