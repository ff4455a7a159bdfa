/-! Floats: their bits -/
theorem okB_FQ {K k : Nat} {x : UInt32} (h : FQ K k x) (hk : 86 ≤ k) (hK : K ≤ 191) (nz : ¬ x.toNat % 2 ^ 31 = 0) : okB x := by
  have h1 := h.1
  have h2 := dy_mag (by omega) (h.fi (by omega)) h.2 nz
  have h3 := x.toNat_lt
  have h4 : 64 * 2 ^ 23 ≤ x.toNat % 2 ^ 31 := Nat.le_trans (Nat.mul_le_mul_right _ (by omega)) h2
  have h5 : x.toNat % 2 ^ 31 < 191 * 2 ^ 23 := Nat.lt_of_lt_of_le h1 (Nat.mul_le_mul_right _ hK)
  refine Or.inr ⟨x.toNat / 2 ^ 31, x.toNat % 2 ^ 31 / 2 ^ 23, x.toNat % 2 ^ 23, by omega, by omega, by omega, by omega, ?_⟩
  rw [show x.toNat / 2 ^ 31 * 2147483648 + x.toNat % 2 ^ 31 / 2 ^ 23 * 8388608 + x.toNat % 2 ^ 23 = x.toNat by omega, UInt32.ofNat_toNat]
theorem okB_pos {K k : Nat} {x : UInt32} (h : FQ K k x) (hk : 86 ≤ k) (hK : K ≤ 191) (hp : posF x) : okB x := by
  by_cases e : x.toNat % 2 ^ 31 = 0
  · have hp : x.toNat < 2 ^ 31 := hp
    exact Or.inl (UInt32.toNat_inj.mp (by rw [show x.toNat = 0 by omega]; rfl))
  · exact okB_FQ h hk hK e
theorem ob_light' {r g b : Int32} (hr : isP r) (hg : isP g) (hb : isP b) : okB (lightF r g b) := okB_pos (fq_li hr hg hb).1 (by decide) (by decide) (fq_li hr hg hb).2
theorem ob_far' {w0 w1 w2 : Int32} {a0 b0 a1 b1 a2 b2 : UInt32} (h0 : isW w0) (h1 : isW w1) (h2 : isW w2) (ha0 : isS a0) (hb0 : isS b0) (ha1 : isS a1) (hb1 : isS b1) (ha2 : isS a2) (hb2 : isS b2) : okB (farF w0 w1 w2 a0 b0 a1 b1 a2 b2) := okB_pos (fq_fa h0 h1 h2 ha0 hb0 ha1 hb1 ha2 hb2).1 (by decide) (by decide) (fq_fa h0 h1 h2 ha0 hb0 ha1 hb1 ha2 hb2).2
/-- what is rounded to nothing was nothing -/
theorem rr_nz {x : UInt32} {s : Bool} {A : Nat} {e e0 : Int} (h : FP.Core.val32 x = FP.Core.roundRatio FP.Core.b32 s A 1 e) (h0 : e0 ≤ -149) (h1 : e0 ≤ e) (hA : 2 ^ (-149 - e0).toNat ≤ FP.Core.inUnits A e e0) : ¬ x.toNat % 2 ^ 31 = 0 := by
  have h2 := FP.Core.mag_ge (m := 1) FP.Core.good_b32 (n := x.toNat) h (by decide) (by rw [FP.Core.qmin_b32]; exact h0) h1 (by rw [FP.Core.infBits_b32]; decide) (by rw [FP.Core.qmin_b32, show FP.Core.unitsOf FP.Core.b32 1 = 1 by decide +kernel, Nat.one_mul, Nat.mul_one]; exact hA)
  rw [FP.Core.mag_toNat32] at h2
  omega
theorem neg0_of {a : UInt32} {s : Bool} {c : Nat} {q : Int} (h : FP.Core.val32 a = .fin s c q) (hs : s = true) (hc : c = 0) : a = 2147483648 := by
  subst hs; subst hc
  have hf : FP.Core.fits FP.Core.b32 (.fin true 0 q) := h ▸ FP.Core.val32_fits a
  have hq := FP.Core.fits_zero_q FP.Core.good_b32 hf
  subst hq
  refine FP.Core.val32_inj (by rw [h]; exact FP.Core.Datum.noConfusion) ?_
  rw [h]; exact FP.Core.val32_fzeroNeg.symm
theorem add_neg0 {a b : UInt32} (fa : fiF a) (fb : fiF b) (h : FP.fadd a b = 2147483648) : a = 2147483648 ∧ b = 2147483648 := by
  obtain ⟨s, c, q, ea, ga⟩ := fi_at fa
  obtain ⟨t, d, r, eb, gb⟩ := fi_at fb
  have e : FP.Core.val32 (FP.fadd a b) = FP.Core.roundRatio FP.Core.b32 (FP.Core.sumSign s t (FP.Core.sumUnits s c q t d r (min q r))) (FP.Core.sumUnits s c q t d r (min q r)).natAbs 1 (min q r) := by
    show FP.Core.val32 (FP.Core.fadd a b) = _
    rw [FP.Core.val32_fadd, ea, eb]; rfl
  have hq : -149 ≤ q := by have := ga.2.1; rw [FP.Core.qmin_b32] at this; exact this
  have hr : -149 ≤ r := by have := gb.2.1; rw [FP.Core.qmin_b32] at this; exact this
  have hv : FP.Core.sumUnits s c q t d r (min q r) = 0 := by
    refine Classical.byContradiction fun hn => ?_
    refine rr_nz e (e0 := -149) (by omega) (by omega) ?_ (by rw [h]; decide)
    unfold FP.Core.inUnits
    exact Nat.mul_pos (Int.natAbs_pos.mpr hn) (Nat.two_pow_pos _)
  have hs := FP.Core.sgn_roundRatio FP.Core.b32 (FP.Core.sumSign s t (FP.Core.sumUnits s c q t d r (min q r))) (FP.Core.sumUnits s c q t d r (min q r)).natAbs 1 (min q r)
  rw [← e, h, show FP.Core.val32 2147483648 = .fin true 0 FP.Core.b32.qmin from FP.Core.val32_fzeroNeg, hv] at hs
  have hs : true = (s && t) := hs
  obtain ⟨s1, t1⟩ := and_f hs.symm
  subst s1; subst t1
  have hv : -((FP.Core.inUnits c q (min q r) : Nat) : Int) + -((FP.Core.inUnits d r (min q r) : Nat) : Int) = 0 := hv
  have z : ∀ (c : Nat) (q e : Int), FP.Core.inUnits c q e = 0 → c = 0 := fun c q e h => (Nat.mul_eq_zero.mp h).resolve_right (Nat.ne_of_gt (Nat.two_pow_pos _))
  exact ⟨neg0_of ea rfl (z c q (min q r) (by omega)), neg0_of eb rfl (z d r (min q r) (by omega))⟩
theorem mul_neg0 {x r : Int32} (hx : isT x) (hr : isP r) (h : FP.fmul (FP.fdiv (FP.i2f x) 1120403456) (FP.i2f r) = 2147483648) : x < 0 ∧ r = 0 := by
  obtain ⟨qx, px, zx⟩ := fq_t hx
  obtain ⟨qr, pr⟩ := fq_part hr
  obtain ⟨s, c, q, ea, ga⟩ := fi_at (qx.fi (by decide))
  obtain ⟨t, d, u, eb, gb⟩ := fi_at (qr.fi (by decide))
  have e := mul_sg ea eb
  have ht := pos_sg eb pr
  subst ht
  have hs := FP.Core.sgn_roundRatio FP.Core.b32 (s != false) (c * d) 1 (q + u)
  rw [← e, h, show FP.Core.val32 2147483648 = .fin true 0 FP.Core.b32.qmin from FP.Core.val32_fzeroNeg] at hs
  have hs : true = (s != false) := hs
  have s1 : s = true := by cases s with
    | true => rfl
    | false => cases hs
  subst s1
  have hn : x < 0 := Classical.byContradiction fun hn => by
    have := pos_sg ea (px.mpr hn)
    cases this
  refine ⟨hn, Classical.byContradiction fun h0 => ?_⟩
  obtain ⟨p1, p2, p3⟩ := FP.Core.product_units ga gb
  rw [FP.Core.qmin_b32] at p2 p3
  have z1 : 2 ^ 119 ≤ FP.Core.zmag FP.Core.b32 (FP.Core.val32 (FP.fdiv (FP.i2f x) 1120403456)) := Nat.le_of_dvd (Nat.pos_of_ne_zero fun z => (zx hn).1 (by rw [FP.Core.zmag_toNat32 (fi_nn (qx.fi (by decide)))] at z; exact FP.Core.unitsOf_eq_zero.mp z)) qx.2
  have z2 : 2 ^ 149 ≤ FP.Core.zmag FP.Core.b32 (FP.Core.val32 (FP.i2f r)) := Nat.le_of_dvd (Nat.pos_of_ne_zero fun z => FP.Core.i2f_ne_zero h0 (by rw [FP.Core.zmag_toNat32 (fi_nn (qr.fi (by decide)))] at z; exact FP.Core.unitsOf_eq_zero.mp z)) qr.2
  rw [ea] at z1
  rw [eb] at z2
  refine rr_nz e (e0 := 2 * -149) (by omega) p2 ?_ (by rw [h]; decide)
  rw [p3]
  refine Nat.le_trans ?_ (Nat.mul_le_mul z1 z2)
  decide
theorem ob_seen' {x y z r g b : Int32} (hx : isT x) (hy : isT y) (hz : isT z) (hr : isP r) (hg : isP g) (hb : isP b) : (mzF x y z r g b = false → okB (seenF x y z r g b)) ∧ (mzF x y z r g b = true → seenF x y z r g b = 2147483648) := by
  have q := fq_se hx hy hz hr hg hb
  constructor
  · intro hm
    by_cases e : (seenF x y z r g b).toNat % 2 ^ 31 = 0
    · have h3 := (seenF x y z r g b).toNat_lt
      rcases (show (seenF x y z r g b).toNat = 0 ∨ (seenF x y z r g b).toNat = 2147483648 by omega) with e2 | e2
      · exact Or.inl (UInt32.toNat_inj.mp (by rw [e2]; rfl))
      · have e3 : seenF x y z r g b = 2147483648 := UInt32.toNat_inj.mp (by rw [e2]; rfl)
        obtain ⟨a1, a2⟩ := add_neg0 ((fq_s2 hx hy hr hg).fi (by decide)) ((fq_s1 hz hb).fi (by decide)) e3
        obtain ⟨a3, a4⟩ := add_neg0 ((fq_s1 hx hr).fi (by decide)) ((fq_s1 hy hg).fi (by decide)) a1
        obtain ⟨b1, b2⟩ := mul_neg0 hx hr a3
        obtain ⟨b3, b4⟩ := mul_neg0 hy hg a4
        obtain ⟨b5, b6⟩ := mul_neg0 hz hb a2
        have := of_decide_eq_false hm
        exact absurd ⟨b1, b2, b3, b4, b5, b6⟩ this
    · exact okB_FQ q (by decide) (by decide) e
  · intro hm
    obtain ⟨b1, b2, b3, b4, b5, b6⟩ := of_decide_eq_true hm
    unfold seenF
    rw [b2, b4, b6, ((fq_t hx).2.2 b1).2, ((fq_t hy).2.2 b3).2, ((fq_t hz).2.2 b5).2]
    decide +kernel
