/-! Floats: the numbers of this class -/
theorem NF.fi {x : UInt32} (h : NF x) : fiF x := by
  have h : x.toNat < 0x7f800000 := h
  show x.toNat % 2 ^ 31 < 2139095040
  omega
theorem fl_cmp' {x y : UInt32} (hx : NF x) (hy : NF y) (op : CmpOp) : Op.cmpValue (FP.fcmp x y) op = cmpU x y := by
  have k : ∀ z : UInt32, NF z → FP.Core.fkey z = (z.toNat : Int) := fun z hz => if_neg (by have hz : z.toNat < 0x7f800000 := hz; omega)
  have h1 : FP.fcmp x y = some (compare (x.toNat : Int) (y.toNat : Int)) := by rw [← k x hx, ← k y hy]; exact FP.Core.fcmp_key (fi_nn hx.fi) (fi_nn hy.fi)
  rw [h1]
  unfold cmpU
  rcases Nat.lt_trichotomy x.toNat y.toNat with q | q | q
  · rw [(FP.Core.compare_lt_iff _ _).mpr (by omega), if_pos (UInt32.lt_iff_toNat_lt.mpr q)]; rfl
  · have e : x = y := UInt32.toNat_inj.mp q
    subst e
    rw [(FP.Core.compare_eq_iff _ _).mpr rfl, if_neg (UInt32.lt_irrefl x), if_pos rfl]; rfl
  · rw [(FP.Core.compare_gt_iff _ _).mpr (by omega), if_neg (fun h => by have := UInt32.lt_iff_toNat_lt.mp h; omega), if_neg (fun h => by rw [h] at q; omega)]; rfl
theorem FQ.nf {K k : Nat} {x : UInt32} (h : FQ K k x) (hK : K ≤ 255) (hp : posF x) : NF x := by
  have h1 := h.1
  have hp : x.toNat < 2 ^ 31 := hp
  show x.toNat < 0x7f800000
  omega
/-- the tables -/
theorem tb_p : ∀ j, j < 256 → ((FP.i2f (nI j)).toNat % 2 ^ 31 < 135 * 2 ^ 23 ∧ 2 ^ 149 ∣ FP.Core.zmag FP.Core.b32 (FP.Core.val32 (FP.i2f (nI j)))) ∧ (FP.i2f (nI j)).toNat < 2 ^ 31 := by decide +kernel
theorem tb_w : ∀ j, j < 10 → ((FP.i2f (nI j)).toNat % 2 ^ 31 < 131 * 2 ^ 23 ∧ 2 ^ 149 ∣ FP.Core.zmag FP.Core.b32 (FP.Core.val32 (FP.i2f (nI j)))) ∧ (FP.i2f (nI j)).toNat < 2 ^ 31 := by decide +kernel
theorem tb_s0 : ∀ a, a < 100 → ∀ b, b < 100 → (FP.i2f (nI (100 * a + b))).toNat < 0x7f800000 := by decide +kernel
theorem tb_s (j : Nat) (h : j < 10000) : (FP.i2f (nI j)).toNat < 0x7f800000 := by
  have := tb_s0 (j / 100) (by omega) (j % 100) (by omega)
  rwa [Nat.div_add_mod] at this
theorem tb_t : ∀ j, j < 601 → ((FP.fdiv (FP.i2f (nI j - 300)) 1120403456).toNat % 2 ^ 31 < 129 * 2 ^ 23 ∧ 2 ^ 119 ∣ FP.Core.zmag FP.Core.b32 (FP.Core.val32 (FP.fdiv (FP.i2f (nI j - 300)) 1120403456))) ∧ ((FP.fdiv (FP.i2f (nI j - 300)) 1120403456).toNat < 2 ^ 31 ↔ ¬ nI j - 300 < 0) ∧ (nI j - 300 < 0 → ¬ (FP.fdiv (FP.i2f (nI j - 300)) 1120403456).toNat % 2 ^ 31 = 0 ∧ FP.fmul (FP.fdiv (FP.i2f (nI j - 300)) 1120403456) (FP.i2f 0) = 2147483648) := by decide +kernel
theorem tb_c : ((1050220167 : UInt32).toNat % 2 ^ 31 < 126 * 2 ^ 23 ∧ 2 ^ 124 ∣ FP.Core.zmag FP.Core.b32 (FP.Core.val32 1050220167)) ∧ ((1058424226 : UInt32).toNat % 2 ^ 31 < 127 * 2 ^ 23 ∧ 2 ^ 125 ∣ FP.Core.zmag FP.Core.b32 (FP.Core.val32 1058424226)) ∧ ((1038710997 : UInt32).toNat % 2 ^ 31 < 124 * 2 ^ 23 ∧ 2 ^ 122 ∣ FP.Core.zmag FP.Core.b32 (FP.Core.val32 1038710997)) := by decide +kernel
theorem in_m {x hi : Int32} {n : Nat} (hM : hi.toInt = n) (h : inF x 0 hi = true) : ∃ j, j ≤ n ∧ x = nI j := by
  obtain ⟨h1, h2⟩ := inF_iff.mp h
  exact nI_of2 hM (Int32.not_lt.mpr h1) h2
theorem fq_part {r : Int32} (h : isP r) : FQ 135 149 (FP.i2f r) ∧ posF (FP.i2f r) := by
  obtain ⟨j, j1, rfl⟩ := in_m (n := 255) (by decide) h
  exact tb_p j (by omega)
theorem fq_w {r : Int32} (h : isW r) : FQ 131 149 (FP.i2f r) ∧ posF (FP.i2f r) := by
  obtain ⟨j, j1, rfl⟩ := in_m (n := 9) (by decide) h
  exact tb_w j (by omega)
theorem t_n {x : Int32} (h : isT x) : ∃ j, j < 601 ∧ x = nI j - 300 := by
  obtain ⟨h1, h2⟩ := inF_iff.mp h
  rw [Int32.le_iff_toInt_le] at h1 h2
  have e1 : ((-300 : Int32)).toInt = -300 := by decide
  have e2 : ((300 : Int32)).toInt = 300 := by decide
  have e3 : ((600 : Int32)).toInt = 600 := by decide
  have e4 : ((0 : Int32)).toInt = 0 := by decide
  have ha : (x + 300).toInt = x.toInt + 300 := by
    rw [Int32.toInt_add, e2]
    exact Int.bmod_eq_of_le (by omega) (by omega)
  obtain ⟨j, j1, j2⟩ := nI_of2 (x := x + 300) (M := 600) (n := 600) (by decide) (by rw [Int32.lt_iff_toInt_lt, ha, e4]; omega) (by rw [Int32.le_iff_toInt_le, ha, e3]; omega)
  refine ⟨j, by omega, ?_⟩
  rw [← j2, Int32.add_sub_cancel]
theorem fq_t {x : Int32} (h : isT x) : FQ 129 119 (FP.fdiv (FP.i2f x) 1120403456) ∧ (posF (FP.fdiv (FP.i2f x) 1120403456) ↔ ¬ x < 0) ∧ (x < 0 → ¬ (FP.fdiv (FP.i2f x) 1120403456).toNat % 2 ^ 31 = 0 ∧ FP.fmul (FP.fdiv (FP.i2f x) 1120403456) (FP.i2f 0) = 2147483648) := by
  obtain ⟨j, j1, rfl⟩ := t_n h
  exact tb_t j j1
theorem fl_part' {r : Int32} (h : isP r) : NF (FP.i2f r) := (fq_part h).1.nf (by decide) (fq_part h).2
theorem fl_small' {v : Int32} (h : inF v 0 9999 = true) : NF (FP.i2f v) := by
  obtain ⟨j, j1, rfl⟩ := in_m (n := 9999) (by decide) h
  exact tb_s j (by omega)
section Li
variable {r g b : Int32}
theorem fq_l1 (hr : isP r) : FQ 136 122 (FP.fmul 1050220167 (FP.i2f r)) ∧ posF (FP.fmul 1050220167 (FP.i2f r)) := by
  have c : FQ 126 124 1050220167 := tb_c.1
  have p := fq_part hr
  have m : FQ 135 124 (FP.fmul 1050220167 (FP.i2f r)) := c.mul (by decide) (by decide) (by decide) (by omega) (by omega) p.1
  exact ⟨(m.le (by decide)).dv (by decide), pos_mul (c.fi (by decide)) (p.1.fi (by decide)) (m.fi (by decide)) (by decide) p.2⟩
theorem fq_l2 (hr : isP r) : FQ 136 122 (FP.fmul 1058424226 (FP.i2f r)) ∧ posF (FP.fmul 1058424226 (FP.i2f r)) := by
  have c : FQ 127 125 1058424226 := tb_c.2.1
  have p := fq_part hr
  have m : FQ 136 125 (FP.fmul 1058424226 (FP.i2f r)) := c.mul (by decide) (by decide) (by decide) (by omega) (by omega) p.1
  exact ⟨m.dv (by decide), pos_mul (c.fi (by decide)) (p.1.fi (by decide)) (m.fi (by decide)) (by decide) p.2⟩
theorem fq_l3 (hr : isP r) : FQ 138 122 (FP.fmul 1038710997 (FP.i2f r)) ∧ posF (FP.fmul 1038710997 (FP.i2f r)) := by
  have c : FQ 124 122 1038710997 := tb_c.2.2
  have p := fq_part hr
  have m : FQ 133 122 (FP.fmul 1038710997 (FP.i2f r)) := c.mul (by decide) (by decide) (by decide) (by omega) (by omega) p.1
  exact ⟨m.le (by decide), pos_mul (c.fi (by decide)) (p.1.fi (by decide)) (m.fi (by decide)) (by decide) p.2⟩
theorem fq_l12 (hr : isP r) (hg : isP g) : FQ 138 122 (FP.fadd (FP.fmul 1050220167 (FP.i2f r)) (FP.fmul 1058424226 (FP.i2f g))) ∧ posF (FP.fadd (FP.fmul 1050220167 (FP.i2f r)) (FP.fmul 1058424226 (FP.i2f g))) := by
  have m := (fq_l1 hr).1.add (by decide) (by decide) (fq_l2 hg).1
  exact ⟨m, pos_add ((fq_l1 hr).1.fi (by decide)) ((fq_l2 hg).1.fi (by decide)) (m.fi (by decide)) (fq_l1 hr).2 (fq_l2 hg).2⟩
theorem fq_li (hr : isP r) (hg : isP g) (hb : isP b) : FQ 140 122 (lightF r g b) ∧ posF (lightF r g b) := by
  have m := (fq_l12 hr hg).1.add (by decide) (by decide) (fq_l3 hb).1
  exact ⟨m, pos_add ((fq_l12 hr hg).1.fi (by decide)) ((fq_l3 hb).1.fi (by decide)) (m.fi (by decide)) (fq_l12 hr hg).2 (fq_l3 hb).2⟩
theorem fl_light' (hr : isP r) (hg : isP g) (hb : isP b) : lightN r g b ∧ NF (lightF r g b) :=
  ⟨⟨(fq_l1 hr).1.n (by decide), (fq_l2 hg).1.n (by decide), (fq_l12 hr hg).1.n (by decide), (fq_l3 hb).1.n (by decide), (fq_li hr hg hb).1.n (by decide)⟩, (fq_li hr hg hb).1.nf (by decide) (fq_li hr hg hb).2⟩
theorem fl_off' {r2 g2 b2 : Int32} (hr : isP r) (hg : isP g) (hb : isP b) (hr2 : isP r2) (hg2 : isP g2) (hb2 : isP b2) : vf_n32 (FP.fsub (lightF r g b) (lightF r2 g2 b2)) :=
  ((fq_li hr hg hb).1.sub (by decide) (by decide) (fq_li hr2 hg2 hb2).1).n (by decide)
end Li
section Se
variable {x y z r g b : Int32}
theorem fq_s1 (hx : isT x) (hr : isP r) : FQ 138 119 (FP.fmul (FP.fdiv (FP.i2f x) 1120403456) (FP.i2f r)) := (fq_t hx).1.mul (by decide) (by decide) (by decide) (by omega) (by omega) (fq_part hr).1
theorem fq_s2 (hx : isT x) (hy : isT y) (hr : isP r) (hg : isP g) : FQ 140 119 (FP.fadd (FP.fmul (FP.fdiv (FP.i2f x) 1120403456) (FP.i2f r)) (FP.fmul (FP.fdiv (FP.i2f y) 1120403456) (FP.i2f g))) := (fq_s1 hx hr).add (by decide) (by decide) (fq_s1 hy hg)
theorem fq_se (hx : isT x) (hy : isT y) (hz : isT z) (hr : isP r) (hg : isP g) (hb : isP b) : FQ 142 119 (seenF x y z r g b) := (fq_s2 hx hy hr hg).add (by decide) (by decide) ((fq_s1 hz hb).le (by decide))
theorem fl_seen' (hx : isT x) (hy : isT y) (hz : isT z) (hr : isP r) (hg : isP g) (hb : isP b) : seenN x y z r g b :=
  ⟨(fq_t hx).1.n (by decide), (fq_t hy).1.n (by decide), (fq_t hz).1.n (by decide), (fq_s1 hx hr).n (by decide), (fq_s1 hy hg).n (by decide), (fq_s2 hx hy hr hg).n (by decide), (fq_s1 hz hb).n (by decide), (fq_se hx hy hz hr hg hb).n (by decide)⟩
end Se
theorem isS.fq {s : UInt32} (h : isS s) : FQ 142 119 s := by
  obtain ⟨x, y, z, r, g, b, h1, h2, h3, h4, h5, h6, rfl⟩ := h
  exact fq_se h1 h2 h3 h4 h5 h6
section Fa
variable {w w0 w1 w2 : Int32} {a b a0 b0 a1 b1 a2 b2 : UInt32}
theorem fq_d (ha : isS a) (hb : isS b) : FQ 144 119 (FP.fsub a b) := ha.fq.sub (by decide) (by decide) hb.fq
theorem fq_dd (ha : isS a) (hb : isS b) : FQ 162 89 (FP.fmul (FP.fsub a b) (FP.fsub a b)) ∧ posF (FP.fmul (FP.fsub a b) (FP.fsub a b)) := by
  have d := fq_d ha hb
  have m : FQ 162 89 (FP.fmul (FP.fsub a b) (FP.fsub a b)) := d.mul (by decide) (by decide) (by decide) (by omega) (by omega) d
  exact ⟨m, pos_sq (d.fi (by decide)) (m.fi (by decide))⟩
theorem fq_wd (hw : isW w) (ha : isS a) (hb : isS b) : FQ 167 89 (FP.fmul (FP.i2f w) (FP.fmul (FP.fsub a b) (FP.fsub a b))) ∧ posF (FP.fmul (FP.i2f w) (FP.fmul (FP.fsub a b) (FP.fsub a b))) := by
  have d := fq_dd ha hb
  have c := fq_w hw
  have m : FQ 167 89 (FP.fmul (FP.i2f w) (FP.fmul (FP.fsub a b) (FP.fsub a b))) := c.1.mul (by decide) (by decide) (by decide) (by omega) (by omega) d.1
  exact ⟨m, pos_mul (c.1.fi (by decide)) (d.1.fi (by decide)) (m.fi (by decide)) c.2 d.2⟩
theorem fq_f2 (h0 : isW w0) (h1 : isW w1) (ha0 : isS a0) (hb0 : isS b0) (ha1 : isS a1) (hb1 : isS b1) : FQ 169 89 (FP.fadd (FP.fmul (FP.i2f w0) (FP.fmul (FP.fsub a0 b0) (FP.fsub a0 b0))) (FP.fmul (FP.i2f w1) (FP.fmul (FP.fsub a1 b1) (FP.fsub a1 b1)))) ∧ posF (FP.fadd (FP.fmul (FP.i2f w0) (FP.fmul (FP.fsub a0 b0) (FP.fsub a0 b0))) (FP.fmul (FP.i2f w1) (FP.fmul (FP.fsub a1 b1) (FP.fsub a1 b1)))) := by
  have m := (fq_wd h0 ha0 hb0).1.add (by decide) (by decide) (fq_wd h1 ha1 hb1).1
  exact ⟨m, pos_add ((fq_wd h0 ha0 hb0).1.fi (by decide)) ((fq_wd h1 ha1 hb1).1.fi (by decide)) (m.fi (by decide)) (fq_wd h0 ha0 hb0).2 (fq_wd h1 ha1 hb1).2⟩
theorem fq_fa (h0 : isW w0) (h1 : isW w1) (h2 : isW w2) (ha0 : isS a0) (hb0 : isS b0) (ha1 : isS a1) (hb1 : isS b1) (ha2 : isS a2) (hb2 : isS b2) : FQ 171 89 (farF w0 w1 w2 a0 b0 a1 b1 a2 b2) ∧ posF (farF w0 w1 w2 a0 b0 a1 b1 a2 b2) := by
  have p := fq_f2 h0 h1 ha0 hb0 ha1 hb1
  have q := fq_wd h2 ha2 hb2
  have m := p.1.add (by decide) (by decide) (q.1.le (by decide))
  exact ⟨m, pos_add (p.1.fi (by decide)) (q.1.fi (by decide)) (m.fi (by decide)) p.2 q.2⟩
theorem fl_far' (h0 : isW w0) (h1 : isW w1) (h2 : isW w2) (ha0 : isS a0) (hb0 : isS b0) (ha1 : isS a1) (hb1 : isS b1) (ha2 : isS a2) (hb2 : isS b2) : farN w0 w1 w2 a0 b0 a1 b1 a2 b2 ∧ NF (farF w0 w1 w2 a0 b0 a1 b1 a2 b2) :=
  ⟨⟨(fq_d ha0 hb0).n (by decide), (fq_d ha1 hb1).n (by decide), (fq_d ha2 hb2).n (by decide), (fq_dd ha0 hb0).1.n (by decide), (fq_dd ha1 hb1).1.n (by decide), (fq_dd ha2 hb2).1.n (by decide), (fq_wd h0 ha0 hb0).1.n (by decide), (fq_wd h1 ha1 hb1).1.n (by decide), (fq_f2 h0 h1 ha0 hb0 ha1 hb1).1.n (by decide), (fq_wd h2 ha2 hb2).1.n (by decide), (fq_fa h0 h1 h2 ha0 hb0 ha1 hb1 ha2 hb2).1.n (by decide)⟩, (fq_fa h0 h1 h2 ha0 hb0 ha1 hb1 ha2 hb2).1.nf (by decide) (fq_fa h0 h1 h2 ha0 hb0 ha1 hb1 ha2 hb2).2⟩
end Fa
