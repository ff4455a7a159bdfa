/-! Floats: what is used of them -/
/-- a number of sign 0, finite -/
def NF (x : UInt32) : Prop := x.toNat < 0x7f800000
def cmpU (x y : UInt32) : Int32 := if x < y then -1 else if x = y then 0 else 1
def absF (s : UInt32) : UInt32 := if 0 ≤ Op.cmpValue (FP.fcmp s FP.fconst0) .g then s else FP.fneg s
def gapN (s : UInt32) (g : Int32) : Bool := decide (Op.cmpValue (FP.fcmp (absF s) (FP.i2f g)) .l < 0)
/-- whether a COLOUR FITS: its light, the ground's, LOW, HIGH, GAP -/
def fitF (own gl : UInt32) (lo hi gap : Int32) : Bool := !decide (own < FP.i2f lo) && (!decide (FP.i2f hi < own) && !gapN (FP.fsub own gl) gap)
/-- SEEN in a row -/
def seenF (x y z r g b : Int32) : UInt32 := FP.fadd (FP.fadd (FP.fmul (FP.fdiv (FP.i2f x) 1120403456) (FP.i2f r)) (FP.fmul (FP.fdiv (FP.i2f y) 1120403456) (FP.i2f g))) (FP.fmul (FP.fdiv (FP.i2f z) 1120403456) (FP.i2f b))
def seenN (x y z r g b : Int32) : Prop := vf_n32 (FP.fdiv (FP.i2f x) 1120403456) ∧ vf_n32 (FP.fdiv (FP.i2f y) 1120403456) ∧ vf_n32 (FP.fdiv (FP.i2f z) 1120403456) ∧ vf_n32 (FP.fmul (FP.fdiv (FP.i2f x) 1120403456) (FP.i2f r)) ∧ vf_n32 (FP.fmul (FP.fdiv (FP.i2f y) 1120403456) (FP.i2f g)) ∧ vf_n32 (FP.fadd (FP.fmul (FP.fdiv (FP.i2f x) 1120403456) (FP.i2f r)) (FP.fmul (FP.fdiv (FP.i2f y) 1120403456) (FP.i2f g))) ∧ vf_n32 (FP.fmul (FP.fdiv (FP.i2f z) 1120403456) (FP.i2f b)) ∧ vf_n32 (seenF x y z r g b)
/-- a TABLE's number, a WEIGHT, a part of a colour -/
abbrev isT (x : Int32) : Prop := inF x (-300) 300 = true
abbrev isW (x : Int32) : Prop := inF x 0 9 = true
abbrev isP (x : Int32) : Prop := inF x 0 255 = true
/-- a thing SEEN: a float that comes of numbers as told -/
def isS (s : UInt32) : Prop := ∃ x y z r g b : Int32, isT x ∧ isT y ∧ isT z ∧ isP r ∧ isP g ∧ isP b ∧ s = seenF x y z r g b
/-- DISTANCE out of what is SEEN -/
def farF (w0 w1 w2 : Int32) (a0 b0 a1 b1 a2 b2 : UInt32) : UInt32 := FP.fadd (FP.fadd (FP.fmul (FP.i2f w0) (FP.fmul (FP.fsub a0 b0) (FP.fsub a0 b0))) (FP.fmul (FP.i2f w1) (FP.fmul (FP.fsub a1 b1) (FP.fsub a1 b1)))) (FP.fmul (FP.i2f w2) (FP.fmul (FP.fsub a2 b2) (FP.fsub a2 b2)))
def farN (w0 w1 w2 : Int32) (a0 b0 a1 b1 a2 b2 : UInt32) : Prop := vf_n32 (FP.fsub a0 b0) ∧ vf_n32 (FP.fsub a1 b1) ∧ vf_n32 (FP.fsub a2 b2) ∧ vf_n32 (FP.fmul (FP.fsub a0 b0) (FP.fsub a0 b0)) ∧ vf_n32 (FP.fmul (FP.fsub a1 b1) (FP.fsub a1 b1)) ∧ vf_n32 (FP.fmul (FP.fsub a2 b2) (FP.fsub a2 b2)) ∧ vf_n32 (FP.fmul (FP.i2f w0) (FP.fmul (FP.fsub a0 b0) (FP.fsub a0 b0))) ∧ vf_n32 (FP.fmul (FP.i2f w1) (FP.fmul (FP.fsub a1 b1) (FP.fsub a1 b1))) ∧ vf_n32 (FP.fadd (FP.fmul (FP.i2f w0) (FP.fmul (FP.fsub a0 b0) (FP.fsub a0 b0))) (FP.fmul (FP.i2f w1) (FP.fmul (FP.fsub a1 b1) (FP.fsub a1 b1)))) ∧ vf_n32 (FP.fmul (FP.i2f w2) (FP.fmul (FP.fsub a2 b2) (FP.fsub a2 b2))) ∧ vf_n32 (farF w0 w1 w2 a0 b0 a1 b1 a2 b2)
theorem NF.fi {x : UInt32} (h : NF x) : fiF x := by
  have h : x.toNat < 0x7f800000 := h
  show x.toNat % 2 ^ 31 < 2139095040
  omega
theorem fl_cmp {x y : UInt32} (hx : NF x) (hy : NF y) (op : CmpOp) : Op.cmpValue (FP.fcmp x y) op = cmpU x y := by
  have k : ∀ z : UInt32, NF z → FP.Core.fkey z = (z.toNat : Int) := fun z hz => if_neg (by have hz : z.toNat < 0x7f800000 := hz; omega)
  have h1 : FP.fcmp x y = some (compare (x.toNat : Int) (y.toNat : Int)) := by rw [← k x hx, ← k y hy]; exact FP.Core.fcmp_key (fi_nn hx.fi) (fi_nn hy.fi)
  rw [h1]
  unfold cmpU
  rcases Nat.lt_trichotomy x.toNat y.toNat with q | q | q
  · rw [(FP.Core.compare_lt_iff _ _).mpr (by omega), if_pos (UInt32.lt_iff_toNat_lt.mpr q)]; rfl
  · have e : x = y := UInt32.toNat_inj.mp q
    subst e
    rw [(FP.Core.compare_eq_iff _ _).mpr rfl, if_neg (UInt32.lt_irrefl x), if_pos rfl]; rfl
  · rw [(FP.Core.compare_gt_iff _ _).mpr (by omega), if_neg (fun h => by have := UInt32.lt_iff_toNat_lt.mp h; omega), if_neg (fun h => by rw [h] at q; omega)]; rfl
theorem FQ.nf {K k : Nat} {x : UInt32} (h : FQ K k x) (hK : K ≤ 255) (hp : posF x) : NF x := by
  have h1 := h.1
  have hp : x.toNat < 2 ^ 31 := hp
  show x.toNat < 0x7f800000
  omega
/-- the tables -/
theorem tb_p : ∀ j, j < 256 → ((FP.i2f (nI j)).toNat % 2 ^ 31 < 135 * 2 ^ 23 ∧ 2 ^ 149 ∣ FP.Core.zmag FP.Core.b32 (FP.Core.val32 (FP.i2f (nI j)))) ∧ (FP.i2f (nI j)).toNat < 2 ^ 31 := by decide +kernel
theorem tb_w : ∀ j, j < 10 → ((FP.i2f (nI j)).toNat % 2 ^ 31 < 131 * 2 ^ 23 ∧ 2 ^ 149 ∣ FP.Core.zmag FP.Core.b32 (FP.Core.val32 (FP.i2f (nI j)))) ∧ (FP.i2f (nI j)).toNat < 2 ^ 31 := by decide +kernel
theorem tb_s0 : ∀ a, a < 100 → ∀ b, b < 100 → (FP.i2f (nI (100 * a + b))).toNat < 0x7f800000 := by decide +kernel
theorem tb_s (j : Nat) (h : j < 10000) : (FP.i2f (nI j)).toNat < 0x7f800000 := by
  have := tb_s0 (j / 100) (by omega) (j % 100) (by omega)
  rwa [Nat.div_add_mod] at this
theorem tb_t : ∀ j, j < 601 → ((FP.fdiv (FP.i2f (nI j - 300)) 1120403456).toNat % 2 ^ 31 < 129 * 2 ^ 23 ∧ 2 ^ 119 ∣ FP.Core.zmag FP.Core.b32 (FP.Core.val32 (FP.fdiv (FP.i2f (nI j - 300)) 1120403456))) ∧ ((FP.fdiv (FP.i2f (nI j - 300)) 1120403456).toNat < 2 ^ 31 ↔ ¬ nI j - 300 < 0) ∧ (nI j - 300 < 0 → ¬ (FP.fdiv (FP.i2f (nI j - 300)) 1120403456).toNat % 2 ^ 31 = 0 ∧ FP.fmul (FP.fdiv (FP.i2f (nI j - 300)) 1120403456) (FP.i2f 0) = 2147483648) := by decide +kernel
theorem tb_c : ((1050220167 : UInt32).toNat % 2 ^ 31 < 126 * 2 ^ 23 ∧ 2 ^ 124 ∣ FP.Core.zmag FP.Core.b32 (FP.Core.val32 1050220167)) ∧ ((1058424226 : UInt32).toNat % 2 ^ 31 < 127 * 2 ^ 23 ∧ 2 ^ 125 ∣ FP.Core.zmag FP.Core.b32 (FP.Core.val32 1058424226)) ∧ ((1038710997 : UInt32).toNat % 2 ^ 31 < 124 * 2 ^ 23 ∧ 2 ^ 122 ∣ FP.Core.zmag FP.Core.b32 (FP.Core.val32 1038710997)) := by decide +kernel
theorem in_m {x hi : Int32} {n : Nat} (hM : hi.toInt = n) (h : inF x 0 hi = true) : ∃ j, j ≤ n ∧ x = nI j := by
  obtain ⟨h1, h2⟩ := inF_iff.mp h
  exact nI_of2 hM (Int32.not_lt.mpr h1) h2
theorem fq_part {r : Int32} (h : isP r) : FQ 135 149 (FP.i2f r) ∧ posF (FP.i2f r) := by
  obtain ⟨j, j1, rfl⟩ := in_m (n := 255) (by decide) h
  exact tb_p j (by omega)
theorem fq_w {r : Int32} (h : isW r) : FQ 131 149 (FP.i2f r) ∧ posF (FP.i2f r) := by
  obtain ⟨j, j1, rfl⟩ := in_m (n := 9) (by decide) h
  exact tb_w j (by omega)
theorem t_n {x : Int32} (h : isT x) : ∃ j, j < 601 ∧ x = nI j - 300 := by
  obtain ⟨h1, h2⟩ := inF_iff.mp h
  rw [Int32.le_iff_toInt_le] at h1 h2
  have e1 : ((-300 : Int32)).toInt = -300 := by decide
  have e2 : ((300 : Int32)).toInt = 300 := by decide
  have e3 : ((600 : Int32)).toInt = 600 := by decide
  have e4 : ((0 : Int32)).toInt = 0 := by decide
  have ha : (x + 300).toInt = x.toInt + 300 := by
    rw [Int32.toInt_add, e2]
    exact Int.bmod_eq_of_le (by omega) (by omega)
  obtain ⟨j, j1, j2⟩ := nI_of2 (x := x + 300) (M := 600) (n := 600) (by decide) (by rw [Int32.lt_iff_toInt_lt, ha, e4]; omega) (by rw [Int32.le_iff_toInt_le, ha, e3]; omega)
  refine ⟨j, by omega, ?_⟩
  rw [← j2, Int32.add_sub_cancel]
theorem fq_t {x : Int32} (h : isT x) : FQ 129 119 (FP.fdiv (FP.i2f x) 1120403456) ∧ (posF (FP.fdiv (FP.i2f x) 1120403456) ↔ ¬ x < 0) ∧ (x < 0 → ¬ (FP.fdiv (FP.i2f x) 1120403456).toNat % 2 ^ 31 = 0 ∧ FP.fmul (FP.fdiv (FP.i2f x) 1120403456) (FP.i2f 0) = 2147483648) := by
  obtain ⟨j, j1, rfl⟩ := t_n h
  exact tb_t j j1
theorem fl_part {r : Int32} (h : isP r) : NF (FP.i2f r) := (fq_part h).1.nf (by decide) (fq_part h).2
theorem fl_small {v : Int32} (h : inF v 0 9999 = true) : NF (FP.i2f v) := by
  obtain ⟨j, j1, rfl⟩ := in_m (n := 9999) (by decide) h
  exact tb_s j (by omega)
section Li
variable {r g b : Int32}
theorem fq_l1 (hr : isP r) : FQ 136 122 (FP.fmul 1050220167 (FP.i2f r)) ∧ posF (FP.fmul 1050220167 (FP.i2f r)) := by
  have c : FQ 126 124 1050220167 := tb_c.1
  have p := fq_part hr
  have m : FQ 135 124 (FP.fmul 1050220167 (FP.i2f r)) := c.mul (by decide) (by decide) (by decide) (by omega) (by omega) p.1
  exact ⟨(m.le (by decide)).dv (by decide), pos_mul (c.fi (by decide)) (p.1.fi (by decide)) (m.fi (by decide)) (by decide) p.2⟩
theorem fq_l2 (hr : isP r) : FQ 136 122 (FP.fmul 1058424226 (FP.i2f r)) ∧ posF (FP.fmul 1058424226 (FP.i2f r)) := by
  have c : FQ 127 125 1058424226 := tb_c.2.1
  have p := fq_part hr
  have m : FQ 136 125 (FP.fmul 1058424226 (FP.i2f r)) := c.mul (by decide) (by decide) (by decide) (by omega) (by omega) p.1
  exact ⟨m.dv (by decide), pos_mul (c.fi (by decide)) (p.1.fi (by decide)) (m.fi (by decide)) (by decide) p.2⟩
theorem fq_l3 (hr : isP r) : FQ 138 122 (FP.fmul 1038710997 (FP.i2f r)) ∧ posF (FP.fmul 1038710997 (FP.i2f r)) := by
  have c : FQ 124 122 1038710997 := tb_c.2.2
  have p := fq_part hr
  have m : FQ 133 122 (FP.fmul 1038710997 (FP.i2f r)) := c.mul (by decide) (by decide) (by decide) (by omega) (by omega) p.1
  exact ⟨m.le (by decide), pos_mul (c.fi (by decide)) (p.1.fi (by decide)) (m.fi (by decide)) (by decide) p.2⟩
theorem fq_l12 (hr : isP r) (hg : isP g) : FQ 138 122 (FP.fadd (FP.fmul 1050220167 (FP.i2f r)) (FP.fmul 1058424226 (FP.i2f g))) ∧ posF (FP.fadd (FP.fmul 1050220167 (FP.i2f r)) (FP.fmul 1058424226 (FP.i2f g))) := by
  have m := (fq_l1 hr).1.add (by decide) (by decide) (fq_l2 hg).1
  exact ⟨m, pos_add ((fq_l1 hr).1.fi (by decide)) ((fq_l2 hg).1.fi (by decide)) (m.fi (by decide)) (fq_l1 hr).2 (fq_l2 hg).2⟩
theorem fq_li (hr : isP r) (hg : isP g) (hb : isP b) : FQ 140 122 (lightF r g b) ∧ posF (lightF r g b) := by
  have m := (fq_l12 hr hg).1.add (by decide) (by decide) (fq_l3 hb).1
  exact ⟨m, pos_add ((fq_l12 hr hg).1.fi (by decide)) ((fq_l3 hb).1.fi (by decide)) (m.fi (by decide)) (fq_l12 hr hg).2 (fq_l3 hb).2⟩
theorem fl_light (hr : isP r) (hg : isP g) (hb : isP b) : lightN r g b ∧ NF (lightF r g b) :=
  ⟨⟨(fq_l1 hr).1.n (by decide), (fq_l2 hg).1.n (by decide), (fq_l12 hr hg).1.n (by decide), (fq_l3 hb).1.n (by decide), (fq_li hr hg hb).1.n (by decide)⟩, (fq_li hr hg hb).1.nf (by decide) (fq_li hr hg hb).2⟩
theorem fl_off {r2 g2 b2 : Int32} (hr : isP r) (hg : isP g) (hb : isP b) (hr2 : isP r2) (hg2 : isP g2) (hb2 : isP b2) : vf_n32 (FP.fsub (lightF r g b) (lightF r2 g2 b2)) :=
  ((fq_li hr hg hb).1.sub (by decide) (by decide) (fq_li hr2 hg2 hb2).1).n (by decide)
end Li
section Se
variable {x y z r g b : Int32}
theorem fq_s1 (hx : isT x) (hr : isP r) : FQ 138 119 (FP.fmul (FP.fdiv (FP.i2f x) 1120403456) (FP.i2f r)) := (fq_t hx).1.mul (by decide) (by decide) (by decide) (by omega) (by omega) (fq_part hr).1
theorem fq_s2 (hx : isT x) (hy : isT y) (hr : isP r) (hg : isP g) : FQ 140 119 (FP.fadd (FP.fmul (FP.fdiv (FP.i2f x) 1120403456) (FP.i2f r)) (FP.fmul (FP.fdiv (FP.i2f y) 1120403456) (FP.i2f g))) := (fq_s1 hx hr).add (by decide) (by decide) (fq_s1 hy hg)
theorem fq_se (hx : isT x) (hy : isT y) (hz : isT z) (hr : isP r) (hg : isP g) (hb : isP b) : FQ 142 119 (seenF x y z r g b) := (fq_s2 hx hy hr hg).add (by decide) (by decide) ((fq_s1 hz hb).le (by decide))
theorem fl_seen (hx : isT x) (hy : isT y) (hz : isT z) (hr : isP r) (hg : isP g) (hb : isP b) : seenN x y z r g b :=
  ⟨(fq_t hx).1.n (by decide), (fq_t hy).1.n (by decide), (fq_t hz).1.n (by decide), (fq_s1 hx hr).n (by decide), (fq_s1 hy hg).n (by decide), (fq_s2 hx hy hr hg).n (by decide), (fq_s1 hz hb).n (by decide), (fq_se hx hy hz hr hg hb).n (by decide)⟩
end Se
theorem isS.fq {s : UInt32} (h : isS s) : FQ 142 119 s := by
  obtain ⟨x, y, z, r, g, b, h1, h2, h3, h4, h5, h6, rfl⟩ := h
  exact fq_se h1 h2 h3 h4 h5 h6
section Fa
variable {w w0 w1 w2 : Int32} {a b a0 b0 a1 b1 a2 b2 : UInt32}
theorem fq_d (ha : isS a) (hb : isS b) : FQ 144 119 (FP.fsub a b) := ha.fq.sub (by decide) (by decide) hb.fq
theorem fq_dd (ha : isS a) (hb : isS b) : FQ 162 89 (FP.fmul (FP.fsub a b) (FP.fsub a b)) ∧ posF (FP.fmul (FP.fsub a b) (FP.fsub a b)) := by
  have d := fq_d ha hb
  have m : FQ 162 89 (FP.fmul (FP.fsub a b) (FP.fsub a b)) := d.mul (by decide) (by decide) (by decide) (by omega) (by omega) d
  exact ⟨m, pos_sq (d.fi (by decide)) (m.fi (by decide))⟩
theorem fq_wd (hw : isW w) (ha : isS a) (hb : isS b) : FQ 167 89 (FP.fmul (FP.i2f w) (FP.fmul (FP.fsub a b) (FP.fsub a b))) ∧ posF (FP.fmul (FP.i2f w) (FP.fmul (FP.fsub a b) (FP.fsub a b))) := by
  have d := fq_dd ha hb
  have c := fq_w hw
  have m : FQ 167 89 (FP.fmul (FP.i2f w) (FP.fmul (FP.fsub a b) (FP.fsub a b))) := c.1.mul (by decide) (by decide) (by decide) (by omega) (by omega) d.1
  exact ⟨m, pos_mul (c.1.fi (by decide)) (d.1.fi (by decide)) (m.fi (by decide)) c.2 d.2⟩
theorem fq_f2 (h0 : isW w0) (h1 : isW w1) (ha0 : isS a0) (hb0 : isS b0) (ha1 : isS a1) (hb1 : isS b1) : FQ 169 89 (FP.fadd (FP.fmul (FP.i2f w0) (FP.fmul (FP.fsub a0 b0) (FP.fsub a0 b0))) (FP.fmul (FP.i2f w1) (FP.fmul (FP.fsub a1 b1) (FP.fsub a1 b1)))) ∧ posF (FP.fadd (FP.fmul (FP.i2f w0) (FP.fmul (FP.fsub a0 b0) (FP.fsub a0 b0))) (FP.fmul (FP.i2f w1) (FP.fmul (FP.fsub a1 b1) (FP.fsub a1 b1)))) := by
  have m := (fq_wd h0 ha0 hb0).1.add (by decide) (by decide) (fq_wd h1 ha1 hb1).1
  exact ⟨m, pos_add ((fq_wd h0 ha0 hb0).1.fi (by decide)) ((fq_wd h1 ha1 hb1).1.fi (by decide)) (m.fi (by decide)) (fq_wd h0 ha0 hb0).2 (fq_wd h1 ha1 hb1).2⟩
theorem fq_fa (h0 : isW w0) (h1 : isW w1) (h2 : isW w2) (ha0 : isS a0) (hb0 : isS b0) (ha1 : isS a1) (hb1 : isS b1) (ha2 : isS a2) (hb2 : isS b2) : FQ 171 89 (farF w0 w1 w2 a0 b0 a1 b1 a2 b2) ∧ posF (farF w0 w1 w2 a0 b0 a1 b1 a2 b2) := by
  have p := fq_f2 h0 h1 ha0 hb0 ha1 hb1
  have q := fq_wd h2 ha2 hb2
  have m := p.1.add (by decide) (by decide) (q.1.le (by decide))
  exact ⟨m, pos_add (p.1.fi (by decide)) (q.1.fi (by decide)) (m.fi (by decide)) p.2 q.2⟩
theorem fl_far (h0 : isW w0) (h1 : isW w1) (h2 : isW w2) (ha0 : isS a0) (hb0 : isS b0) (ha1 : isS a1) (hb1 : isS b1) (ha2 : isS a2) (hb2 : isS b2) : farN w0 w1 w2 a0 b0 a1 b1 a2 b2 ∧ NF (farF w0 w1 w2 a0 b0 a1 b1 a2 b2) :=
  ⟨⟨(fq_d ha0 hb0).n (by decide), (fq_d ha1 hb1).n (by decide), (fq_d ha2 hb2).n (by decide), (fq_dd ha0 hb0).1.n (by decide), (fq_dd ha1 hb1).1.n (by decide), (fq_dd ha2 hb2).1.n (by decide), (fq_wd h0 ha0 hb0).1.n (by decide), (fq_wd h1 ha1 hb1).1.n (by decide), (fq_f2 h0 h1 ha0 hb0 ha1 hb1).1.n (by decide), (fq_wd h2 ha2 hb2).1.n (by decide), (fq_fa h0 h1 h2 ha0 hb0 ha1 hb1 ha2 hb2).1.n (by decide)⟩, (fq_fa h0 h1 h2 ha0 hb0 ha1 hb1 ha2 hb2).1.nf (by decide) (fq_fa h0 h1 h2 ha0 hb0 ha1 hb1 ha2 hb2).2⟩
end Fa
theorem cmpU_lt {x y : UInt32} : cmpU x y < 0 ↔ x < y := by
  unfold cmpU; split
  · rename_i h; simp [h]
  · rename_i h; split
    · simp [h]
    · simp [h]
theorem cmpU_gt {x y : UInt32} : 0 < cmpU x y ↔ y < x := by
  unfold cmpU; split
  · rename_i h; constructor
    · intro q; exact absurd q (by decide)
    · intro q; exact absurd q (UInt32.not_lt.mpr (UInt32.le_of_lt h))
  · rename_i h; split
    · rename_i e; subst e; simp
    · rename_i e; constructor
      · intro _; exact UInt32.lt_of_le_of_ne (UInt32.not_lt.mp h) (fun q => e q.symm)
      · intro _; decide
theorem cmpU_ge {x y : UInt32} : 0 ≤ cmpU x y ↔ y ≤ x := by
  rw [← Int32.not_lt, cmpU_lt, UInt32.not_lt]
theorem cmpU_le {x y : UInt32} : cmpU x y ≤ 0 ↔ x ≤ y := by
  rw [← Int32.not_lt, cmpU_gt, UInt32.not_lt]
theorem NF_0 : NF FP.fconst0 := by unfold NF; decide
/-- the numbers of a scene are as told: parts, tables, weights, limits -/
def okS (rgb gr ey lm : Nat → Int32) : Prop := (∀ k, k < 60 → isP (rgb k)) ∧ (∀ k, k < 3 → isP (gr k)) ∧ (∀ e k, e < 4 → k < 9 → isT (ey (13 * e + k))) ∧ (∀ e k, e < 4 → k < 3 → isW (ey (13 * e + 9 + k))) ∧ (∀ e, e < 4 → ey (13 * e + 12) = 0 ∨ ey (13 * e + 12) = 1) ∧ ∀ k, k < 3 → isP (lm k)
def lightC (rgb : Nat → Int32) (k : Nat) : UInt32 := lightF (rgb k) (rgb (k + 1)) (rgb (k + 2))
def sawF (ey rgb : Nat → Int32) (e i k : Nat) : UInt32 := seenF (ey (13 * e + 3 * k)) (ey (13 * e + 3 * k + 1)) (ey (13 * e + 3 * k + 2)) (rgb (3 * i)) (rgb (3 * i + 1)) (rgb (3 * i + 2))
def distF (ey rgb : Nat → Int32) (e i j : Nat) : UInt32 := farF (ey (13 * e + 9)) (ey (13 * e + 9 + 1)) (ey (13 * e + 9 + 2)) (sawF ey rgb e i 0) (sawF ey rgb e j 0) (sawF ey rgb e i 1) (sawF ey rgb e j 1) (sawF ey rgb e i 2) (sawF ey rgb e j 2)
def fitC (rgb gr lm : Nat → Int32) (i : Nat) : Bool := fitF (lightC rgb (3 * i)) (lightC gr 0) (lm 0) (lm 1) (lm 2)
section Ok
variable {rgb gr ey lm : Nat → Int32}
theorem ok_light (ok : okS rgb gr ey lm) {k : Nat} (hk : k + 2 < 60) : lightN (rgb k) (rgb (k + 1)) (rgb (k + 2)) ∧ NF (lightC rgb k) := fl_light (ok.1 k (by omega)) (ok.1 _ (by omega)) (ok.1 _ (by omega))
theorem ok_ground (ok : okS rgb gr ey lm) : lightN (gr 0) (gr 1) (gr 2) ∧ NF (lightC gr 0) := fl_light (ok.2.1 0 (by omega)) (ok.2.1 1 (by omega)) (ok.2.1 2 (by omega))
theorem ok_off (ok : okS rgb gr ey lm) {k : Nat} (hk : k + 2 < 60) : vf_n32 (FP.fsub (lightC rgb k) (lightC gr 0)) := fl_off (ok.1 k (by omega)) (ok.1 _ (by omega)) (ok.1 _ (by omega)) (ok.2.1 0 (by omega)) (ok.2.1 1 (by omega)) (ok.2.1 2 (by omega))
theorem ok_seen (ok : okS rgb gr ey lm) {e i k : Nat} (he : e < 4) (hi : i < 20) (hk : k < 3) : seenN (ey (13 * e + 3 * k)) (ey (13 * e + 3 * k + 1)) (ey (13 * e + 3 * k + 2)) (rgb (3 * i)) (rgb (3 * i + 1)) (rgb (3 * i + 2)) :=
  fl_seen (ok.2.2.1 e (3 * k) he (by omega)) (ok.2.2.1 e (3 * k + 1) he (by omega)) (ok.2.2.1 e (3 * k + 2) he (by omega)) (ok.1 _ (by omega)) (ok.1 _ (by omega)) (ok.1 _ (by omega))
theorem ok_saw (ok : okS rgb gr ey lm) {e i k : Nat} (he : e < 4) (hi : i < 20) (hk : k < 3) : isS (sawF ey rgb e i k) :=
  ⟨_, _, _, _, _, _, ok.2.2.1 e (3 * k) he (by omega), ok.2.2.1 e (3 * k + 1) he (by omega), ok.2.2.1 e (3 * k + 2) he (by omega), ok.1 _ (by omega), ok.1 _ (by omega), ok.1 _ (by omega), rfl⟩
theorem ok_far (ok : okS rgb gr ey lm) {e i j : Nat} (he : e < 4) (hi : i < 20) (hj : j < 20) : farN (ey (13 * e + 9)) (ey (13 * e + 9 + 1)) (ey (13 * e + 9 + 2)) (sawF ey rgb e i 0) (sawF ey rgb e j 0) (sawF ey rgb e i 1) (sawF ey rgb e j 1) (sawF ey rgb e i 2) (sawF ey rgb e j 2) ∧ NF (distF ey rgb e i j) :=
  fl_far (ok.2.2.2.1 e 0 he (by omega)) (ok.2.2.2.1 e 1 he (by omega)) (ok.2.2.2.1 e 2 he (by omega)) (ok_saw ok he hi (by omega)) (ok_saw ok he hj (by omega)) (ok_saw ok he hi (by omega)) (ok_saw ok he hj (by omega)) (ok_saw ok he hi (by omega)) (ok_saw ok he hj (by omega))
theorem ok_dist (ok : okS rgb gr ey lm) {e i j : Nat} (he : e < 4) (hi : i < 20) (hj : j < 20) : NF (distF ey rgb e i j) := (ok_far ok he hi hj).2
theorem ok_lim (ok : okS rgb gr ey lm) {k : Nat} (hk : k < 3) : NF (FP.i2f (lm k)) := fl_part (ok.2.2.2.2.2 k hk)
end Ok
section XRowsU
variable {M : xM} {d mc ms pc : Nat} {L : xL} {st : List Value} {h : xH} {Post : Option Value → xH → Prop}
theorem XW.fcmpU (pc' : Nat) {x y : UInt32} {op : CmpOp} (hd : decode M.2.1 pc = .ok (.fcmp op, 1)) (hx : NF x) (hy : NF y) (hp : pc + 1 = pc') (k : XW M d mc ms pc' L (.int (cmpU x y) :: st) h Post) : XW M d mc ms pc L (.float y :: .float x :: st) h Post :=
  XW.fcmp pc' hd hp (by rw [fl_cmp hx hy]; exact k)
theorem XW.if_ltU (t f : Nat) {x y : UInt32} {off : Int} (hd : decode M.2.1 pc = .ok (.ifCond .lt off, 3)) (ht : (pc : Int) + off = (t : Int)) (hp : pc + 3 = f) (kt : x < y → XW M d mc ms t L st h Post) (kf : ¬ x < y → XW M d mc ms f L st h Post) : XW M d mc ms pc L (.int (cmpU x y) :: st) h Post :=
  XW.if_lt t f hd ht hp (fun c => kt (cmpU_lt.mp c)) (fun c => kf (fun q => c (cmpU_lt.mpr q)))
theorem XW.if_geU (t f : Nat) {x y : UInt32} {off : Int} (hd : decode M.2.1 pc = .ok (.ifCond .ge off, 3)) (ht : (pc : Int) + off = (t : Int)) (hp : pc + 3 = f) (kt : ¬ x < y → XW M d mc ms t L st h Post) (kf : x < y → XW M d mc ms f L st h Post) : XW M d mc ms pc L (.int (cmpU x y) :: st) h Post :=
  XW.if_ge t f hd ht hp (fun c => kt (UInt32.not_lt.mpr (cmpU_ge.mp c))) (fun c => kf (UInt32.not_le.mp (fun q => c (cmpU_ge.mpr q))))
theorem XW.if_gtU (t f : Nat) {x y : UInt32} {off : Int} (hd : decode M.2.1 pc = .ok (.ifCond .gt off, 3)) (ht : (pc : Int) + off = (t : Int)) (hp : pc + 3 = f) (kt : y < x → XW M d mc ms t L st h Post) (kf : ¬ y < x → XW M d mc ms f L st h Post) : XW M d mc ms pc L (.int (cmpU x y) :: st) h Post :=
  XW.if_gt t f hd ht hp (fun c => kt (cmpU_gt.mp c)) (fun c => kf (fun q => c (cmpU_gt.mpr q)))
theorem XW.if_leU (t f : Nat) {x y : UInt32} {off : Int} (hd : decode M.2.1 pc = .ok (.ifCond .le off, 3)) (ht : (pc : Int) + off = (t : Int)) (hp : pc + 3 = f) (kt : ¬ y < x → XW M d mc ms t L st h Post) (kf : y < x → XW M d mc ms f L st h Post) : XW M d mc ms pc L (.int (cmpU x y) :: st) h Post :=
  XW.if_le t f hd ht hp (fun c => kt (UInt32.not_lt.mpr (cmpU_le.mp c))) (fun c => kf (UInt32.not_le.mp (fun q => c (cmpU_le.mpr q))))
theorem XW.if_neU (t f : Nat) {x y : UInt32} {off : Int} (hd : decode M.2.1 pc = .ok (.ifCond .ne off, 3)) (ht : (pc : Int) + off = (t : Int)) (hp : pc + 3 = f) (kt : ¬ x = y → XW M d mc ms t L st h Post) (kf : x = y → XW M d mc ms f L st h Post) : XW M d mc ms pc L (.int (cmpU x y) :: st) h Post := by
  have e0 : cmpU x y = 0 ↔ x = y := by
    unfold cmpU
    by_cases e : x = y
    · subst e; simp
    · simp only [e, if_false, iff_false]
      split <;> decide
  exact XW.if_ne t f hd ht hp (fun c => kt (fun q => c (e0.mpr q))) (fun c => kf (e0.mp c))
end XRowsU
