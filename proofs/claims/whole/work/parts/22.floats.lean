/-! Floats: what is used of them -/
/-- a number of sign 0, finite -/
def NF (x : UInt32) : Prop := x.toNat < 0x7f800000
def cmpU (x y : UInt32) : Int32 := if x < y then -1 else if x = y then 0 else 1
theorem fl_cmp {x y : UInt32} (hx : NF x) (hy : NF y) (op : CmpOp) : Op.cmpValue (FP.fcmp x y) op = cmpU x y := sorry
theorem cmpU_lt {x y : UInt32} : cmpU x y < 0 ↔ x < y := by
  unfold cmpU; split
  · rename_i h; simp [h]
  · rename_i h; split
    · simp [h]
    · simp [h]
theorem cmpU_gt {x y : UInt32} : 0 < cmpU x y ↔ y < x := by
  unfold cmpU; split
  · rename_i h; constructor
    · intro q; exact absurd q (by decide)
    · intro q; exact absurd q (UInt32.not_lt.mpr (UInt32.le_of_lt h))
  · rename_i h; split
    · rename_i e; subst e; simp
    · rename_i e; constructor
      · intro _; exact UInt32.lt_of_le_of_ne (UInt32.not_lt.mp h) (fun q => e q.symm)
      · intro _; decide
theorem cmpU_ge {x y : UInt32} : 0 ≤ cmpU x y ↔ y ≤ x := by
  rw [← Int32.not_lt, cmpU_lt, UInt32.not_lt]
theorem cmpU_le {x y : UInt32} : cmpU x y ≤ 0 ↔ x ≤ y := by
  rw [← Int32.not_lt, cmpU_gt, UInt32.not_lt]
theorem NF_0 : NF FP.fconst0 := by unfold NF; decide
def absF (s : UInt32) : UInt32 := if 0 ≤ Op.cmpValue (FP.fcmp s FP.fconst0) .g then s else FP.fneg s
def gapN (s : UInt32) (g : Int32) : Bool := decide (Op.cmpValue (FP.fcmp (absF s) (FP.i2f g)) .l < 0)
/-- whether a COLOUR FITS: its light, the ground's, LOW, HIGH, GAP -/
def fitF (own gl : UInt32) (lo hi gap : Int32) : Bool := !decide (own < FP.i2f lo) && (!decide (FP.i2f hi < own) && !gapN (FP.fsub own gl) gap)
/-- SEEN in a row -/
def seenF (x y z r g b : Int32) : UInt32 := FP.fadd (FP.fadd (FP.fmul (FP.fdiv (FP.i2f x) 1120403456) (FP.i2f r)) (FP.fmul (FP.fdiv (FP.i2f y) 1120403456) (FP.i2f g))) (FP.fmul (FP.fdiv (FP.i2f z) 1120403456) (FP.i2f b))
def seenN (x y z r g b : Int32) : Prop := vf_n32 (FP.fdiv (FP.i2f x) 1120403456) ∧ vf_n32 (FP.fdiv (FP.i2f y) 1120403456) ∧ vf_n32 (FP.fdiv (FP.i2f z) 1120403456) ∧ vf_n32 (FP.fmul (FP.fdiv (FP.i2f x) 1120403456) (FP.i2f r)) ∧ vf_n32 (FP.fmul (FP.fdiv (FP.i2f y) 1120403456) (FP.i2f g)) ∧ vf_n32 (FP.fadd (FP.fmul (FP.fdiv (FP.i2f x) 1120403456) (FP.i2f r)) (FP.fmul (FP.fdiv (FP.i2f y) 1120403456) (FP.i2f g))) ∧ vf_n32 (FP.fmul (FP.fdiv (FP.i2f z) 1120403456) (FP.i2f b)) ∧ vf_n32 (seenF x y z r g b)
/-- a TABLE's number, a WEIGHT, a part of a colour -/
abbrev isT (x : Int32) : Prop := inF x (-300) 300 = true
abbrev isW (x : Int32) : Prop := inF x 0 9 = true
abbrev isP (x : Int32) : Prop := inF x 0 255 = true
theorem fl_part {r : Int32} (h : isP r) : NF (FP.i2f r) := sorry
theorem fl_light {r g b : Int32} (hr : isP r) (hg : isP g) (hb : isP b) : lightN r g b ∧ NF (lightF r g b) := sorry
theorem fl_off {r g b r2 g2 b2 : Int32} (hr : isP r) (hg : isP g) (hb : isP b) (hr2 : isP r2) (hg2 : isP g2) (hb2 : isP b2) : vf_n32 (FP.fsub (lightF r g b) (lightF r2 g2 b2)) := sorry
theorem fl_seen {x y z r g b : Int32} (hx : isT x) (hy : isT y) (hz : isT z) (hr : isP r) (hg : isP g) (hb : isP b) : seenN x y z r g b := sorry
/-- a thing SEEN: a float that comes of numbers as told -/
def isS (s : UInt32) : Prop := ∃ x y z r g b : Int32, isT x ∧ isT y ∧ isT z ∧ isP r ∧ isP g ∧ isP b ∧ s = seenF x y z r g b
/-- DISTANCE out of what is SEEN -/
def farF (w0 w1 w2 : Int32) (a0 b0 a1 b1 a2 b2 : UInt32) : UInt32 := FP.fadd (FP.fadd (FP.fmul (FP.i2f w0) (FP.fmul (FP.fsub a0 b0) (FP.fsub a0 b0))) (FP.fmul (FP.i2f w1) (FP.fmul (FP.fsub a1 b1) (FP.fsub a1 b1)))) (FP.fmul (FP.i2f w2) (FP.fmul (FP.fsub a2 b2) (FP.fsub a2 b2)))
def farN (w0 w1 w2 : Int32) (a0 b0 a1 b1 a2 b2 : UInt32) : Prop := vf_n32 (FP.fsub a0 b0) ∧ vf_n32 (FP.fsub a1 b1) ∧ vf_n32 (FP.fsub a2 b2) ∧ vf_n32 (FP.fmul (FP.fsub a0 b0) (FP.fsub a0 b0)) ∧ vf_n32 (FP.fmul (FP.fsub a1 b1) (FP.fsub a1 b1)) ∧ vf_n32 (FP.fmul (FP.fsub a2 b2) (FP.fsub a2 b2)) ∧ vf_n32 (FP.fmul (FP.i2f w0) (FP.fmul (FP.fsub a0 b0) (FP.fsub a0 b0))) ∧ vf_n32 (FP.fmul (FP.i2f w1) (FP.fmul (FP.fsub a1 b1) (FP.fsub a1 b1))) ∧ vf_n32 (FP.fadd (FP.fmul (FP.i2f w0) (FP.fmul (FP.fsub a0 b0) (FP.fsub a0 b0))) (FP.fmul (FP.i2f w1) (FP.fmul (FP.fsub a1 b1) (FP.fsub a1 b1)))) ∧ vf_n32 (FP.fmul (FP.i2f w2) (FP.fmul (FP.fsub a2 b2) (FP.fsub a2 b2))) ∧ vf_n32 (farF w0 w1 w2 a0 b0 a1 b1 a2 b2)
theorem fl_far {w0 w1 w2 : Int32} {a0 b0 a1 b1 a2 b2 : UInt32} (h0 : isW w0) (h1 : isW w1) (h2 : isW w2) (ha0 : isS a0) (hb0 : isS b0) (ha1 : isS a1) (hb1 : isS b1) (ha2 : isS a2) (hb2 : isS b2) : farN w0 w1 w2 a0 b0 a1 b1 a2 b2 ∧ NF (farF w0 w1 w2 a0 b0 a1 b1 a2 b2) := sorry
/-- the numbers of a scene are as told: parts, tables, weights, limits -/
def okS (rgb gr ey lm : Nat → Int32) : Prop := (∀ k, k < 60 → isP (rgb k)) ∧ (∀ k, k < 3 → isP (gr k)) ∧ (∀ e k, e < 4 → k < 9 → isT (ey (13 * e + k))) ∧ (∀ e k, e < 4 → k < 3 → isW (ey (13 * e + 9 + k))) ∧ (∀ e, e < 4 → ey (13 * e + 12) = 0 ∨ ey (13 * e + 12) = 1) ∧ ∀ k, k < 3 → isP (lm k)
def lightC (rgb : Nat → Int32) (k : Nat) : UInt32 := lightF (rgb k) (rgb (k + 1)) (rgb (k + 2))
def sawF (ey rgb : Nat → Int32) (e i k : Nat) : UInt32 := seenF (ey (13 * e + 3 * k)) (ey (13 * e + 3 * k + 1)) (ey (13 * e + 3 * k + 2)) (rgb (3 * i)) (rgb (3 * i + 1)) (rgb (3 * i + 2))
def distF (ey rgb : Nat → Int32) (e i j : Nat) : UInt32 := farF (ey (13 * e + 9)) (ey (13 * e + 9 + 1)) (ey (13 * e + 9 + 2)) (sawF ey rgb e i 0) (sawF ey rgb e j 0) (sawF ey rgb e i 1) (sawF ey rgb e j 1) (sawF ey rgb e i 2) (sawF ey rgb e j 2)
def fitC (rgb gr lm : Nat → Int32) (i : Nat) : Bool := fitF (lightC rgb (3 * i)) (lightC gr 0) (lm 0) (lm 1) (lm 2)
section Ok
variable {rgb gr ey lm : Nat → Int32}
theorem ok_light (ok : okS rgb gr ey lm) {k : Nat} (hk : k + 2 < 60) : lightN (rgb k) (rgb (k + 1)) (rgb (k + 2)) ∧ NF (lightC rgb k) := fl_light (ok.1 k (by omega)) (ok.1 _ (by omega)) (ok.1 _ (by omega))
theorem ok_ground (ok : okS rgb gr ey lm) : lightN (gr 0) (gr 1) (gr 2) ∧ NF (lightC gr 0) := fl_light (ok.2.1 0 (by omega)) (ok.2.1 1 (by omega)) (ok.2.1 2 (by omega))
theorem ok_off (ok : okS rgb gr ey lm) {k : Nat} (hk : k + 2 < 60) : vf_n32 (FP.fsub (lightC rgb k) (lightC gr 0)) := fl_off (ok.1 k (by omega)) (ok.1 _ (by omega)) (ok.1 _ (by omega)) (ok.2.1 0 (by omega)) (ok.2.1 1 (by omega)) (ok.2.1 2 (by omega))
theorem ok_seen (ok : okS rgb gr ey lm) {e i k : Nat} (he : e < 4) (hi : i < 20) (hk : k < 3) : seenN (ey (13 * e + 3 * k)) (ey (13 * e + 3 * k + 1)) (ey (13 * e + 3 * k + 2)) (rgb (3 * i)) (rgb (3 * i + 1)) (rgb (3 * i + 2)) :=
  fl_seen (ok.2.2.1 e (3 * k) he (by omega)) (ok.2.2.1 e (3 * k + 1) he (by omega)) (ok.2.2.1 e (3 * k + 2) he (by omega)) (ok.1 _ (by omega)) (ok.1 _ (by omega)) (ok.1 _ (by omega))
theorem ok_saw (ok : okS rgb gr ey lm) {e i k : Nat} (he : e < 4) (hi : i < 20) (hk : k < 3) : isS (sawF ey rgb e i k) :=
  ⟨_, _, _, _, _, _, ok.2.2.1 e (3 * k) he (by omega), ok.2.2.1 e (3 * k + 1) he (by omega), ok.2.2.1 e (3 * k + 2) he (by omega), ok.1 _ (by omega), ok.1 _ (by omega), ok.1 _ (by omega), rfl⟩
theorem ok_far (ok : okS rgb gr ey lm) {e i j : Nat} (he : e < 4) (hi : i < 20) (hj : j < 20) : farN (ey (13 * e + 9)) (ey (13 * e + 9 + 1)) (ey (13 * e + 9 + 2)) (sawF ey rgb e i 0) (sawF ey rgb e j 0) (sawF ey rgb e i 1) (sawF ey rgb e j 1) (sawF ey rgb e i 2) (sawF ey rgb e j 2) ∧ NF (distF ey rgb e i j) :=
  fl_far (ok.2.2.2.1 e 0 he (by omega)) (ok.2.2.2.1 e 1 he (by omega)) (ok.2.2.2.1 e 2 he (by omega)) (ok_saw ok he hi (by omega)) (ok_saw ok he hj (by omega)) (ok_saw ok he hi (by omega)) (ok_saw ok he hj (by omega)) (ok_saw ok he hi (by omega)) (ok_saw ok he hj (by omega))
theorem ok_dist (ok : okS rgb gr ey lm) {e i j : Nat} (he : e < 4) (hi : i < 20) (hj : j < 20) : NF (distF ey rgb e i j) := (ok_far ok he hi hj).2
theorem ok_lim (ok : okS rgb gr ey lm) {k : Nat} (hk : k < 3) : NF (FP.i2f (lm k)) := fl_part (ok.2.2.2.2.2 k hk)
end Ok
section XRowsU
variable {M : xM} {d mc ms pc : Nat} {L : xL} {st : List Value} {h : xH} {Post : Option Value → xH → Prop}
theorem XW.fcmpU (pc' : Nat) {x y : UInt32} {op : CmpOp} (hd : decode M.2.1 pc = .ok (.fcmp op, 1)) (hx : NF x) (hy : NF y) (hp : pc + 1 = pc') (k : XW M d mc ms pc' L (.int (cmpU x y) :: st) h Post) : XW M d mc ms pc L (.float y :: .float x :: st) h Post :=
  XW.fcmp pc' hd hp (by rw [fl_cmp hx hy]; exact k)
theorem XW.if_ltU (t f : Nat) {x y : UInt32} {off : Int} (hd : decode M.2.1 pc = .ok (.ifCond .lt off, 3)) (ht : (pc : Int) + off = (t : Int)) (hp : pc + 3 = f) (kt : x < y → XW M d mc ms t L st h Post) (kf : ¬ x < y → XW M d mc ms f L st h Post) : XW M d mc ms pc L (.int (cmpU x y) :: st) h Post :=
  XW.if_lt t f hd ht hp (fun c => kt (cmpU_lt.mp c)) (fun c => kf (fun q => c (cmpU_lt.mpr q)))
theorem XW.if_geU (t f : Nat) {x y : UInt32} {off : Int} (hd : decode M.2.1 pc = .ok (.ifCond .ge off, 3)) (ht : (pc : Int) + off = (t : Int)) (hp : pc + 3 = f) (kt : ¬ x < y → XW M d mc ms t L st h Post) (kf : x < y → XW M d mc ms f L st h Post) : XW M d mc ms pc L (.int (cmpU x y) :: st) h Post :=
  XW.if_ge t f hd ht hp (fun c => kt (UInt32.not_lt.mpr (cmpU_ge.mp c))) (fun c => kf (UInt32.not_le.mp (fun q => c (cmpU_ge.mpr q))))
theorem XW.if_gtU (t f : Nat) {x y : UInt32} {off : Int} (hd : decode M.2.1 pc = .ok (.ifCond .gt off, 3)) (ht : (pc : Int) + off = (t : Int)) (hp : pc + 3 = f) (kt : y < x → XW M d mc ms t L st h Post) (kf : ¬ y < x → XW M d mc ms f L st h Post) : XW M d mc ms pc L (.int (cmpU x y) :: st) h Post :=
  XW.if_gt t f hd ht hp (fun c => kt (cmpU_gt.mp c)) (fun c => kf (fun q => c (cmpU_gt.mpr q)))
theorem XW.if_leU (t f : Nat) {x y : UInt32} {off : Int} (hd : decode M.2.1 pc = .ok (.ifCond .le off, 3)) (ht : (pc : Int) + off = (t : Int)) (hp : pc + 3 = f) (kt : ¬ y < x → XW M d mc ms t L st h Post) (kf : y < x → XW M d mc ms f L st h Post) : XW M d mc ms pc L (.int (cmpU x y) :: st) h Post :=
  XW.if_le t f hd ht hp (fun c => kt (UInt32.not_lt.mpr (cmpU_le.mp c))) (fun c => kf (UInt32.not_le.mp (fun q => c (cmpU_le.mpr q))))
theorem XW.if_neU (t f : Nat) {x y : UInt32} {off : Int} (hd : decode M.2.1 pc = .ok (.ifCond .ne off, 3)) (ht : (pc : Int) + off = (t : Int)) (hp : pc + 3 = f) (kt : ¬ x = y → XW M d mc ms t L st h Post) (kf : x = y → XW M d mc ms f L st h Post) : XW M d mc ms pc L (.int (cmpU x y) :: st) h Post := by
  have e0 : cmpU x y = 0 ↔ x = y := by
    unfold cmpU
    by_cases e : x = y
    · subst e; simp
    · simp only [e, if_false, iff_false]
      split <;> decide
  exact XW.if_ne t f hd ht hp (fun c => kt (fun q => c (e0.mpr q))) (fun c => kf (e0.mp c))
end XRowsU
theorem fl_small {v : Int32} (h : inF v 0 9999 = true) : NF (FP.i2f v) := sorry
