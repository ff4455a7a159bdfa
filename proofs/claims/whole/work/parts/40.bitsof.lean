/-! A float as its bits: the two methods -/
/-- a float that the two methods give the bits of alike: +0, or one whose exponent is neither small nor great -/
def okB (x : UInt32) : Prop := x = 0 ∨ ∃ s E m : Nat, s < 2 ∧ 64 ≤ E ∧ E ≤ 190 ∧ m < 8388608 ∧ x = UInt32.ofNat (s * 2147483648 + E * 8388608 + m)
theorem c_bitsOf (x : UInt32) (h : xH) (hx : okB x) : XC mX3_bitsOf 0 0 0 [.float x] h (fun r h' => r = some (.int x.toInt32) ∧ h' = h) := sorry
theorem k_bitsOf (x : UInt32) (h : xH) (hx : okB x ∨ x = 2147483648) : XC mX4_bitsOf 0 0 0 [.float x] h (fun r h' => r = some (.int x.toInt32) ∧ h' = h) := sorry
theorem ob_light {r g b : Int32} (hr : isP r) (hg : isP g) (hb : isP b) : okB (lightF r g b) := sorry
theorem ob_seen {x y z r g b : Int32} (hx : isT x) (hy : isT y) (hz : isT z) (hr : isP r) (hg : isP g) (hb : isP b) : (mzF x y z r g b = false → okB (seenF x y z r g b)) ∧ (mzF x y z r g b = true → seenF x y z r g b = 2147483648) := sorry
theorem ob_far {w0 w1 w2 : Int32} {a0 b0 a1 b1 a2 b2 : UInt32} (h0 : isW w0) (h1 : isW w1) (h2 : isW w2) (ha0 : isS a0) (hb0 : isS b0) (ha1 : isS a1) (hb1 : isS b1) (ha2 : isS a2) (hb2 : isS b2) : okB (farF w0 w1 w2 a0 b0 a1 b1 a2 b2) := sorry
section OkB
variable {rgb gr ey lm : Nat → Int32}
theorem okB_0 : okB FP.fconst0 := Or.inl rfl
theorem okB_light (ok : okS rgb gr ey lm) {k : Nat} (hk : k + 2 < 60) : okB (lightC rgb k) := ob_light (ok.1 k (by omega)) (ok.1 _ (by omega)) (ok.1 _ (by omega))
theorem okB_saw (ok : okS rgb gr ey lm) {e i k : Nat} (he : e < 4) (hi : i < 20) (hk : k < 3) : (mzF (ey (13 * e + 3 * k)) (ey (13 * e + 3 * k + 1)) (ey (13 * e + 3 * k + 2)) (rgb (3 * i)) (rgb (3 * i + 1)) (rgb (3 * i + 2)) = false → okB (sawF ey rgb e i k)) ∧ (mzF (ey (13 * e + 3 * k)) (ey (13 * e + 3 * k + 1)) (ey (13 * e + 3 * k + 2)) (rgb (3 * i)) (rgb (3 * i + 1)) (rgb (3 * i + 2)) = true → sawF ey rgb e i k = 2147483648) :=
  ob_seen (ok.2.2.1 e (3 * k) he (by omega)) (ok.2.2.1 e (3 * k + 1) he (by omega)) (ok.2.2.1 e (3 * k + 2) he (by omega)) (ok.1 _ (by omega)) (ok.1 _ (by omega)) (ok.1 _ (by omega))
theorem okB_dist (ok : okS rgb gr ey lm) {e i j : Nat} (he : e < 4) (hi : i < 20) (hj : j < 20) : okB (distF ey rgb e i j) :=
  ob_far (ok.2.2.2.1 e 0 he (by omega)) (ok.2.2.2.1 e 1 he (by omega)) (ok.2.2.2.1 e 2 he (by omega)) (ok_saw ok he hi (by omega)) (ok_saw ok he hj (by omega)) (ok_saw ok he hi (by omega)) (ok_saw ok he hj (by omega)) (ok_saw ok he hi (by omega)) (ok_saw ok he hj (by omega))
theorem okB_apS (ok : okS rgb gr ey lm) {i j : Nat} (hi : i < 20) (hj : j < 20) : ∀ e, e ≤ 4 → okB (apS ey rgb i j e).1
  | 0, _ => okB_0
  | e + 1, h => by
    have ih := okB_apS ok hi hj e (by omega)
    by_cases q : ey (13 * e + 12) = 1
    · rw [apS_y q]; dsimp only; split
      · exact ih
      · exact okB_dist ok (by omega) hi hj
    · rw [apS_n q]; exact ih
theorem okB_apG (ok : okS rgb gr ey lm) {i j : Nat} (hi : i < 20) (hj : j < 20) : okB (apG ey rgb i j) := by
  unfold apG; split
  · exact okB_apS ok hi hj 4 (by omega)
  · exact okB_apS ok hj hi 4 (by omega)
theorem okB_ls (ok : okS rgb gr ey lm) {f : Nat → Int32} {l c : Nat} (hf : rowOK f l c) (c20 : c ≤ 20) : okB (lsV (apG ey rgb) (rv f) l) := by
  have s := lsV_spec (apG ey rgb) (rv f) l
  by_cases h : l < 2
  · rw [s.1 h]; exact okB_0
  · obtain ⟨⟨a, b, h1, h2, h3⟩, -⟩ := s.2 (by omega)
    rw [h3]
    exact okB_apG ok (by have := (hf a (by omega)).2; omega) (by have := (hf b h2).2; omega)
end OkB
