/-! Floats: multiples of a power of two -/
/-- a multiple of 2^k, in units of the least float -/
def dyF (k : Nat) (x : UInt32) : Prop := 2 ^ k ∣ FP.Core.zmag FP.Core.b32 (FP.Core.val32 x)
theorem dy_bound {k : Nat} (hk : k ≤ 277) (s : Bool) (c : Nat) (q : Int) (h : 2 ^ k ∣ FP.Core.inUnits c q (-149)) : 2 ^ k ∣ FP.Core.zmag FP.Core.b32 (FP.Core.bound FP.Core.b32 s c q) := by
  unfold FP.Core.bound
  split
  · show 2 ^ k ∣ FP.Core.inUnits c q FP.Core.b32.qmin
    rw [FP.Core.qmin_b32]; exact h
  · show 2 ^ k ∣ FP.Core.b32.tails * 2 ^ (FP.Core.b32.exps - 2)
    rw [show FP.Core.b32.tails * 2 ^ (FP.Core.b32.exps - 2) = 2 ^ 277 by decide +kernel]
    exact Nat.pow_dvd_pow 2 hk
theorem dy_units {k : Nat} (c : Nat) {q : Int} (h : (k : Int) - 149 ≤ q) : 2 ^ k ∣ FP.Core.inUnits c q (-149) := by
  unfold FP.Core.inUnits
  exact Nat.dvd_trans (Nat.pow_dvd_pow 2 (by omega)) (Nat.dvd_mul_left _ _)
theorem dy_round {k : Nat} (hk : k ≤ 277) (s : Bool) (n : Nat) : 2 ^ k ∣ FP.Core.zmag FP.Core.b32 (FP.Core.roundRatio FP.Core.b32 s n 1 ((k : Int) - 149)) := by
  unfold FP.Core.roundRatio
  split
  · show 2 ^ k ∣ FP.Core.inUnits 0 _ _
    unfold FP.Core.inUnits
    rw [Nat.zero_mul]
    exact ⟨0, rfl⟩
  · rename_i h0
    have hn : 0 < n := by omega
    have hq1 : (-149 : Int) ≤ FP.Core.quantum FP.Core.b32 n 1 ((k : Int) - 149) := by rw [← FP.Core.qmin_b32]; exact FP.Core.quantum_ge FP.Core.b32 n 1 _
    have hle := FP.Core.nearest_units_le (f := FP.Core.b32) hn (by decide : 0 < 1) ((k : Int) - 149)
    unfold FP.Core.roundAt
    generalize FP.Core.quantum FP.Core.b32 n 1 ((k : Int) - 149) = Q at hq1 hle ⊢
    by_cases hQ : (k : Int) - 149 ≤ Q
    · unfold FP.Core.settle
      split
      · exact dy_bound hk _ _ _ (dy_units _ hQ)
      · exact dy_bound hk _ _ _ (dy_units _ (by omega))
    · have e1 : FP.Core.nearest (FP.Core.unitsNum n ((k : Int) - 149) Q) (FP.Core.unitsDen 1 ((k : Int) - 149) Q) = n * 2 ^ ((k : Int) - 149 - Q).toNat := by
        unfold FP.Core.unitsNum FP.Core.unitsDen
        rw [show (Q - ((k : Int) - 149)).toNat = 0 by omega, Nat.pow_zero]
        have := FP.Core.nearest_exact (B := 1) (n * 2 ^ ((k : Int) - 149 - Q).toNat) (by decide)
        rw [Nat.mul_one] at this
        exact this
      rw [e1] at hle ⊢
      have e2 : n * 2 ^ ((k : Int) - 149 - Q).toNat * 2 ^ (Q - -149).toNat = n * 2 ^ k := by
        rw [Nat.mul_assoc, ← Nat.pow_add, show ((k : Int) - 149 - Q).toNat + (Q - -149).toNat = k by omega]
      unfold FP.Core.settle
      split
      · refine dy_bound hk _ _ _ ?_
        unfold FP.Core.inUnits
        rw [e2]; exact Nat.dvd_mul_left _ _
      · rename_i hc
        refine dy_bound hk _ _ _ ?_
        have e3 : n * 2 ^ ((k : Int) - 149 - Q).toNat = 2 ^ 24 := by
          have hp : FP.Core.b32.p = 24 := rfl
          rw [hp] at hc hle; omega
        unfold FP.Core.inUnits
        rw [show (Q + 1 - -149).toNat = (Q - -149).toNat + 1 by omega, FP.Core.tails_b32]
        have e4 : 2 ^ 23 * 2 ^ ((Q - -149).toNat + 1) = 2 ^ 24 * 2 ^ (Q - -149).toNat := by
          rw [Nat.pow_succ 2 (Q - -149).toNat]; omega
        rw [e4, ← e3, e2]
        exact Nat.dvd_mul_left _ _
theorem dy_roundV {k : Nat} (hk : k ≤ 277) (s : Bool) {A : Nat} {e e0 : Int} (h0 : e0 ≤ e) (h1 : e0 ≤ (k : Int) - 149) (h : 2 ^ ((k : Int) - 149 - e0).toNat ∣ FP.Core.inUnits A e e0) : 2 ^ k ∣ FP.Core.zmag FP.Core.b32 (FP.Core.round FP.Core.b32 (.fin s A e)) := by
  obtain ⟨n, hn⟩ := h
  show 2 ^ k ∣ FP.Core.zmag FP.Core.b32 (FP.Core.roundRatio FP.Core.b32 s A 1 e)
  have key : FP.Core.roundRatio FP.Core.b32 s A 1 e = FP.Core.roundRatio FP.Core.b32 s n 1 ((k : Int) - 149) := by
    refine FP.Core.roundRatio_congr (by decide) (by decide) ?_
    unfold FP.Core.inUnits at hn
    rw [Nat.mul_one, Nat.mul_one]
    refine Nat.eq_of_mul_eq_mul_right (Nat.two_pow_pos (min e ((k : Int) - 149) - e0).toNat) ?_
    rw [Nat.mul_assoc, ← Nat.pow_add, show (e - ((k : Int) - 149)).toNat + (min e ((k : Int) - 149) - e0).toNat = (e - e0).toNat by omega, Nat.mul_assoc, ← Nat.pow_add, show ((k : Int) - 149 - e).toNat + (min e ((k : Int) - 149) - e0).toNat = ((k : Int) - 149 - e0).toNat by omega, hn, Nat.mul_comm]
  rw [key]
  exact dy_round hk s n
theorem dy_signed {m Z : Nat} (s : Bool) (h : m ∣ Z) : (m : Int) ∣ FP.Core.signed s Z := by
  have h2 : (m : Int) ∣ (Z : Int) := Int.natCast_dvd_natCast.mpr h
  cases s with
  | false => exact h2
  | true => exact Int.dvd_neg.mpr h2
theorem dy_unsign {m Z : Nat} {s : Bool} (h : (m : Int) ∣ FP.Core.signed s Z) : m ∣ Z := by
  have := Int.ofNat_dvd_left.mp h
  rwa [FP.Core.natAbs_signed] at this
/-- of finite numbers: what an encoding of 31 bits below the infinity stands for -/
abbrev fiF (x : UInt32) : Prop := x.toNat % 2 ^ 31 < 2139095040
theorem fi_at {x : UInt32} (h : fiF x) : ∃ s c q, FP.Core.val32 x = .fin s c q ∧ FP.Core.fits FP.Core.b32 (.fin s c q) := by
  obtain ⟨s, c, q, e⟩ := (FP.Core.fin_bits32 x).mpr h
  exact ⟨s, c, q, e, e ▸ FP.Core.val32_fits x⟩
theorem fi_nn {x : UInt32} (h : fiF x) : FP.Core.val32 x ≠ .nan := (FP.Core.ne_nan32 x).mpr (Nat.le_of_lt h)
theorem fi_sg {x : UInt32} {s : Bool} {c : Nat} {q : Int} (e : FP.Core.val32 x = .fin s c q) : s = decide (2 ^ 31 ≤ x.toNat) := by
  have := FP.Core.sgn_bits32 (a := x) (by rw [e]; exact FP.Core.Datum.noConfusion)
  rw [e] at this
  exact this
theorem dy_sum {k : Nat} (hk : k ≤ 277) {s t : Bool} {c d : Nat} {q r : Int} (hx : FP.Core.fits FP.Core.b32 (.fin s c q)) (hy : FP.Core.fits FP.Core.b32 (.fin t d r)) (h1 : 2 ^ k ∣ FP.Core.zmag FP.Core.b32 (.fin s c q)) (h2 : 2 ^ k ∣ FP.Core.zmag FP.Core.b32 (.fin t d r)) : 2 ^ k ∣ FP.Core.zmag FP.Core.b32 (FP.Core.round FP.Core.b32 (FP.Core.exactSum (.fin s c q) (.fin t d r))) := by
  obtain ⟨sg, n, e, e1, e2, e3⟩ := FP.Core.sum_units hx hy
  rw [e1]
  rw [FP.Core.qmin_b32] at e2 e3
  refine dy_roundV hk sg e2 (by omega) ?_
  rw [show ((k : Int) - 149 - -149).toNat = k by omega]
  refine dy_unsign (s := sg) ?_
  rw [e3]
  exact Int.dvd_add (dy_signed _ h1) (dy_signed _ h2)
theorem dy_fadd {k : Nat} {a b : UInt32} (hk : k ≤ 277) (fa : fiF a) (fb : fiF b) (h1 : dyF k a) (h2 : dyF k b) : dyF k (FP.fadd a b) := by
  obtain ⟨s, c, q, ea, fa2⟩ := fi_at fa
  obtain ⟨t, d, r, eb, fb2⟩ := fi_at fb
  unfold dyF at h1 h2 ⊢
  rw [ea] at h1; rw [eb] at h2
  show 2 ^ k ∣ FP.Core.zmag FP.Core.b32 (FP.Core.val32 (FP.Core.fadd a b))
  rw [FP.Core.val32_fadd, ea, eb]
  exact dy_sum hk fa2 fb2 h1 h2
theorem dy_fsub {k : Nat} {a b : UInt32} (hk : k ≤ 277) (fa : fiF a) (fb : fiF b) (h1 : dyF k a) (h2 : dyF k b) : dyF k (FP.fsub a b) := by
  obtain ⟨s, c, q, ea, fa2⟩ := fi_at fa
  obtain ⟨t, d, r, eb, fb2⟩ := fi_at fb
  unfold dyF at h1 h2 ⊢
  rw [ea] at h1; rw [eb] at h2
  show 2 ^ k ∣ FP.Core.zmag FP.Core.b32 (FP.Core.val32 (FP.Core.fsub a b))
  rw [FP.Core.val32_fsub, ea, eb]
  exact dy_sum (t := !t) hk fa2 fb2 h1 h2
theorem dy_fmul {k ka kb : Nat} {a b : UInt32} (hk : k ≤ 277) (hs : ka + kb = k + 149) (fa : fiF a) (fb : fiF b) (h1 : dyF ka a) (h2 : dyF kb b) : dyF k (FP.fmul a b) := by
  obtain ⟨s, c, q, ea, fa2⟩ := fi_at fa
  obtain ⟨t, d, r, eb, fb2⟩ := fi_at fb
  unfold dyF at h1 h2 ⊢
  rw [ea] at h1; rw [eb] at h2
  show 2 ^ k ∣ FP.Core.zmag FP.Core.b32 (FP.Core.val32 (FP.Core.fmul a b))
  rw [FP.Core.val32_fmul, ea, eb]
  obtain ⟨e1, e2, e3⟩ := FP.Core.product_units fa2 fb2
  rw [e1]
  rw [FP.Core.qmin_b32] at e2 e3
  refine dy_roundV hk _ (e0 := 2 * -149) e2 (by omega) ?_
  rw [show ((k : Int) - 149 - 2 * -149).toNat = ka + kb by omega, e3, Nat.pow_add]
  exact Nat.mul_dvd_mul h1 h2
/-- a multiple that isn't zero isn't small -/
theorem dy_mag {k : Nat} {x : UInt32} (hk : 23 ≤ k) (fx : fiF x) (h : dyF k x) (nz : ¬ x.toNat % 2 ^ 31 = 0) : (k - 22) * 2 ^ 23 ≤ x.toNat % 2 ^ 31 := by
  unfold dyF at h
  rw [FP.Core.zmag_toNat32 (fi_nn fx)] at h
  refine Nat.le_of_not_lt fun hl => ?_
  have h1 := (FP.Core.units_lt_start (f := FP.Core.b32) (m := x.toNat % 2 ^ 31) (K := k - 22) (by rw [FP.Core.tails_b32]; exact hl)).2
  rw [FP.Core.tails_b32, ← Nat.pow_add, show 23 + (k - 22 - 1) = k by omega] at h1
  have h2 := Nat.le_of_dvd (Nat.pos_of_ne_zero fun e => nz (FP.Core.unitsOf_eq_zero.mp e)) h
  omega
/-- below so many powers, a multiple -/
def FQ (K k : Nat) (x : UInt32) : Prop := x.toNat % 2 ^ 31 < K * 2 ^ 23 ∧ dyF k x
theorem FQ.fi {K k : Nat} {x : UInt32} (h : FQ K k x) (hK : K ≤ 254) : fiF x := by have := h.1; show x.toNat % 2 ^ 31 < 2139095040; omega
theorem FQ.add {K k : Nat} {a b : UInt32} (hK : K ≤ 250) (hk : k ≤ 277) (h1 : FQ K k a) (h2 : FQ K k b) : FQ (K + 2) k (FP.fadd a b) :=
  ⟨FP.Core.fadd_mag h1.1 h2.1 (by omega), dy_fadd hk (h1.fi (by omega)) (h2.fi (by omega)) h1.2 h2.2⟩
theorem FQ.sub {K k : Nat} {a b : UInt32} (hK : K ≤ 250) (hk : k ≤ 277) (h1 : FQ K k a) (h2 : FQ K k b) : FQ (K + 2) k (FP.fsub a b) :=
  ⟨FP.Core.fsub_mag h1.1 h2.1 (by omega), dy_fsub hk (h1.fi (by omega)) (h2.fi (by omega)) h1.2 h2.2⟩
theorem FQ.mul {K L N k ka kb : Nat} {a b : UInt32} (hK : K ≤ 250) (hL : L ≤ 250) (hk : k ≤ 277) (hs : ka + kb = k + 149) (hN : K + L - 129 + 3 = N) (h1 : FQ K ka a) (h2 : FQ L kb b) : FQ N k (FP.fmul a b) :=
  ⟨hN ▸ FP.Core.fmul_mag h1.1 h2.1 (by omega) (by omega), dy_fmul hk hs (h1.fi (by omega)) (h2.fi (by omega)) h1.2 h2.2⟩
theorem FQ.le {K L k : Nat} {x : UInt32} (h : FQ K k x) (hl : K ≤ L) : FQ L k x := ⟨Nat.lt_of_lt_of_le h.1 (Nat.mul_le_mul_right _ hl), h.2⟩
theorem FQ.dv {K k j : Nat} {x : UInt32} (h : FQ K k x) (hl : j ≤ k) : FQ K j x := ⟨h.1, Nat.dvd_trans (Nat.pow_dvd_pow 2 hl) h.2⟩
theorem FQ.n {K k : Nat} {x : UInt32} (h : FQ K k x) (hK : K ≤ 254) : vf_n32 x := by
  have h1 := h.fi hK
  show x &&& 0x7fffffff ≤ 0x7f800000
  rw [UInt32.le_iff_toNat_le, FP.Core.mask_toNat32]
  have h1 : x.toNat % 2 ^ 31 < 2139095040 := h1
  show x.toNat % 2 ^ 31 ≤ 2139095040
  omega
/-- sign 0 -/
abbrev posF (x : UInt32) : Prop := x.toNat < 2 ^ 31
theorem pos_sg {x : UInt32} {s : Bool} {c : Nat} {q : Int} (e : FP.Core.val32 x = .fin s c q) (h : posF x) : s = false := by
  rw [fi_sg e]; exact decide_eq_false (by have : x.toNat < 2 ^ 31 := h; omega)
theorem pos_of {x : UInt32} {s : Bool} {A B : Nat} {e : Int} (fx : fiF x) (h : FP.Core.val32 x = FP.Core.roundRatio FP.Core.b32 s A B e) : posF x ↔ s = false := by
  have h1 := FP.Core.sgn_bits32 (fi_nn fx)
  rw [h, FP.Core.sgn_roundRatio] at h1
  constructor
  · intro p; rw [h1]; exact decide_eq_false (by have : x.toNat < 2 ^ 31 := p; omega)
  · intro p
    rw [p] at h1
    have := of_decide_eq_false h1.symm
    show x.toNat < 2 ^ 31
    omega
theorem mul_sg {a b : UInt32} {s t : Bool} {c d : Nat} {q r : Int} (ea : FP.Core.val32 a = .fin s c q) (eb : FP.Core.val32 b = .fin t d r) : FP.Core.val32 (FP.fmul a b) = FP.Core.roundRatio FP.Core.b32 (s != t) (c * d) 1 (q + r) := by
  show FP.Core.val32 (FP.Core.fmul a b) = _
  rw [FP.Core.val32_fmul, ea, eb]; rfl
theorem pos_mul {a b : UInt32} (fa : fiF a) (fb : fiF b) (fr : fiF (FP.fmul a b)) (h1 : posF a) (h2 : posF b) : posF (FP.fmul a b) := by
  obtain ⟨s, c, q, ea, -⟩ := fi_at fa
  obtain ⟨t, d, r, eb, -⟩ := fi_at fb
  refine (pos_of fr (mul_sg ea eb)).mpr ?_
  rw [pos_sg ea h1, pos_sg eb h2]; rfl
theorem pos_sq {a : UInt32} (fa : fiF a) (fr : fiF (FP.fmul a a)) : posF (FP.fmul a a) := by
  obtain ⟨s, c, q, ea, -⟩ := fi_at fa
  refine (pos_of fr (mul_sg ea ea)).mpr ?_
  cases s <;> rfl
theorem pos_add {a b : UInt32} (fa : fiF a) (fb : fiF b) (fr : fiF (FP.fadd a b)) (h1 : posF a) (h2 : posF b) : posF (FP.fadd a b) := by
  obtain ⟨s, c, q, ea, -⟩ := fi_at fa
  obtain ⟨t, d, r, eb, -⟩ := fi_at fb
  have e : FP.Core.val32 (FP.fadd a b) = FP.Core.round FP.Core.b32 (FP.Core.exactSum (.fin s c q) (.fin t d r)) := by
    show FP.Core.val32 (FP.Core.fadd a b) = _
    rw [FP.Core.val32_fadd, ea, eb]
  refine (pos_of fr e).mpr ?_
  rw [pos_sg ea h1, pos_sg eb h2]
  show FP.Core.sumSign false false _ = false
  unfold FP.Core.sumSign
  split
  · rfl
  · refine decide_eq_false ?_
    show ¬ ((FP.Core.inUnits c q _ : Nat) : Int) + ((FP.Core.inUnits d r _ : Nat) : Int) < 0
    omega
