/-! ===== Int32 by its bits: bt x i ===== -/
def bt (x : Int32) (i : Nat) : Bool := x.toBitVec.getLsbD i
theorem b_ext {x y : Int32} (h : ∀ i, i < 32 → bt x i = bt y i) : x = y := Int32.toBitVec_inj.mp (BitVec.eq_of_getLsbD_eq (fun i hi => h i hi))
theorem b_or (x y : Int32) (i : Nat) : bt (x ||| y) i = (bt x i || bt y i) := by unfold bt; rw [Int32.toBitVec_or, BitVec.getLsbD_or]
theorem b_and (x y : Int32) (i : Nat) : bt (x &&& y) i = (bt x i && bt y i) := by unfold bt; rw [Int32.toBitVec_and, BitVec.getLsbD_and]
theorem b_xor (x y : Int32) (i : Nat) : bt (x ^^^ y) i = (bt x i ^^ bt y i) := by unfold bt; rw [Int32.toBitVec_xor, BitVec.getLsbD_xor]
theorem b_big {x : Int32} {i : Nat} (h : 32 ≤ i) : bt x i = false := BitVec.getLsbD_of_ge _ _ h
theorem b_m1 : ∀ i, i < 32 → bt (-1) i = true := by decide +kernel
theorem b_0 (i : Nat) : bt 0 i = false := BitVec.getLsbD_zero
theorem s_l : ∀ n, n < 32 → ((nI n &&& 31).toBitVec.smod 32).toNat = n := by decide +kernel
theorem s_u : ∀ n, n < 32 → (((nI n).toUInt32 &&& Int32.toUInt32 31).toBitVec % 32).toNat = n := by decide +kernel
theorem b_shl (n : Nat) (hn : n < 32) (x : Int32) {i : Nat} (hi : i < 32) : bt (x <<< (nI n &&& 31)) i = (decide (n ≤ i) && bt x (i - n)) := by
  unfold bt
  rw [Int32.toBitVec_shiftLeft]
  show (x.toBitVec <<< ((nI n &&& 31).toBitVec.smod 32).toNat).getLsbD i = _
  rw [s_l n hn, BitVec.getLsbD_shiftLeft]
  rcases Nat.lt_or_ge i n with h | h
  · simp [h, Nat.not_le.mpr h]
  · simp [hi, h, Nat.not_lt.mpr h]
theorem b_ushr (n : Nat) (hn : n < 32) (x : Int32) (i : Nat) : bt ((x.toUInt32 >>> ((nI n).toUInt32 &&& Int32.toUInt32 31)).toInt32) i = bt x (n + i) := by
  show (x.toUInt32 >>> ((nI n).toUInt32 &&& Int32.toUInt32 31)).toBitVec.getLsbD i = x.toUInt32.toBitVec.getLsbD (n + i)
  rw [UInt32.toBitVec_shiftRight]
  show (x.toUInt32.toBitVec >>> (((nI n).toUInt32 &&& Int32.toUInt32 31).toBitVec % 32).toNat).getLsbD i = _
  rw [s_u n hn, BitVec.getLsbD_ushiftRight]
theorem b_sshr (n : Nat) (hn : n < 32) (x : Int32) {i : Nat} (hi : i < 32) : bt (x >>> (nI n &&& 31)) i = if n + i < 32 then bt x (n + i) else bt x 31 := by
  unfold bt
  rw [Int32.toBitVec_shiftRight]
  show (x.toBitVec.sshiftRight ((nI n &&& 31).toBitVec.smod 32).toNat).getLsbD i = _
  rw [s_l n hn, BitVec.getLsbD_sshiftRight, BitVec.msb_eq_getLsbD_last]
  simp [hi]
/-! bits, turned to this class -/
theorem bt_1 : ∀ i, i < 32 → bt 1 i = decide (i = 0) := by decide +kernel
theorem bitB_bt {x : Int32} {i : Nat} (hi : i < 32) : bitB x (nI i) = bt x i := by
  unfold bitB
  have key : (x >>> (nI i &&& 31) &&& 1 = 1) ↔ bt x i = true := by
    have h0 : bt (x >>> (nI i &&& 31)) 0 = bt x i := by rw [b_sshr i hi x (by omega), if_pos (by omega)]; rfl
    constructor
    · intro h
      have := congrArg (fun z => bt z 0) h
      simp only [b_and, h0] at this
      rw [bt_1 0 (by omega)] at this
      simpa using this
    · intro h
      apply b_ext
      intro j hj
      rw [b_and, bt_1 j hj]
      by_cases e : j = 0
      · subst e; rw [h0, h]; rfl
      · simp [e]
  cases hb : bt x i with
  | true => exact decide_eq_true (key.mpr hb)
  | false => exact decide_eq_false (fun q => by rw [key.mp q] at hb; cases hb)
theorem bt_bit {i j : Nat} (hi : i < 32) (hj : j < 32) : bt (1 <<< (nI i &&& 31)) j = decide (i = j) := by
  rw [b_shl i hi 1 hj]
  by_cases e : i ≤ j
  · rw [decide_eq_true e, Bool.true_and, bt_1 _ (by omega)]
    by_cases f : i = j
    · subst f; simp
    · rw [decide_eq_false f, decide_eq_false (by omega)]
  · rw [decide_eq_false e, Bool.false_and, decide_eq_false (by omega)]
theorem bt_not {x : Int32} {i : Nat} (hi : i < 32) : bt (x ^^^ (-1)) i = !bt x i := by rw [b_xor, b_m1 i hi, Bool.xor_true]
/-- the bits of a row -/
theorem rb_bt {f : Nat → Int32} {c : Nat} : ∀ l, rowOK f l c → c ≤ 32 → ∀ j, j < 32 → (bt (rbF f l) j = true ↔ ∃ p, p < l ∧ rv f p = j)
  | 0, _, _, j, _ => by
    constructor
    · intro h; rw [show rbF f 0 = 0 from rfl, b_0] at h; cases h
    · rintro ⟨p, hp, -⟩; omega
  | l + 1, hf, hc, j, hj => by
    have ih := rb_bt l (fun p hp => hf p (by omega)) hc j hj
    have h1 := hf l (by omega)
    rw [show rbF f (l + 1) = rbF f l ||| (1 <<< (f l &&& 31)) from rfl, b_or, h1.1, bt_bit (by omega) hj, Bool.or_eq_true, ih, decide_eq_true_eq]
    constructor
    · rintro (⟨p, hp, e⟩ | e)
      · exact ⟨p, by omega, e⟩
      · exact ⟨l, by omega, by rw [← e]⟩
    · rintro ⟨p, hp, e⟩
      by_cases q : p = l
      · subst q; exact Or.inr e
      · exact Or.inl ⟨p, by omega, e⟩
/-- those that fit -/
theorem fb_bt {rgb gr lm : Nat → Int32} : ∀ c, c ≤ 32 → ∀ j, j < 32 → (bt (fbF rgb gr lm c) j = true ↔ j < c ∧ fitC rgb gr lm j = true)
  | 0, _, j, _ => by
    constructor
    · intro h; rw [show fbF rgb gr lm 0 = 0 from rfl, b_0] at h; cases h
    · rintro ⟨h, -⟩; omega
  | c + 1, hc, j, hj => by
    have ih := fb_bt (rgb := rgb) (gr := gr) (lm := lm) c (by omega) j hj
    cases hb : fitC rgb gr lm c with
    | true =>
      rw [fbF_t hb, b_or, bt_bit (by omega) hj, Bool.or_eq_true, ih, decide_eq_true_eq]
      constructor
      · rintro (⟨h1, h2⟩ | h1)
        · exact ⟨by omega, h2⟩
        · subst h1; exact ⟨by omega, hb⟩
      · rintro ⟨h1, h2⟩
        by_cases q : c = j
        · exact Or.inr q
        · exact Or.inl ⟨by omega, h2⟩
    | false =>
      rw [fbF_f hb, ih]
      constructor
      · rintro ⟨h1, h2⟩; exact ⟨by omega, h2⟩
      · rintro ⟨h1, h2⟩
        refine ⟨?_, h2⟩
        by_cases q : j = c
        · subst q; rw [hb] at h2; cases h2
        · omega
/-- what may come: fits, and isn't in the row -/
theorem may_iff {fit : Int32} {f : Nat → Int32} {l c i : Nat} (hf : rowOK f l c) (hc : c ≤ 32) (hi : i < 32) : bitB (fit &&& (rbF f l ^^^ (-1))) (nI i) = true ↔ bt fit i = true ∧ ∀ p, p < l → rv f p ≠ i := by
  rw [bitB_bt hi, b_and, bt_not hi, Bool.and_eq_true, Bool.not_eq_true']
  constructor
  · rintro ⟨h1, h2⟩
    refine ⟨h1, fun p hp e => ?_⟩
    rw [(rb_bt l hf hc i hi).mpr ⟨p, hp, e⟩] at h2
    cases h2
  · rintro ⟨h1, h2⟩
    refine ⟨h1, ?_⟩
    cases hb : bt (rbF f l) i with
    | false => rfl
    | true => obtain ⟨p, hp, e⟩ := (rb_bt l hf hc i hi).mp hb; exact absurd e (h2 p hp)
theorem rv_upd_self (f : Nat → Int32) (k i : Nat) (hi : i < 2 ^ 31) : rv (upd f k (nI i)) k = i := by unfold rv upd; rw [if_pos rfl, nI_clamp hi]
theorem rv_upd_ne (f : Nat → Int32) {k p : Nat} (v : Int32) (h : p ≠ k) : rv (upd f k v) p = rv f p := by unfold rv upd; rw [if_neg h]
theorem rowOK_push {f : Nat → Int32} {l c i : Nat} (hf : rowOK f l c) (hi : i < c) (hc : c ≤ 32) : rowOK (upd f l (nI i)) (l + 1) c := by
  intro p hp
  by_cases e : p = l
  · subst e; rw [rv_upd_self _ _ _ (by omega)]; exact ⟨by unfold upd; rw [if_pos rfl], hi⟩
  · rw [rv_upd_ne _ _ e]
    have := hf p (by omega)
    exact ⟨by unfold upd; rw [if_neg e]; exact this.1, this.2⟩
theorem rowDI_push {f : Nat → Int32} {l i : Nat} (hd : rowDI f l) (hn : ∀ p, p < l → rv f p ≠ i) (hi : i < 2 ^ 31) : rowDI (upd f l (nI i)) (l + 1) := by
  intro a b hab hb
  by_cases e : b = l
  · subst e
    rw [rv_upd_self _ _ _ hi, rv_upd_ne _ _ (by omega)]
    exact hn a hab
  · rw [rv_upd_ne _ _ e, rv_upd_ne _ _ (by omega)]
    exact hd a b hab (by omega)
theorem nxF_spec {may : Nat → Bool} {rank : Nat → UInt32} : ∀ c, (nxF may rank c).1 = -1 ∨ ∃ i, i < c ∧ may i = true ∧ (nxF may rank c).1 = nI i
  | 0 => Or.inl rfl
  | c + 1 => by
    have ih := nxF_spec (may := may) (rank := rank) c
    by_cases h : may c = true ∧ ((nxF may rank c).1 = -1 ∨ (nxF may rank c).2 < rank c)
    · rw [nxF_t h.1 h.2]; exact Or.inr ⟨c, by omega, h.1, rfl⟩
    · have e : nxF may rank (c + 1) = nxF may rank c := by
        by_cases h1 : may c = true
        · exact nxF_f (fun q => h ⟨h1, Or.inl q⟩) (fun q => h ⟨h1, Or.inr q⟩)
        · exact nxF_n h1
      rw [e]
      rcases ih with ih | ⟨i, h1, h2, h3⟩
      · exact Or.inl ih
      · exact Or.inr ⟨i, by omega, h2, h3⟩
theorem nI_ne_m1 {i : Nat} (h : i < 2 ^ 31) : ¬ nI i = -1 := by
  intro q
  have h1 := congrArg Int32.toInt q
  rw [nI_toInt h] at h1
  have h2 : (-1 : Int32).toInt = -1 := by decide
  rw [h2] at h1; omega
/-- the FIXED ones, rising -/
def fxR (fx : Int32) (row : Nat → Int32) : Nat → (Nat → Int32) × Nat := itF (fun i s => if bitB fx (nI i) = true then (upd s.1 s.2 (nI i), s.2 + 1) else s) (row, 0)
theorem fxR_t {fx : Int32} {row : Nat → Int32} {i : Nat} (h : bitB fx (nI i) = true) : fxR fx row (i + 1) = (upd (fxR fx row i).1 (fxR fx row i).2 (nI i), (fxR fx row i).2 + 1) := if_pos h
theorem fxR_f {fx : Int32} {row : Nat → Int32} {i : Nat} (h : bitB fx (nI i) = false) : fxR fx row (i + 1) = fxR fx row i := if_neg (by rw [h]; decide)
theorem fxR_mono {fx : Int32} {row : Nat → Int32} {i : Nat} : ∀ k, (fxR fx row i).2 ≤ (fxR fx row (i + k)).2
  | 0 => Nat.le_refl _
  | k + 1 => by
    have ih := fxR_mono (fx := fx) (row := row) (i := i) k
    cases hb : bitB fx (nI (i + k)) with
    | true => rw [show i + (k + 1) = (i + k) + 1 from rfl, fxR_t hb]; exact Nat.le_trans ih (Nat.le_succ _)
    | false => rw [show i + (k + 1) = (i + k) + 1 from rfl, fxR_f hb]; exact ih
theorem fxR_lt {fx : Int32} {row : Nat → Int32} {i c : Nat} (hi : i < c) (hb : bitB fx (nI i) = true) : (fxR fx row i).2 < (fxR fx row c).2 := by
  have := fxR_mono (fx := fx) (row := row) (i := i + 1) (c - (i + 1))
  rw [show i + 1 + (c - (i + 1)) = c by omega, fxR_t hb] at this
  exact this
theorem fxR_ok {fx : Int32} {row : Nat → Int32} : ∀ i, i ≤ 32 → rowOK (fxR fx row i).1 (fxR fx row i).2 i ∧ rowDI (fxR fx row i).1 (fxR fx row i).2
  | 0, _ => ⟨fun p hp => absurd hp (Nat.not_lt_zero p), fun a b _ hb => absurd hb (Nat.not_lt_zero b)⟩
  | i + 1, hi => by
    obtain ⟨h1, h2⟩ := fxR_ok (fx := fx) (row := row) i (by omega)
    have h1' : rowOK (fxR fx row i).1 (fxR fx row i).2 (i + 1) := fun p hp => ⟨(h1 p hp).1, Nat.lt_succ_of_lt (h1 p hp).2⟩
    cases hb : bitB fx (nI i) with
    | true =>
      rw [fxR_t hb]
      exact ⟨rowOK_push h1' (by omega) (by omega), rowDI_push h2 (fun p hp e => by have := (h1 p hp).2; omega) (by omega)⟩
    | false => rw [fxR_f hb]; exact ⟨h1', h2⟩
/-- FILLING, from a row on: so many more at most -/
def nxS (ap : Nat → Nat → UInt32) (rgb : Nat → Int32) (fit : Int32) (c : Nat) (s : (Nat → Int32) × Nat) : Int32 := (nxF (fun i => bitB (fit &&& (rbF s.1 s.2 ^^^ (-1))) (nI i)) (rkF ap rgb (rv s.1) s.2) c).1
def flF (ap : Nat → Nat → UInt32) (rgb : Nat → Int32) (fit : Int32) (c : Nat) : Nat → (Nat → Int32) × Nat → (Nat → Int32) × Nat
  | 0, s => s
  | m + 1, s => if nxS ap rgb fit c s = -1 then s else flF ap rgb fit c m (upd s.1 s.2 (nxS ap rgb fit c s), s.2 + 1)
theorem flF_n {ap : Nat → Nat → UInt32} {rgb : Nat → Int32} {fit : Int32} {c m : Nat} {s : (Nat → Int32) × Nat} (h : nxS ap rgb fit c s = -1) : flF ap rgb fit c m s = s := by
  cases m with
  | zero => rfl
  | succ m => exact if_pos h
theorem flF_y {ap : Nat → Nat → UInt32} {rgb : Nat → Int32} {fit : Int32} {c m : Nat} {s : (Nat → Int32) × Nat} (h : ¬ nxS ap rgb fit c s = -1) : flF ap rgb fit c (m + 1) s = flF ap rgb fit c m (upd s.1 s.2 (nxS ap rgb fit c s), s.2 + 1) := if_neg h
/-- what comes next is a COLOUR that fits and isn't in the row -/
theorem nxS_spec {ap : Nat → Nat → UInt32} {rgb : Nat → Int32} {fit : Int32} {c : Nat} {s : (Nat → Int32) × Nat} (hf : rowOK s.1 s.2 c) (hc : c ≤ 32) (h : ¬ nxS ap rgb fit c s = -1) : ∃ i, i < c ∧ nxS ap rgb fit c s = nI i ∧ bt fit i = true ∧ ∀ p, p < s.2 → rv s.1 p ≠ i := by
  rcases nxF_spec (may := fun i => bitB (fit &&& (rbF s.1 s.2 ^^^ (-1))) (nI i)) (rank := rkF ap rgb (rv s.1) s.2) c with q | ⟨i, h1, h2, h3⟩
  · exact absurd q h
  · have h4 := (may_iff hf hc (by omega : i < 32)).mp h2
    exact ⟨i, h1, h3, h4.1, h4.2⟩
