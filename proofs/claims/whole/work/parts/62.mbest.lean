/-! The reference: the best set -/
theorem rb_sN {S : Nat → Int32} {n c : Nat} (hS : rowOK S n c) (hv : VR n c (rv S)) (c20 : c ≤ 20) : rbF S n = nI (sN (rv S) n) := by
  apply b_ext
  intro j hj
  rw [bt_nI hj]
  exact Bool.eq_iff_iff.mpr ((rb_bt n hS (by omega) j hj).trans (sN_bit n c hv j).symm)
theorem lm_row {p : Nat → Nat} {s : Int32} {n c : Nat} (hv : VR n c p) (n4 : n ≤ 4) (c20 : c ≤ 20) (hs : ∀ j, j < 32 → (bt s j = true ↔ ∃ k, k < n ∧ p k = j)) {mem : Nat → Int32} : ∀ i, i ≤ 20 → ∃ m, m ≤ n ∧ (lmS s mem i).2 = m ∧ (∀ k, k < m → (lmS s mem i).1 k = nI (p k)) ∧ (∀ k, k < m → p k < i) ∧ (∀ k, m ≤ k → k < n → i ≤ p k)
  | 0, _ => ⟨0, by omega, rfl, fun k hk => absurd hk (by omega), fun k hk => absurd hk (by omega), fun k _ _ => by omega⟩
  | i + 1, hi => by
    obtain ⟨m, h1, h2, h3, h4, h5⟩ := lm_row hv n4 c20 hs (mem := mem) i (by omega)
    cases hb : bt s i with
    | true =>
      obtain ⟨k, hk, e⟩ := (hs i (by omega)).mp hb
      have hkm : k = m := by
        rcases Nat.lt_trichotomy k m with q | q | q
        · have := h4 k q; omega
        · exact q
        · have := hv.2 m k q hk; have := h5 m (by omega) (by omega); omega
      subst hkm
      have e1 : lmS s mem (i + 1) = (upd (lmS s mem i).1 (lmS s mem i).2 (nI i), (lmS s mem i).2 + 1) := lmS_t (by omega) (by rw [bitB_bt (by omega)]; exact hb)
      refine ⟨k + 1, by omega, by rw [e1]; show (lmS s mem i).2 + 1 = k + 1; omega, fun j hj => ?_, fun j hj => ?_, fun j h6 h7 => ?_⟩
      · rw [e1, h2]
        show upd _ k (nI i) j = _
        by_cases q : j = k
        · rw [q, upd_s, e]
        · rw [upd_o q]; exact h3 j (by omega)
      · by_cases q : j = k
        · rw [q]; omega
        · have := h4 j (by omega); omega
      · have := hv.2 k j (by omega) h7; omega
    | false =>
      have e1 : lmS s mem (i + 1) = lmS s mem i := lmS_f (fun q => by rw [bitB_bt (by omega), hb] at q; cases q.2)
      refine ⟨m, h1, by rw [e1]; exact h2, by rw [e1]; exact h3, fun k hk => by have := h4 k hk; omega, fun k h6 h7 => ?_⟩
      have h8 := h5 k h6 h7
      have : p k ≠ i := fun e => by
        have := (hs i (by omega)).mpr ⟨k, h7, e⟩
        rw [hb] at this; cases this
      omega
theorem own_row {ap : Nat → Nat → UInt32} {p : Nat → Nat} {s : Int32} {n c : Nat} (hv : VR n c p) (n4 : n ≤ 4) (c20 : c ≤ 20) (hs : ∀ j, j < 32 → (bt s j = true ↔ ∃ k, k < n ∧ p k = j)) : ownF ap s = lsV ap p n := by
  obtain ⟨m, h1, h2, h3, h4, h5⟩ := lm_row hv n4 c20 hs (mem := fun _ => 0) 20 (by omega)
  have hm : m = n := by
    rcases Nat.lt_or_ge m n with q | q
    · have := h5 m (by omega) q; have := hv.1 m q; omega
    · omega
  subst hm
  unfold ownF
  rw [h2]
  refine lsV_congr (fun k hk => ?_)
  unfold rv
  rw [h3 k hk]
  exact nI_clamp (by have := hv.1 k hk; omega)
theorem own_sN {ap : Nat → Nat → UInt32} {p : Nat → Nat} {n c : Nat} (hv : VR n c p) (n4 : n ≤ 4) (c20 : c ≤ 20) : ownF ap (nI (sN p n)) = lsV ap p n :=
  own_row hv n4 c20 (fun j hj => by rw [bt_nI hj]; exact sN_bit n c hv j)
/-- the order of rows -/
def LX (n : Nat) (p q : Nat → Nat) : Prop := ∃ k, k < n ∧ (∀ j, j < k → p j = q j) ∧ p k < q k
theorem VR.top {n c : Nat} {p : Nat → Nat} (h : VR n c p) : ∀ d k, k + d + 1 = n → p k + d + 1 ≤ c
  | 0, k, e => h.1 k (by omega)
  | d + 1, k, e => by
    have := VR.top h d (k + 1) (by omega)
    have := h.2 k (k + 1) (by omega) (by omega)
    omega
theorem VR.le {n c : Nat} {p : Nat → Nat} (h : VR n c p) {k : Nat} (hk : k < n) : p k + n ≤ c + k := by
  have := VR.top h (n - 1 - k) k (by omega); omega
theorem VR.ge {n c : Nat} {p : Nat → Nat} (h : VR n c p) : ∀ k, k < n → k ≤ p k
  | 0, _ => Nat.zero_le _
  | k + 1, hk => by
    have := VR.ge h k (by omega)
    have := h.2 k (k + 1) (by omega) hk
    omega
theorem fst_diff {p q : Nat → Nat} : ∀ n, (∀ j, j < n → p j = q j) ∨ ∃ k, k < n ∧ (∀ j, j < k → p j = q j) ∧ p k ≠ q k
  | 0 => Or.inl fun j hj => absurd hj (by omega)
  | n + 1 => by
    rcases fst_diff (p := p) (q := q) n with h | ⟨k, hk, h1, h2⟩
    · by_cases e : p n = q n
      · refine Or.inl fun j hj => ?_
        rcases Nat.lt_or_ge j n with r | r
        · exact h j r
        · have : j = n := by omega
          subst this; exact e
      · exact Or.inr ⟨n, by omega, h, e⟩
    · exact Or.inr ⟨k, by omega, h1, h2⟩
theorem LX_top {n c : Nat} {p q : Nat → Nat} (hp : VR n c p) (hq : ∀ j, j < n → q j + n = c + j) : LX n p q ∨ ∀ j, j < n → p j = q j := by
  rcases fst_diff (p := p) (q := q) n with h | ⟨k, hk, h1, h2⟩
  · exact Or.inr h
  · exact Or.inl ⟨k, hk, h1, by have := hp.le hk; have := hq k hk; omega⟩
theorem LX_next {n c k : Nat} {p q q' : Nat → Nat} (hp : VR n c p) (hk : k < n) (h0 : ∀ j, j < k → q' j = q j) (h1 : ∀ i, k + i < n → q' (k + i) = q k + 1 + i) (h2 : ∀ j, k < j → j < n → q j + n = c + j) : LX n p q' ↔ (LX n p q ∨ ∀ j, j < n → p j = q j) := by
  have hk1 : q' k = q k + 1 := h1 0 hk
  constructor
  · rintro ⟨j0, hj0, ha, hb⟩
    rcases Nat.lt_trichotomy j0 k with r | r | r
    · exact Or.inl ⟨j0, hj0, fun j hj => by rw [ha j hj]; exact h0 j (by omega), by rw [← h0 j0 r]; exact hb⟩
    · subst r
      have hag : ∀ j, j < j0 → p j = q j := fun j hj => by rw [ha j hj]; exact h0 j hj
      rcases Nat.lt_or_ge (p j0) (q j0) with s | s
      · exact Or.inl ⟨j0, hj0, hag, s⟩
      · have es : p j0 = q j0 := by omega
        rcases fst_diff (p := p) (q := q) n with h | ⟨k2, hk2, h3, h4⟩
        · exact Or.inr h
        · have : j0 < k2 := by
            rcases Nat.lt_trichotomy k2 j0 with t | t | t
            · exact absurd (hag k2 t) h4
            · exact absurd (t ▸ es) h4
            · exact t
          have a1 := h2 k2 this hk2
          have a2 := hp.le hk2
          exact Or.inl ⟨k2, hk2, h3, by omega⟩
    · have a1 := ha (j0 - 1) (by omega)
      have a2 := h1 (j0 - 1 - k) (by omega)
      have a3 := h1 (j0 - k) (by omega)
      have a4 := hp.2 (j0 - 1) j0 (by omega) hj0
      rw [show k + (j0 - 1 - k) = j0 - 1 by omega] at a2
      rw [show k + (j0 - k) = j0 by omega] at a3
      omega
  · rintro (⟨j0, hj0, ha, hb⟩ | h)
    · rcases Nat.lt_trichotomy j0 k with r | r | r
      · exact ⟨j0, hj0, fun j hj => by rw [h0 j (by omega)]; exact ha j hj, by rw [h0 j0 r]; exact hb⟩
      · subst r
        exact ⟨j0, hj0, fun j hj => by rw [h0 j hj]; exact ha j hj, by omega⟩
      · exact ⟨k, hk, fun j hj => by rw [h0 j hj]; exact ha j (by omega), by have := ha k r; omega⟩
    · exact ⟨k, hk, fun j hj => by rw [h0 j hj]; exact h j (by omega), by have := h k hk; omega⟩
/-- a row as one number -/
def enc (q : Nat → Nat) : Nat → Nat
  | 0 => 0
  | n + 1 => 32 * enc q n + q n
theorem enc_congr {p q : Nat → Nat} : ∀ n, (∀ j, j < n → p j = q j) → enc p n = enc q n
  | 0, _ => rfl
  | n + 1, h => by
    show 32 * enc p n + p n = 32 * enc q n + q n
    rw [enc_congr n (fun j hj => h j (by omega)), h n (by omega)]
theorem enc_lt {p q : Nat → Nat} : ∀ n, LX n p q → (∀ j, j < n → p j < 32) → enc p n < enc q n
  | 0, ⟨k, hk, _⟩, _ => absurd hk (by omega)
  | n + 1, ⟨k, hk, ha, hb⟩, h => by
    show 32 * enc p n + p n < 32 * enc q n + q n
    rcases Nat.lt_or_ge k n with r | r
    · have := enc_lt n ⟨k, r, ha, hb⟩ (fun j hj => h j (by omega))
      have := h n (by omega)
      omega
    · have : k = n := by omega
      subst this
      rw [enc_congr k ha]
      omega
theorem enc_1 {q : Nat → Nat} : ∀ n, (∀ j, j < n → q j < 32) → enc q n < 32 ^ n
  | 0, _ => by show 0 < 1; decide
  | n + 1, h => by
    have h1 := enc_1 n (fun j hj => h j (by omega))
    have h2 := h n (by omega)
    show 32 * enc q n + q n < 32 ^ (n + 1)
    rw [Nat.pow_succ]
    omega
theorem enc_2 {q : Nat → Nat} {n c : Nat} (h : VR n c q) (c20 : c ≤ 20) (n4 : n ≤ 4) : enc q n ≤ 1048576 := by
  have h1 := enc_1 n (fun j hj => Nat.lt_of_lt_of_le (h.1 j hj) (by omega : c ≤ 32))
  have h2 : 32 ^ n ≤ 32 ^ 4 := Nat.pow_le_pow_right (by decide) n4
  have h3 : (32 : Nat) ^ 4 = 1048576 := by decide
  omega
/-- the sets of the rows ahead of one -/
def VL (n c : Nat) (q : Nat → Nat) : Nat → Prop := fun x => ∃ p, VR n c p ∧ LX n p q ∧ x = sN p n
theorem VL_top {n c : Nat} {q : Nat → Nat} (hq : VR n c q) (h : ∀ j, j < n → q j + n = c + j) {x : Nat} : VA n c x ↔ (VL n c q x ∨ x = sN q n) := by
  constructor
  · rintro ⟨p, hp, e⟩
    rcases LX_top hp h with r | r
    · exact Or.inl ⟨p, hp, r, e⟩
    · exact Or.inr (by rw [e]; exact sN_congr n r)
  · rintro (⟨p, hp, -, e⟩ | e)
    · exact ⟨p, hp, e⟩
    · exact ⟨q, hq, e⟩
theorem VL_next {n c k : Nat} {q q' : Nat → Nat} (hq : VR n c q) (hk : k < n) (h0 : ∀ j, j < k → q' j = q j) (h1 : ∀ i, k + i < n → q' (k + i) = q k + 1 + i) (h2 : ∀ j, k < j → j < n → q j + n = c + j) {x : Nat} : VL n c q' x ↔ (VL n c q x ∨ x = sN q n) := by
  constructor
  · rintro ⟨p, hp, hl, e⟩
    rcases (LX_next hp hk h0 h1 h2).mp hl with r | r
    · exact Or.inl ⟨p, hp, r, e⟩
    · exact Or.inr (by rw [e]; exact sN_congr n r)
  · rintro (⟨p, hp, hl, e⟩ | e)
    · exact ⟨p, hp, (LX_next hp hk h0 h1 h2).mpr (Or.inl hl), e⟩
    · exact ⟨q, hq, (LX_next hq hk h0 h1 h2).mpr (Or.inr fun _ _ => rfl), e⟩
/-- the next row, as the reference makes it -/
def NXT (u c : Nat) (q : Nat → Nat) (S2 S : Nat → Int32) : Prop := ∃ k, k < u ∧ q k + u < c + k ∧ (∀ j, k < j → j < u → q j + u = c + j) ∧ (∀ j, j < k → S2 j = S j) ∧ ∀ i, k + i < u → S2 (k + i) = nI (q k + 1 + i)
theorem NXT.go {u c : Nat} {S S2 : Nat → Int32} (hS : rowOK S u c) (hv : VR u c (rv S)) (c20 : c ≤ 20) (h : NXT u c (rv S) S2 S) : rowOK S2 u c ∧ VR u c (rv S2) ∧ enc (rv S) u < enc (rv S2) u ∧ ∀ x, VL u c (rv S2) x ↔ (VL u c (rv S) x ∨ x = sN (rv S) u) := by
  obtain ⟨k, hk, h1, h2, h3, h4⟩ := h
  have b : ∀ i, k + i < u → rv S2 (k + i) = rv S k + 1 + i := fun i hi => by
    show (S2 (k + i)).toNatClampNeg = _
    rw [h4 i hi]; exact nI_clamp (by omega)
  have a : ∀ j, j < k → rv S2 j = rv S j := fun j hj => by
    show (S2 j).toNatClampNeg = _
    rw [h3 j hj]; rfl
  have b' : ∀ p, k ≤ p → p < u → rv S2 p = rv S k + 1 + (p - k) := fun p h5 h6 => by
    have := b (p - k) (by omega)
    rwa [show k + (p - k) = p by omega] at this
  have ok : ∀ p, p < u → rv S2 p < c := fun p hp => by
    rcases Nat.lt_or_ge p k with r | r
    · rw [a p r]; exact hv.1 p hp
    · rw [b' p r hp]; omega
  refine ⟨fun p hp => ⟨?_, ok p hp⟩, ⟨ok, fun x y hx hy => ?_⟩, ?_, fun x => VL_next hv hk a b h2⟩
  · rcases Nat.lt_or_ge p k with r | r
    · rw [a p r, h3 p r]; exact (hS p hp).1
    · have := h4 (p - k) (by omega)
      rw [show k + (p - k) = p by omega] at this
      rw [b' p r hp, this]
  · rcases Nat.lt_or_ge y k with r | r
    · rw [a x (by omega), a y r]; exact hv.2 x y hx hy
    · rw [b' y r hy]
      rcases Nat.lt_or_ge x k with s | s
      · rw [a x s]; have := hv.2 x k s hk; omega
      · rw [b' x s (by omega)]; omega
  · refine enc_lt u ⟨k, hk, fun j hj => (a j hj).symm, ?_⟩ (fun j hj => Nat.lt_of_lt_of_le (hv.1 j hj) (by omega))
    have := b 0 hk
    show rv S k < rv S2 (k + 0)
    omega
/-- the row from k on, as far as m -/
def NX (k v m : Nat) (S T : Nat → Int32) : Prop := (∀ j, j < k → T j = S j) ∧ ∀ i, k + i < m → T (k + i) = nI (v + 1 + i)
theorem NX.at {k v m : Nat} {S T : Nat → Int32} (h : NX k v m S T) (hm : k < m) : T (m - 1) = nI (v + 1 + (m - 1 - k)) := by
  have := h.2 (m - 1 - k) (by omega)
  rwa [show k + (m - 1 - k) = m - 1 by omega] at this
theorem NX.step {k v m : Nat} {S T : Nat → Int32} {x : Int32} (h : NX k v m S T) (hm : k < m) (hx : x = nI (v + 1 + (m - 1 - k) + 1)) : NX k v (m + 1) S (upd T m x) := by
  refine ⟨fun j hj => by rw [upd_o (by omega)]; exact h.1 j hj, fun i hi => ?_⟩
  by_cases e : k + i = m
  · rw [e, upd_s, hx, show v + 1 + (m - 1 - k) + 1 = v + 1 + i by omega]
  · rw [upd_o e]; exact h.2 i (by omega)
theorem NX.start {k v : Nat} {S : Nat → Int32} {x : Int32} (hx : x = nI (v + 1)) : NX k v (k + 1) S (upd S k x) := by
  refine ⟨fun j hj => upd_o (by omega), fun i hi => ?_⟩
  have : i = 0 := by omega
  subst this
  show upd S k x k = _
  rw [upd_s, hx]
theorem VR_di {n c : Nat} {S : Nat → Int32} (h : VR n c (rv S)) : rowDI S n := fun a b h1 h2 => by have := h.2 a b h1 h2; omega
theorem rv_id {S : Nat → Int32} {k u : Nat} (h : ∀ p, p < k → S p = nI p) (hk : u ≤ k) (u8 : u ≤ 8 := by omega) : ∀ p, p < u → rv S p = p := fun p hp => by
  unfold rv; rw [h p (by omega)]; exact nI_clamp (by omega)
theorem row_id {S : Nat → Int32} {k u c : Nat} (h : ∀ p, p < k → S p = nI p) (hk : u ≤ k) (hc : u ≤ c) (u8 : u ≤ 8 := by omega) : rowOK S u c := fun p hp => by
  rw [rv_id h hk u8 p hp]; exact ⟨h p (by omega), by omega⟩
theorem VR_id {S : Nat → Int32} {k u c : Nat} (h : ∀ p, p < k → S p = nI p) (hk : u ≤ k) (hc : u ≤ c) (u8 : u ≤ 8 := by omega) : VR u c (rv S) :=
  ⟨fun p hp => by rw [rv_id h hk u8 p hp]; omega, fun a b h1 h2 => by rw [rv_id h hk u8 a (by omega), rv_id h hk u8 b h2]; exact h1⟩
theorem VL_0 {n c : Nat} {q : Nat → Nat} (hq : ∀ p, p < n → q p = p) {x : Nat} (h : VL n c q x) : False := by
  obtain ⟨p, hp, ⟨k, hk, -, h1⟩, -⟩ := h
  have := hp.ge k hk
  rw [hq k hk] at h1
  omega
theorem VA_no {n c x : Nat} (hn : c < n) (h : VA n c x) : False := by
  obtain ⟨p, hp, -⟩ := h
  have := hp.le (k := 0) (by omega)
  omega
theorem id_step {S : Nat → Int32} {k : Nat} (h : ∀ p, p < k → S p = nI p) : ∀ p, p < k + 1 → upd S k (nI k) p = nI p := fun p hp => by
  by_cases e : p = k
  · rw [e, upd_s]
  · rw [upd_o e]; exact h p (by omega)
set_option maxHeartbeats 400000 in
set_option maxRecDepth 100000 in
theorem l_setOf {Z : xZ} {u : Nat} {xn : Int32} (hxn : xn = nI u) (u8 : u ≤ 8) : ∀ (n : Nat) (k : Nat), k ≤ u → u < k + n → XW mX4_setOf 0 0 0 4 [some (.ref 53), some (.int xn), some (.int (rbF (Z.2.1 60) k)), some (.int (nI k))] [] (HP Z) (fun r h' => r = some (.int (rbF (Z.2.1 60) u)) ∧ h' = HP Z) := by
  intro n
  induction n with
  | zero => intro k g0 g1; omega
  | succ n ih =>
    intro k g0 g1
    refine XW.iload_n 5 dX4_setOf_4 rfl rfl ?_
    refine XW.iload_n 6 dX4_setOf_5 rfl rfl ?_
    refine XW.icmp_geN 26 9 k u dX4_setOf_6 (by decide) rfl rfl hxn (by omega) (by omega) (fun c_6 => ?_) (fun c_6 => ?_)
    · refine XW.iload_n 27 dX4_setOf_26 rfl rfl ?_
      exact XW.iret dX4_setOf_27 rfl (⟨by rw [show k = u by omega], rfl⟩)
    · refine XW.iload_n 10 dX4_setOf_9 rfl rfl ?_
      refine XW.iconst 11 dX4_setOf_10 (v := 1) (by decide) rfl ?_
      refine XW.aload_n 12 dX4_setOf_11 rfl rfl ?_
      refine XW.getf 15 (v := .ref 60) f4_29 dX4_setOf_12 rfl rfl rfl ?_
      refine XW.iload_n 16 dX4_setOf_15 rfl rfl ?_
      refine XW.iald 17 k dX4_setOf_16 rfl rfl (by omega) (by decide) rfl ?_
      refine XW.ishl 18 dX4_setOf_17 rfl ?_
      refine XW.ior 19 dX4_setOf_18 rfl ?_
      refine XW.istore_n 20 (L' := [some (.ref 53), some (.int xn), some (.int ((rbF (Z.2.1 60) k) ||| (1 <<< ((Z.2.1 60 k) &&& 31)))), some (.int (nI k))]) dX4_setOf_19 (by decide) rfl rfl rfl ?_
      refine XW.iinc 23 (y := nI (k + 1)) (L' := [some (.ref 53), some (.int xn), some (.int ((rbF (Z.2.1 60) k) ||| (1 <<< ((Z.2.1 60 k) &&& 31)))), some (.int (nI (k + 1)))]) dX4_setOf_20 rfl (na rfl rfl) (by decide) rfl rfl rfl ?_
      refine XW.goto 4 dX4_setOf_23 (by decide) ?_
      refine XW.eqs (L' := [some (.ref 53), some (.int xn), some (.int (rbF (Z.2.1 60) (k + 1))), some (.int (nI (k + 1)))]) (by rfl) rfl rfl ?_
      exact ih (k + 1) (by omega) (by omega)
set_option maxHeartbeats 400000 in
set_option maxRecDepth 100000 in
theorem k_setOf {Z : xZ} {u : Nat} {xn : Int32} (hxn : xn = nI u) (u8 : u ≤ 8) : XC mX4_setOf 0 0 0 [.ref 53, .int xn] (HP Z) (fun r h' => r = some (.int (rbF (Z.2.1 60) u)) ∧ h' = HP Z) := by
  show XW mX4_setOf 0 0 0 0 [some (.ref 53), some (.int xn), none, none] [] (HP Z) _
  refine XW.iconst 1 dX4_setOf_0 (v := 0) (by decide) rfl ?_
  refine XW.istore_n 2 (L' := [some (.ref 53), some (.int xn), some (.int 0), none]) dX4_setOf_1 (by decide) rfl rfl rfl ?_
  refine XW.iconst 3 dX4_setOf_2 (v := 0) (by decide) rfl ?_
  refine XW.istore_n 4 (L' := [some (.ref 53), some (.int xn), some (.int 0), some (.int 0)]) dX4_setOf_3 (by decide) rfl rfl rfl ?_
  refine XW.eqs (L' := [some (.ref 53), some (.int xn), some (.int (rbF (Z.2.1 60) 0)), some (.int (nI 0))]) (by rfl) rfl rfl ?_
  exact l_setOf hxn u8 (u + 1) 0 (by omega) (by omega)
set_option maxHeartbeats 400000 in
set_option maxRecDepth 100000 in
theorem l_next2 {Z : xZ} {c l : Nat} (mi : MI (Z.2.1 54) c l) {u : Nat} {xn : Int32} (hxn : xn = nI u) (u1 : 1 ≤ u) (u8 : u ≤ 8) (hS : rowOK (Z.2.1 60) u c) (hv : VR u c (rv (Z.2.1 60))) {k : Nat} (ku : k < u) (hk1 : rv (Z.2.1 60) k + u < c + k) (hk2 : ∀ j, k < j → j < u → rv (Z.2.1 60) j + u = c + j) : ∀ (n : Nat) (m : Nat) (T : Nat → Int32), m ≤ u → u < m + n → k < m → NX k (rv (Z.2.1 60) k) m (Z.2.1 60) T → XW mX4_isNext 0 0 0 53 [some (.ref 53), some (.int xn), some (.int (nI k)), some (.int (nI m))] [] (HP (sA Z 60 T)) (fun r h' => ∃ nb S2, r = some (.int (b2i nb)) ∧ h' = HP (sA Z 60 S2) ∧ (nb = false → ∀ j, j < u → rv (Z.2.1 60) j + u = c + j) ∧ (nb = true → NXT u c (rv (Z.2.1 60)) S2 (Z.2.1 60))) := by
  intro n
  induction n with
  | zero => intro m T g0 g1 g2 g3; omega
  | succ n ih =>
    intro m T g0 g1 g2 g3
    obtain ⟨hc, c20, hl, l8, ok, hf, hdi, hfb⟩ := id mi
    refine XW.iload_n 54 dX4_isNext_53 rfl rfl ?_
    refine XW.iload_n 55 dX4_isNext_54 rfl rfl ?_
    refine XW.icmp_geN 80 58 m u dX4_isNext_55 (by decide) rfl rfl hxn (by omega) (by omega) (fun c_55 => ?_) (fun c_55 => ?_)
    · refine XW.iconst 81 dX4_isNext_80 (v := 1) (by decide) rfl ?_
      exact XW.iret dX4_isNext_81 rfl (⟨true, T, rfl, rfl, fun h => absurd h (by decide), fun _ => ⟨k, ku, hk1, hk2, g3.1, fun i hi => g3.2 i (by omega)⟩⟩)
    · refine XW.aload_n 59 dX4_isNext_58 rfl rfl ?_
      refine XW.getf 62 (v := .ref 60) f4_29 dX4_isNext_59 rfl rfl rfl ?_
      refine XW.iload_n 63 dX4_isNext_62 rfl rfl ?_
      refine XW.aload_n 64 dX4_isNext_63 rfl rfl ?_
      refine XW.getf 67 (v := .ref 60) f4_29 dX4_isNext_64 rfl rfl rfl ?_
      refine XW.iload_n 68 dX4_isNext_67 rfl rfl ?_
      refine XW.iconst 69 dX4_isNext_68 (v := 1) (by decide) rfl ?_
      refine XW.isub 70 dX4_isNext_69 rfl ?_
      refine XW.iald 71 (m - 1) dX4_isNext_70 rfl (ns rfl rfl (by omega)) (by omega) (by decide) rfl ?_
      refine XW.iconst 72 dX4_isNext_71 (v := 1) (by decide) rfl ?_
      refine XW.iadd 73 dX4_isNext_72 rfl ?_
      refine XW.iast 74 (h' := HP (sA (sA Z 60 T) 60 (upd T m ((T (m - 1)) + 1)))) m dX4_isNext_73 rfl rfl (by omega) (by decide) rfl rfl ?_
      refine XW.iinc 77 (y := nI (m + 1)) (L' := [some (.ref 53), some (.int xn), some (.int (nI k)), some (.int (nI (m + 1)))]) dX4_isNext_74 rfl (na rfl rfl) (by decide) rfl rfl rfl ?_
      refine XW.goto 53 dX4_isNext_77 (by decide) ?_
      exact ih (m + 1) _ (by omega) (by omega) (by omega) (g3.step g2 (na (g3.at g2) rfl))
set_option maxHeartbeats 400000 in
set_option maxRecDepth 100000 in
theorem l_next_s {Z : xZ} {c l : Nat} (mi : MI (Z.2.1 54) c l) {u : Nat} {xn : Int32} (hxn : xn = nI u) (u1 : 1 ≤ u) (u8 : u ≤ 8) (hS : rowOK (Z.2.1 60) u c) (hv : VR u c (rv (Z.2.1 60))) {k : Nat} (ku : k < u) (hk2 : ∀ j, k < j → j < u → rv (Z.2.1 60) j + u = c + j) (KK : ∀ x, x = nI k - 1 → (∀ j, k ≤ j → j < u → rv (Z.2.1 60) j + u = c + j) → XW mX4_isNext 0 0 0 4 [some (.ref 53), some (.int xn), some (.int x), none] [] (HP Z) (fun r h' => ∃ nb S2, r = some (.int (b2i nb)) ∧ h' = HP (sA Z 60 S2) ∧ (nb = false → ∀ j, j < u → rv (Z.2.1 60) j + u = c + j) ∧ (nb = true → NXT u c (rv (Z.2.1 60)) S2 (Z.2.1 60)))) : XW mX4_isNext 0 0 0 4 [some (.ref 53), some (.int xn), some (.int (nI k)), none] [] (HP Z) (fun r h' => ∃ nb S2, r = some (.int (b2i nb)) ∧ h' = HP (sA Z 60 S2) ∧ (nb = false → ∀ j, j < u → rv (Z.2.1 60) j + u = c + j) ∧ (nb = true → NXT u c (rv (Z.2.1 60)) S2 (Z.2.1 60))) := by
  obtain ⟨hc, c20, hl, l8, ok, hf, hdi, hfb⟩ := id mi
  have huc : u ≤ c := by have := hv.le (k := 0) (by omega); omega
  have hle := hv.le ku
  refine XW.iload_n 5 dX4_isNext_4 rfl rfl ?_
  refine XW.if_lt 33 8 dX4_isNext_5 (by decide) rfl (fun c_5 => ?_) (fun c_5 => ?_)
  · exact absurd c_5 (nI_pos (by omega))
  · refine XW.aload_n 9 dX4_isNext_8 rfl rfl ?_
    refine XW.getf 12 (v := .ref 60) f4_29 dX4_isNext_9 rfl rfl rfl ?_
    refine XW.iload_n 13 dX4_isNext_12 rfl rfl ?_
    have hvk := (hS k (by omega)).2
    refine XW.iald 14 k dX4_isNext_13 rfl rfl (by omega) (by decide) rfl ?_
    refine XW.aload_n 15 dX4_isNext_14 rfl rfl ?_
    refine XW.getf 18 (v := .ref 54) f4_7 dX4_isNext_15 rfl rfl rfl ?_
    refine XW.iconst 19 dX4_isNext_18 (v := 0) (by decide) rfl ?_
    refine XW.iald 20 0 dX4_isNext_19 rfl rfl (by omega) (by decide) rfl ?_
    refine XW.iload_n 21 dX4_isNext_20 rfl rfl ?_
    refine XW.isub 22 dX4_isNext_21 rfl ?_
    refine XW.iload_n 23 dX4_isNext_22 rfl rfl ?_
    refine XW.iadd 24 dX4_isNext_23 rfl ?_
    refine XW.icmp_neN 33 27 (rv (Z.2.1 60) k) ((c - u) + k) dX4_isNext_24 (by decide) rfl (hS k (by omega)).1 (na (ns hc hxn huc) rfl) (by omega) (by omega) (fun c_24 => ?_) (fun c_24 => ?_)
    · refine XW.iload_n 34 dX4_isNext_33 rfl rfl ?_
      refine XW.if_ge 39 37 dX4_isNext_34 (by decide) rfl (fun c_34 => ?_) (fun c_34 => ?_)
      · refine XW.aload_n 40 dX4_isNext_39 rfl rfl ?_
        refine XW.getf 43 (v := .ref 60) f4_29 dX4_isNext_40 rfl rfl rfl ?_
        refine XW.iload_n 44 dX4_isNext_43 rfl rfl ?_
        refine XW.dup2 45 dX4_isNext_44 rfl rfl rfl ?_
        refine XW.iald 46 k dX4_isNext_45 rfl rfl (by omega) (by decide) rfl ?_
        refine XW.iconst 47 dX4_isNext_46 (v := 1) (by decide) rfl ?_
        refine XW.iadd 48 dX4_isNext_47 rfl ?_
        refine XW.iast 49 (h' := HP (sA Z 60 (upd (Z.2.1 60) k ((Z.2.1 60 k) + 1)))) k dX4_isNext_48 rfl rfl (by omega) (by decide) rfl rfl ?_
        refine XW.iload_n 50 dX4_isNext_49 rfl rfl ?_
        refine XW.iconst 51 dX4_isNext_50 (v := 1) (by decide) rfl ?_
        refine XW.iadd 52 dX4_isNext_51 rfl ?_
        refine XW.istore_n 53 (L' := [some (.ref 53), some (.int xn), some (.int (nI k)), some (.int ((nI k) + 1))]) dX4_isNext_52 (by decide) rfl rfl rfl ?_
        refine XW.eqs (L' := [some (.ref 53), some (.int xn), some (.int (nI k)), some (.int (nI (k + 1)))]) (by rw [nI_succ]) rfl rfl ?_
        exact l_next2 mi hxn u1 u8 hS hv ku (by omega) hk2 (u + 1) (k + 1) _ (by omega) (by omega) (by omega) (NX.start (na (hS k (by omega)).1 rfl))
      · exact absurd (nI_pos' (by omega)) c_34
    · refine XW.iinc 30 (y := nI k + (-1)) (L' := [some (.ref 53), some (.int xn), some (.int (nI k + (-1))), none]) dX4_isNext_27 rfl rfl (by decide) rfl rfl rfl ?_
      refine XW.goto 4 dX4_isNext_30 (by decide) ?_
      exact KK _ (by rw [show nI k + (-1) = nI k - 1 from (Int32.sub_eq_add_neg ..).symm]) (fun j h1 h2 => by
        rcases Nat.lt_or_ge k j with q | q
        · exact hk2 j q h2
        · have : j = k := by omega
          subst this; omega)
set_option maxHeartbeats 400000 in
set_option maxRecDepth 100000 in
theorem l_next_z {Z : xZ} {c l : Nat} (mi : MI (Z.2.1 54) c l) {u : Nat} {xn : Int32} (hxn : xn = nI u) (u1 : 1 ≤ u) (u8 : u ≤ 8) (hS : rowOK (Z.2.1 60) u c) (hv : VR u c (rv (Z.2.1 60))) (hk2 : ∀ j, j < u → rv (Z.2.1 60) j + u = c + j) : XW mX4_isNext 0 0 0 4 [some (.ref 53), some (.int xn), some (.int (-1)), none] [] (HP Z) (fun r h' => ∃ nb S2, r = some (.int (b2i nb)) ∧ h' = HP (sA Z 60 S2) ∧ (nb = false → ∀ j, j < u → rv (Z.2.1 60) j + u = c + j) ∧ (nb = true → NXT u c (rv (Z.2.1 60)) S2 (Z.2.1 60))) := by
  obtain ⟨hc, c20, hl, l8, ok, hf, hdi, hfb⟩ := id mi
  refine XW.iload_n 5 dX4_isNext_4 rfl rfl ?_
  refine XW.if_lt 33 8 dX4_isNext_5 (by decide) rfl (fun c_5 => ?_) (fun c_5 => ?_)
  · refine XW.iload_n 34 dX4_isNext_33 rfl rfl ?_
    refine XW.if_ge 39 37 dX4_isNext_34 (by decide) rfl (fun c_34 => ?_) (fun c_34 => ?_)
    · exact absurd c_34 (by decide)
    · refine XW.iconst 38 dX4_isNext_37 (v := 0) (by decide) rfl ?_
      exact XW.iret dX4_isNext_38 rfl (⟨false, Z.2.1 60, rfl, by rw [sA_id], fun _ => hk2, fun h => absurd h (by decide)⟩)
  · exact absurd (by decide) c_5
theorem l_next1 {Z : xZ} {c l : Nat} (mi : MI (Z.2.1 54) c l) {u : Nat} {xn : Int32} (hxn : xn = nI u) (u1 : 1 ≤ u) (u8 : u ≤ 8) (hS : rowOK (Z.2.1 60) u c) (hv : VR u c (rv (Z.2.1 60))) : ∀ (k : Nat) (x : Int32), x = nI k - 1 → k ≤ u → (∀ j, k ≤ j → j < u → rv (Z.2.1 60) j + u = c + j) → XW mX4_isNext 0 0 0 4 [some (.ref 53), some (.int xn), some (.int x), none] [] (HP Z) (fun r h' => ∃ nb S2, r = some (.int (b2i nb)) ∧ h' = HP (sA Z 60 S2) ∧ (nb = false → ∀ j, j < u → rv (Z.2.1 60) j + u = c + j) ∧ (nb = true → NXT u c (rv (Z.2.1 60)) S2 (Z.2.1 60)))
  | 0, x, hx, _, h => by
    have e : x = -1 := by rw [hx]; decide
    subst e
    exact l_next_z mi hxn u1 u8 hS hv (fun j hj => h j (by omega) hj)
  | k + 1, x, hx, hk, h => by
    have e : x = nI k := by rw [hx]; exact nI_pred k
    subst e
    exact l_next_s mi hxn u1 u8 hS hv (by omega) (fun j h1 h2 => h j (by omega) h2) (fun x hx h2 => l_next1 mi hxn u1 u8 hS hv k x hx (by omega) h2)
set_option maxHeartbeats 400000 in
set_option maxRecDepth 100000 in
theorem k_isNext {Z : xZ} {c l : Nat} (mi : MI (Z.2.1 54) c l) {u : Nat} {xn : Int32} (hxn : xn = nI u) (u1 : 1 ≤ u) (u8 : u ≤ 8) (hS : rowOK (Z.2.1 60) u c) (hv : VR u c (rv (Z.2.1 60))) : XC mX4_isNext 0 0 0 [.ref 53, .int xn] (HP Z) (fun r h' => ∃ nb S2, r = some (.int (b2i nb)) ∧ h' = HP (sA Z 60 S2) ∧ (nb = false → ∀ j, j < u → rv (Z.2.1 60) j + u = c + j) ∧ (nb = true → NXT u c (rv (Z.2.1 60)) S2 (Z.2.1 60))) := by
  show XW mX4_isNext 0 0 0 0 [some (.ref 53), some (.int xn), none, none] [] (HP Z) _
  obtain ⟨hc, c20, hl, l8, ok, hf, hdi, hfb⟩ := id mi
  refine XW.iload_n 1 dX4_isNext_0 rfl rfl ?_
  refine XW.iconst 2 dX4_isNext_1 (v := 1) (by decide) rfl ?_
  refine XW.isub 3 dX4_isNext_2 rfl ?_
  refine XW.istore_n 4 (L' := [some (.ref 53), some (.int xn), some (.int (xn - 1)), none]) dX4_isNext_3 (by decide) rfl rfl rfl ?_
  exact l_next1 mi hxn u1 u8 hS hv u _ (by rw [hxn]) (by omega) (fun j h1 h2 => absurd h2 (by omega))
set_option maxHeartbeats 400000 in
set_option maxRecDepth 100000 in
theorem l_best_e {Z : xZ} {c l : Nat} (mi : MI (Z.2.1 54) c l) {u : Nat} {xn : Int32} (hxn : xn = nI u) (u1 : 1 ≤ u) (u4 : u ≤ 4) {G : Nat → UInt32} {S : Nat → Int32} {b : Int32} {m m2 : UInt32} (ha : ARG (apG (nE (Z.2.1 54)) (nR (Z.2.1 54))) ((fbF (nR (Z.2.1 54)) (nG (Z.2.1 54)) (nL (Z.2.1 54)) c) ||| Z.2.1 54 61) (Z.2.1 54 61) (VA u c) b m2) : XW mX4_bestOf 5 0 0 49 [some (.ref 53), some (.int xn), some (.int b), some (.float m), some (.int 0), none, none, none] [] (HP (sA (sF (sI Z 53 8 (fbF (nR (Z.2.1 54)) (nG (Z.2.1 54)) (nL (Z.2.1 54)) c)) 59 G) 60 S)) (fun r h' => (∃ b m, r = some (.int b) ∧ ARG (apG (nE (Z.2.1 54)) (nR (Z.2.1 54))) ((fbF (nR (Z.2.1 54)) (nG (Z.2.1 54)) (nL (Z.2.1 54)) c) ||| Z.2.1 54 61) (Z.2.1 54 61) (VA u c) b m) ∧ ∃ G S, h' = HP (sA (sF (sI Z 53 8 (fbF (nR (Z.2.1 54)) (nG (Z.2.1 54)) (nL (Z.2.1 54)) c)) 59 G) 60 S)) := by
  obtain ⟨hc, c20, hl, l8, ok, hf, hdi, hfb⟩ := id mi
  refine XW.iload 51 dX4_bestOf_49 rfl rfl ?_
  refine XW.if_eq 156 54 dX4_bestOf_51 (by decide) rfl (fun c_51 => ?_) (fun c_51 => ?_)
  · refine XW.iload_n 157 dX4_bestOf_156 rfl rfl ?_
    exact XW.iret dX4_bestOf_157 rfl (⟨⟨b, m2, rfl, ha⟩, G, S, rfl⟩)
  · exact absurd c_51 (by decide)
set_option maxHeartbeats 400000 in
set_option maxRecDepth 100000 in
theorem l_best49 {Z : xZ} {c l : Nat} (mi : MI (Z.2.1 54) c l) {u : Nat} {xn : Int32} (hxn : xn = nI u) (u1 : 1 ≤ u) (u4 : u ≤ 4) {G : Nat → UInt32} (hG : gapOK G (nE (Z.2.1 54)) (nR (Z.2.1 54)) c) : ∀ (n : Nat) (e : Nat) (b : Int32) (m : UInt32) (S : Nat → Int32), e ≤ 1048576 → 1048576 < e + n → e = enc (rv S) u → rowOK S u c → VR u c (rv S) → NF m → ARG (apG (nE (Z.2.1 54)) (nR (Z.2.1 54))) ((fbF (nR (Z.2.1 54)) (nG (Z.2.1 54)) (nL (Z.2.1 54)) c) ||| Z.2.1 54 61) (Z.2.1 54 61) (VL u c (rv S)) b m → XW mX4_bestOf 5 0 0 49 [some (.ref 53), some (.int xn), some (.int b), some (.float m), some (.int 1), none, none, none] [] (HP (sA (sF (sI Z 53 8 (fbF (nR (Z.2.1 54)) (nG (Z.2.1 54)) (nL (Z.2.1 54)) c)) 59 G) 60 S)) (fun r h' => (∃ b m, r = some (.int b) ∧ ARG (apG (nE (Z.2.1 54)) (nR (Z.2.1 54))) ((fbF (nR (Z.2.1 54)) (nG (Z.2.1 54)) (nL (Z.2.1 54)) c) ||| Z.2.1 54 61) (Z.2.1 54 61) (VA u c) b m) ∧ ∃ G S, h' = HP (sA (sF (sI Z 53 8 (fbF (nR (Z.2.1 54)) (nG (Z.2.1 54)) (nL (Z.2.1 54)) c)) 59 G) 60 S)) := by
  intro n
  induction n with
  | zero => intro e b m S g0 g1 g2 g3 g4 g5 g6; omega
  | succ n ih =>
    intro e b m S g0 g1 g2 g3 g4 g5 g6
    obtain ⟨hc, c20, hl, l8, ok, hf, hdi, hfb⟩ := id mi
    have hS := g3
    have hv := g4
    have hNm := g5
    have ha := g6
    have s20 : sN (rv S) u < 2 ^ 20 := Nat.lt_of_lt_of_le (sN_lt u c hv) (Nat.pow_le_pow_right (by decide) c20)
    have hown := own_sN (ap := (apG (nE (Z.2.1 54)) (nR (Z.2.1 54)))) hv u4 c20
    have hNo : NF (ownF (apG (nE (Z.2.1 54)) (nR (Z.2.1 54))) (nI (sN (rv S) u))) := by rw [hown]; exact lsV_NF (rowNF (ok_cut ok) hS c20)
    refine XW.iload 51 dX4_bestOf_49 rfl rfl ?_
    refine XW.if_eq 156 54 dX4_bestOf_51 (by decide) rfl (fun c_51 => ?_) (fun c_51 => ?_)
    · exact absurd c_51 (by decide)
    · refine XW.aload_n 55 dX4_bestOf_54 rfl rfl ?_
      refine XW.iload_n 56 dX4_bestOf_55 rfl rfl ?_
      refine XW.callV 59 (vs := [.int xn]) (rest := []) (mcr := 0) (msr := 0) c4_180 dX4_bestOf_56 rfl rfl (by decide) (Nat.le_of_ble_eq_true rfl) rfl rfl (Nat.le_of_ble_eq_true rfl) rfl (k_setOf (Z := sA (sF (sI Z 53 8 (fbF (nR (Z.2.1 54)) (nG (Z.2.1 54)) (nL (Z.2.1 54)) c)) 59 G) 60 S) hxn (by omega)) (fun r h1 hq => ?_)
      obtain ⟨rfl, rfl⟩ := hq
      refine XW.eqs (st' := [.int (nI (sN (rv S) u))]) rfl (by rw [← rb_sN hS hv c20]; rfl) rfl ?_
      refine XW.eqs (st' := [.int (nI (sN (rv S) u))]) rfl rfl rfl ?_
      refine XW.istore 61 (L' := [some (.ref 53), some (.int xn), some (.int b), some (.float m), some (.int 1), some (.int (nI (sN (rv S) u))), none, none]) dX4_bestOf_59 (by decide) rfl rfl rfl ?_
      refine XW.aload_n 62 dX4_bestOf_61 rfl rfl ?_
      refine XW.getf 65 (v := .ref 54) f4_7 dX4_bestOf_62 rfl rfl rfl ?_
      refine XW.bipush 67 dX4_bestOf_65 (v := 61) (by decide) rfl ?_
      refine XW.iald 68 61 dX4_bestOf_67 rfl rfl (by omega) (by decide) rfl ?_
      refine XW.iload 70 dX4_bestOf_68 rfl rfl ?_
      refine XW.iconst 71 dX4_bestOf_70 (v := -1) (by decide) rfl ?_
      refine XW.ixor 72 dX4_bestOf_71 rfl ?_
      refine XW.iand 73 dX4_bestOf_72 rfl ?_
      refine XW.if_ne 100 76 dX4_bestOf_73 (by decide) rfl (fun c_73 => ?_) (fun c_73 => ?_)
      · have hmay : maySet ((fbF (nR (Z.2.1 54)) (nG (Z.2.1 54)) (nL (Z.2.1 54)) c) ||| Z.2.1 54 61) (Z.2.1 54 61) (nI (sN (rv S) u)) = false := decide_eq_false (fun q => c_73 q.2)
        refine XW.iconst 101 dX4_bestOf_100 (v := 0) (by decide) rfl ?_
        refine XW.istore 103 (L' := [some (.ref 53), some (.int xn), some (.int b), some (.float m), some (.int 1), some (.int (nI (sN (rv S) u))), some (.int 0), none]) dX4_bestOf_101 (by decide) rfl rfl rfl ?_
        refine XW.aload_n 104 dX4_bestOf_103 rfl rfl ?_
        refine XW.iload_n 105 dX4_bestOf_104 rfl rfl ?_
        refine XW.callV 108 (vs := [.int xn]) (rest := []) (mcr := 0) (msr := 0) c4_164 dX4_bestOf_105 rfl rfl (by decide) (Nat.le_of_ble_eq_true rfl) rfl rfl (Nat.le_of_ble_eq_true rfl) rfl (k_leastOf (Z := sA (sF (sI Z 53 8 (fbF (nR (Z.2.1 54)) (nG (Z.2.1 54)) (nL (Z.2.1 54)) c)) 59 G) 60 S) mi hxn (by omega) hS (VR_di hv) hG) (fun r h1 hq => ?_)
        obtain ⟨rfl, rfl⟩ := hq
        refine XW.eqs (st' := [.float (ownF (apG (nE (Z.2.1 54)) (nR (Z.2.1 54))) (nI (sN (rv S) u)))]) rfl (by rw [hown]; rfl) rfl ?_
        refine XW.eqs (st' := [.float (ownF (apG (nE (Z.2.1 54)) (nR (Z.2.1 54))) (nI (sN (rv S) u)))]) rfl rfl rfl ?_
        refine XW.fstore 110 (L' := [some (.ref 53), some (.int xn), some (.int b), some (.float m), some (.int 1), some (.int (nI (sN (rv S) u))), some (.int 0), some (.float (ownF (apG (nE (Z.2.1 54)) (nR (Z.2.1 54))) (nI (sN (rv S) u))))]) dX4_bestOf_108 (by decide) rfl rfl rfl ?_
        refine XW.iload 112 dX4_bestOf_110 rfl rfl ?_
        refine XW.if_eq 146 115 dX4_bestOf_112 (by decide) rfl (fun c_112 => ?_) (fun c_112 => ?_)
        · refine XW.aload_n 147 dX4_bestOf_146 rfl rfl ?_
          refine XW.iload_n 148 dX4_bestOf_147 rfl rfl ?_
          refine XW.callV 151 (vs := [.int xn]) (rest := []) (mcr := 0) (msr := 0) c4_183 dX4_bestOf_148 rfl rfl (by decide) (Nat.le_of_ble_eq_true rfl) rfl rfl (Nat.le_of_ble_eq_true rfl) rfl (k_isNext (Z := sA (sF (sI Z 53 8 (fbF (nR (Z.2.1 54)) (nG (Z.2.1 54)) (nL (Z.2.1 54)) c)) 59 G) 60 S) mi hxn u1 (by omega) hS hv) (fun r h1 hq => ?_)
          obtain ⟨nb, S2, rfl, rfl, hn1, hn2⟩ := hq
          refine XW.eqs (st' := [.int (b2i nb)]) rfl rfl rfl ?_
          refine XW.istore 153 (L' := [some (.ref 53), some (.int xn), some (.int b), some (.float m), some (.int (b2i nb)), some (.int (nI (sN (rv S) u))), some (.int 0), some (.float (ownF (apG (nE (Z.2.1 54)) (nR (Z.2.1 54))) (nI (sN (rv S) u))))]) dX4_bestOf_151 (by decide) rfl rfl rfl ?_
          refine XW.goto 49 dX4_bestOf_153 (by decide) ?_
          have ha2 := ha.skip s20 hmay
          refine XW.weak [true, true, true, true, true, false, false, false] (L' := [some (.ref 53), some (.int xn), some (.int b), some (.float m), some (.int (b2i nb)), none, none, none]) rfl ?_
          cases nb with
          | false => exact l_best_e mi hxn u1 u4 (ha2.iff (fun x => (VL_top hv (hn1 rfl)).symm))
          | true =>
            obtain ⟨hS2, hv2, hl2, hi2⟩ := NXT.go hS hv c20 (hn2 rfl)
            exact ih (enc (rv S2) u) _ _ S2 (enc_2 hv2 c20 u4) (by omega) rfl hS2 hv2 hNm (ha2.iff (fun x => (hi2 x).symm))
        · exact absurd c_112 (by decide)
      · refine XW.iload 78 dX4_bestOf_76 rfl rfl ?_
        refine XW.aload_n 79 dX4_bestOf_78 rfl rfl ?_
        refine XW.getf 82 (v := .ref 54) f4_7 dX4_bestOf_79 rfl rfl rfl ?_
        refine XW.bipush 84 dX4_bestOf_82 (v := 61) (by decide) rfl ?_
        refine XW.iald 85 61 dX4_bestOf_84 rfl rfl (by omega) (by decide) rfl ?_
        refine XW.aload_n 86 dX4_bestOf_85 rfl rfl ?_
        refine XW.getf 89 (v := .int (fbF (nR (Z.2.1 54)) (nG (Z.2.1 54)) (nL (Z.2.1 54)) c)) f4_133 dX4_bestOf_86 rfl rfl rfl ?_
        refine XW.ior 90 dX4_bestOf_89 rfl ?_
        refine XW.iconst 91 dX4_bestOf_90 (v := -1) (by decide) rfl ?_
        refine XW.ixor 92 dX4_bestOf_91 rfl ?_
        refine XW.iand 93 dX4_bestOf_92 rfl ?_
        refine XW.if_ne 100 96 dX4_bestOf_93 (by decide) rfl (fun c_93 => ?_) (fun c_93 => ?_)
        · have hmay : maySet ((fbF (nR (Z.2.1 54)) (nG (Z.2.1 54)) (nL (Z.2.1 54)) c) ||| Z.2.1 54 61) (Z.2.1 54 61) (nI (sN (rv S) u)) = false := decide_eq_false (fun q => c_93 (by rw [Int32.or_comm]; exact q.1))
          refine XW.iconst 101 dX4_bestOf_100 (v := 0) (by decide) rfl ?_
          refine XW.istore 103 (L' := [some (.ref 53), some (.int xn), some (.int b), some (.float m), some (.int 1), some (.int (nI (sN (rv S) u))), some (.int 0), none]) dX4_bestOf_101 (by decide) rfl rfl rfl ?_
          refine XW.aload_n 104 dX4_bestOf_103 rfl rfl ?_
          refine XW.iload_n 105 dX4_bestOf_104 rfl rfl ?_
          refine XW.callV 108 (vs := [.int xn]) (rest := []) (mcr := 0) (msr := 0) c4_164 dX4_bestOf_105 rfl rfl (by decide) (Nat.le_of_ble_eq_true rfl) rfl rfl (Nat.le_of_ble_eq_true rfl) rfl (k_leastOf (Z := sA (sF (sI Z 53 8 (fbF (nR (Z.2.1 54)) (nG (Z.2.1 54)) (nL (Z.2.1 54)) c)) 59 G) 60 S) mi hxn (by omega) hS (VR_di hv) hG) (fun r h1 hq => ?_)
          obtain ⟨rfl, rfl⟩ := hq
          refine XW.eqs (st' := [.float (ownF (apG (nE (Z.2.1 54)) (nR (Z.2.1 54))) (nI (sN (rv S) u)))]) rfl (by rw [hown]; rfl) rfl ?_
          refine XW.eqs (st' := [.float (ownF (apG (nE (Z.2.1 54)) (nR (Z.2.1 54))) (nI (sN (rv S) u)))]) rfl rfl rfl ?_
          refine XW.fstore 110 (L' := [some (.ref 53), some (.int xn), some (.int b), some (.float m), some (.int 1), some (.int (nI (sN (rv S) u))), some (.int 0), some (.float (ownF (apG (nE (Z.2.1 54)) (nR (Z.2.1 54))) (nI (sN (rv S) u))))]) dX4_bestOf_108 (by decide) rfl rfl rfl ?_
          refine XW.iload 112 dX4_bestOf_110 rfl rfl ?_
          refine XW.if_eq 146 115 dX4_bestOf_112 (by decide) rfl (fun c_112 => ?_) (fun c_112 => ?_)
          · refine XW.aload_n 147 dX4_bestOf_146 rfl rfl ?_
            refine XW.iload_n 148 dX4_bestOf_147 rfl rfl ?_
            refine XW.callV 151 (vs := [.int xn]) (rest := []) (mcr := 0) (msr := 0) c4_183 dX4_bestOf_148 rfl rfl (by decide) (Nat.le_of_ble_eq_true rfl) rfl rfl (Nat.le_of_ble_eq_true rfl) rfl (k_isNext (Z := sA (sF (sI Z 53 8 (fbF (nR (Z.2.1 54)) (nG (Z.2.1 54)) (nL (Z.2.1 54)) c)) 59 G) 60 S) mi hxn u1 (by omega) hS hv) (fun r h1 hq => ?_)
            obtain ⟨nb, S2, rfl, rfl, hn1, hn2⟩ := hq
            refine XW.eqs (st' := [.int (b2i nb)]) rfl rfl rfl ?_
            refine XW.istore 153 (L' := [some (.ref 53), some (.int xn), some (.int b), some (.float m), some (.int (b2i nb)), some (.int (nI (sN (rv S) u))), some (.int 0), some (.float (ownF (apG (nE (Z.2.1 54)) (nR (Z.2.1 54))) (nI (sN (rv S) u))))]) dX4_bestOf_151 (by decide) rfl rfl rfl ?_
            refine XW.goto 49 dX4_bestOf_153 (by decide) ?_
            have ha2 := ha.skip s20 hmay
            refine XW.weak [true, true, true, true, true, false, false, false] (L' := [some (.ref 53), some (.int xn), some (.int b), some (.float m), some (.int (b2i nb)), none, none, none]) rfl ?_
            cases nb with
            | false => exact l_best_e mi hxn u1 u4 (ha2.iff (fun x => (VL_top hv (hn1 rfl)).symm))
            | true =>
              obtain ⟨hS2, hv2, hl2, hi2⟩ := NXT.go hS hv c20 (hn2 rfl)
              exact ih (enc (rv S2) u) _ _ S2 (enc_2 hv2 c20 u4) (by omega) rfl hS2 hv2 hNm (ha2.iff (fun x => (hi2 x).symm))
          · exact absurd c_112 (by decide)
        · have hmay : maySet ((fbF (nR (Z.2.1 54)) (nG (Z.2.1 54)) (nL (Z.2.1 54)) c) ||| Z.2.1 54 61) (Z.2.1 54 61) (nI (sN (rv S) u)) = true := decide_eq_true ⟨by rw [Int32.or_comm]; exact c_93, c_73⟩
          refine XW.iconst 97 dX4_bestOf_96 (v := 1) (by decide) rfl ?_
          refine XW.goto 101 dX4_bestOf_97 (by decide) ?_
          refine XW.istore 103 (L' := [some (.ref 53), some (.int xn), some (.int b), some (.float m), some (.int 1), some (.int (nI (sN (rv S) u))), some (.int 1), none]) dX4_bestOf_101 (by decide) rfl rfl rfl ?_
          refine XW.aload_n 104 dX4_bestOf_103 rfl rfl ?_
          refine XW.iload_n 105 dX4_bestOf_104 rfl rfl ?_
          refine XW.callV 108 (vs := [.int xn]) (rest := []) (mcr := 0) (msr := 0) c4_164 dX4_bestOf_105 rfl rfl (by decide) (Nat.le_of_ble_eq_true rfl) rfl rfl (Nat.le_of_ble_eq_true rfl) rfl (k_leastOf (Z := sA (sF (sI Z 53 8 (fbF (nR (Z.2.1 54)) (nG (Z.2.1 54)) (nL (Z.2.1 54)) c)) 59 G) 60 S) mi hxn (by omega) hS (VR_di hv) hG) (fun r h1 hq => ?_)
          obtain ⟨rfl, rfl⟩ := hq
          refine XW.eqs (st' := [.float (ownF (apG (nE (Z.2.1 54)) (nR (Z.2.1 54))) (nI (sN (rv S) u)))]) rfl (by rw [hown]; rfl) rfl ?_
          refine XW.eqs (st' := [.float (ownF (apG (nE (Z.2.1 54)) (nR (Z.2.1 54))) (nI (sN (rv S) u)))]) rfl rfl rfl ?_
          refine XW.fstore 110 (L' := [some (.ref 53), some (.int xn), some (.int b), some (.float m), some (.int 1), some (.int (nI (sN (rv S) u))), some (.int 1), some (.float (ownF (apG (nE (Z.2.1 54)) (nR (Z.2.1 54))) (nI (sN (rv S) u))))]) dX4_bestOf_108 (by decide) rfl rfl rfl ?_
          refine XW.iload 112 dX4_bestOf_110 rfl rfl ?_
          refine XW.if_eq 146 115 dX4_bestOf_112 (by decide) rfl (fun c_112 => ?_) (fun c_112 => ?_)
          · exact absurd c_112 (by decide)
          · refine XW.iload_n 116 dX4_bestOf_115 rfl rfl ?_
            refine XW.iconst 117 dX4_bestOf_116 (v := -1) (by decide) rfl ?_
            refine XW.icmp_eq 140 120 dX4_bestOf_117 (by decide) rfl (fun c_117 => ?_) (fun c_117 => ?_)
            · refine XW.iload 142 dX4_bestOf_140 rfl rfl ?_
              refine XW.istore_n 143 (L' := [some (.ref 53), some (.int xn), some (.int (nI (sN (rv S) u))), some (.float m), some (.int 1), some (.int (nI (sN (rv S) u))), some (.int 1), some (.float (ownF (apG (nE (Z.2.1 54)) (nR (Z.2.1 54))) (nI (sN (rv S) u))))]) dX4_bestOf_142 (by decide) rfl rfl rfl ?_
              refine XW.fload 145 dX4_bestOf_143 rfl rfl ?_
              refine XW.fstore_n 146 (L' := [some (.ref 53), some (.int xn), some (.int (nI (sN (rv S) u))), some (.float (ownF (apG (nE (Z.2.1 54)) (nR (Z.2.1 54))) (nI (sN (rv S) u)))), some (.int 1), some (.int (nI (sN (rv S) u))), some (.int 1), some (.float (ownF (apG (nE (Z.2.1 54)) (nR (Z.2.1 54))) (nI (sN (rv S) u))))]) dX4_bestOf_145 (by decide) rfl rfl rfl ?_
              refine XW.aload_n 147 dX4_bestOf_146 rfl rfl ?_
              refine XW.iload_n 148 dX4_bestOf_147 rfl rfl ?_
              refine XW.callV 151 (vs := [.int xn]) (rest := []) (mcr := 0) (msr := 0) c4_183 dX4_bestOf_148 rfl rfl (by decide) (Nat.le_of_ble_eq_true rfl) rfl rfl (Nat.le_of_ble_eq_true rfl) rfl (k_isNext (Z := sA (sF (sI Z 53 8 (fbF (nR (Z.2.1 54)) (nG (Z.2.1 54)) (nL (Z.2.1 54)) c)) 59 G) 60 S) mi hxn u1 (by omega) hS hv) (fun r h1 hq => ?_)
              obtain ⟨nb, S2, rfl, rfl, hn1, hn2⟩ := hq
              refine XW.eqs (st' := [.int (b2i nb)]) rfl rfl rfl ?_
              refine XW.istore 153 (L' := [some (.ref 53), some (.int xn), some (.int (nI (sN (rv S) u))), some (.float (ownF (apG (nE (Z.2.1 54)) (nR (Z.2.1 54))) (nI (sN (rv S) u)))), some (.int (b2i nb)), some (.int (nI (sN (rv S) u))), some (.int 1), some (.float (ownF (apG (nE (Z.2.1 54)) (nR (Z.2.1 54))) (nI (sN (rv S) u))))]) dX4_bestOf_151 (by decide) rfl rfl rfl ?_
              refine XW.goto 49 dX4_bestOf_153 (by decide) ?_
              have ha2 := ha.new s20 hmay (by first | exact Or.inl c_117 | exact Or.inr (Or.inl c_124) | exact Or.inr (Or.inr ⟨c_131, c_137⟩))
              refine XW.weak [true, true, true, true, true, false, false, false] (L' := [some (.ref 53), some (.int xn), some (.int (nI (sN (rv S) u))), some (.float (ownF (apG (nE (Z.2.1 54)) (nR (Z.2.1 54))) (nI (sN (rv S) u)))), some (.int (b2i nb)), none, none, none]) rfl ?_
              cases nb with
              | false => exact l_best_e mi hxn u1 u4 (ha2.iff (fun x => (VL_top hv (hn1 rfl)).symm))
              | true =>
                obtain ⟨hS2, hv2, hl2, hi2⟩ := NXT.go hS hv c20 (hn2 rfl)
                exact ih (enc (rv S2) u) _ _ S2 (enc_2 hv2 c20 u4) (by omega) rfl hS2 hv2 hNo (ha2.iff (fun x => (hi2 x).symm))
            · refine XW.fload 122 dX4_bestOf_120 rfl rfl ?_
              refine XW.fload_n 123 dX4_bestOf_122 rfl rfl ?_
              refine XW.fcmpU 124 dX4_bestOf_123 hNo hNm rfl ?_
              refine XW.if_gtU 140 127 dX4_bestOf_124 (by decide) rfl (fun c_124 => ?_) (fun c_124 => ?_)
              · refine XW.iload 142 dX4_bestOf_140 rfl rfl ?_
                refine XW.istore_n 143 (L' := [some (.ref 53), some (.int xn), some (.int (nI (sN (rv S) u))), some (.float m), some (.int 1), some (.int (nI (sN (rv S) u))), some (.int 1), some (.float (ownF (apG (nE (Z.2.1 54)) (nR (Z.2.1 54))) (nI (sN (rv S) u))))]) dX4_bestOf_142 (by decide) rfl rfl rfl ?_
                refine XW.fload 145 dX4_bestOf_143 rfl rfl ?_
                refine XW.fstore_n 146 (L' := [some (.ref 53), some (.int xn), some (.int (nI (sN (rv S) u))), some (.float (ownF (apG (nE (Z.2.1 54)) (nR (Z.2.1 54))) (nI (sN (rv S) u)))), some (.int 1), some (.int (nI (sN (rv S) u))), some (.int 1), some (.float (ownF (apG (nE (Z.2.1 54)) (nR (Z.2.1 54))) (nI (sN (rv S) u))))]) dX4_bestOf_145 (by decide) rfl rfl rfl ?_
                refine XW.aload_n 147 dX4_bestOf_146 rfl rfl ?_
                refine XW.iload_n 148 dX4_bestOf_147 rfl rfl ?_
                refine XW.callV 151 (vs := [.int xn]) (rest := []) (mcr := 0) (msr := 0) c4_183 dX4_bestOf_148 rfl rfl (by decide) (Nat.le_of_ble_eq_true rfl) rfl rfl (Nat.le_of_ble_eq_true rfl) rfl (k_isNext (Z := sA (sF (sI Z 53 8 (fbF (nR (Z.2.1 54)) (nG (Z.2.1 54)) (nL (Z.2.1 54)) c)) 59 G) 60 S) mi hxn u1 (by omega) hS hv) (fun r h1 hq => ?_)
                obtain ⟨nb, S2, rfl, rfl, hn1, hn2⟩ := hq
                refine XW.eqs (st' := [.int (b2i nb)]) rfl rfl rfl ?_
                refine XW.istore 153 (L' := [some (.ref 53), some (.int xn), some (.int (nI (sN (rv S) u))), some (.float (ownF (apG (nE (Z.2.1 54)) (nR (Z.2.1 54))) (nI (sN (rv S) u)))), some (.int (b2i nb)), some (.int (nI (sN (rv S) u))), some (.int 1), some (.float (ownF (apG (nE (Z.2.1 54)) (nR (Z.2.1 54))) (nI (sN (rv S) u))))]) dX4_bestOf_151 (by decide) rfl rfl rfl ?_
                refine XW.goto 49 dX4_bestOf_153 (by decide) ?_
                have ha2 := ha.new s20 hmay (by first | exact Or.inl c_117 | exact Or.inr (Or.inl c_124) | exact Or.inr (Or.inr ⟨c_131, c_137⟩))
                refine XW.weak [true, true, true, true, true, false, false, false] (L' := [some (.ref 53), some (.int xn), some (.int (nI (sN (rv S) u))), some (.float (ownF (apG (nE (Z.2.1 54)) (nR (Z.2.1 54))) (nI (sN (rv S) u)))), some (.int (b2i nb)), none, none, none]) rfl ?_
                cases nb with
                | false => exact l_best_e mi hxn u1 u4 (ha2.iff (fun x => (VL_top hv (hn1 rfl)).symm))
                | true =>
                  obtain ⟨hS2, hv2, hl2, hi2⟩ := NXT.go hS hv c20 (hn2 rfl)
                  exact ih (enc (rv S2) u) _ _ S2 (enc_2 hv2 c20 u4) (by omega) rfl hS2 hv2 hNo (ha2.iff (fun x => (hi2 x).symm))
              · refine XW.fload 129 dX4_bestOf_127 rfl rfl ?_
                refine XW.fload_n 130 dX4_bestOf_129 rfl rfl ?_
                refine XW.fcmpU 131 dX4_bestOf_130 hNo hNm rfl ?_
                refine XW.if_neU 146 134 dX4_bestOf_131 (by decide) rfl (fun c_131 => ?_) (fun c_131 => ?_)
                · refine XW.aload_n 147 dX4_bestOf_146 rfl rfl ?_
                  refine XW.iload_n 148 dX4_bestOf_147 rfl rfl ?_
                  refine XW.callV 151 (vs := [.int xn]) (rest := []) (mcr := 0) (msr := 0) c4_183 dX4_bestOf_148 rfl rfl (by decide) (Nat.le_of_ble_eq_true rfl) rfl rfl (Nat.le_of_ble_eq_true rfl) rfl (k_isNext (Z := sA (sF (sI Z 53 8 (fbF (nR (Z.2.1 54)) (nG (Z.2.1 54)) (nL (Z.2.1 54)) c)) 59 G) 60 S) mi hxn u1 (by omega) hS hv) (fun r h1 hq => ?_)
                  obtain ⟨nb, S2, rfl, rfl, hn1, hn2⟩ := hq
                  refine XW.eqs (st' := [.int (b2i nb)]) rfl rfl rfl ?_
                  refine XW.istore 153 (L' := [some (.ref 53), some (.int xn), some (.int b), some (.float m), some (.int (b2i nb)), some (.int (nI (sN (rv S) u))), some (.int 1), some (.float (ownF (apG (nE (Z.2.1 54)) (nR (Z.2.1 54))) (nI (sN (rv S) u))))]) dX4_bestOf_151 (by decide) rfl rfl rfl ?_
                  refine XW.goto 49 dX4_bestOf_153 (by decide) ?_
                  have ha2 := ha.keep s20 hmay c_117 c_124 (fun q => by first | exact absurd q c_131 | exact c_137)
                  refine XW.weak [true, true, true, true, true, false, false, false] (L' := [some (.ref 53), some (.int xn), some (.int b), some (.float m), some (.int (b2i nb)), none, none, none]) rfl ?_
                  cases nb with
                  | false => exact l_best_e mi hxn u1 u4 (ha2.iff (fun x => (VL_top hv (hn1 rfl)).symm))
                  | true =>
                    obtain ⟨hS2, hv2, hl2, hi2⟩ := NXT.go hS hv c20 (hn2 rfl)
                    exact ih (enc (rv S2) u) _ _ S2 (enc_2 hv2 c20 u4) (by omega) rfl hS2 hv2 hNm (ha2.iff (fun x => (hi2 x).symm))
                · refine XW.iload 136 dX4_bestOf_134 rfl rfl ?_
                  refine XW.iload_n 137 dX4_bestOf_136 rfl rfl ?_
                  refine XW.icmp_ge 146 140 dX4_bestOf_137 (by decide) rfl (fun c_137 => ?_) (fun c_137 => ?_)
                  · refine XW.aload_n 147 dX4_bestOf_146 rfl rfl ?_
                    refine XW.iload_n 148 dX4_bestOf_147 rfl rfl ?_
                    refine XW.callV 151 (vs := [.int xn]) (rest := []) (mcr := 0) (msr := 0) c4_183 dX4_bestOf_148 rfl rfl (by decide) (Nat.le_of_ble_eq_true rfl) rfl rfl (Nat.le_of_ble_eq_true rfl) rfl (k_isNext (Z := sA (sF (sI Z 53 8 (fbF (nR (Z.2.1 54)) (nG (Z.2.1 54)) (nL (Z.2.1 54)) c)) 59 G) 60 S) mi hxn u1 (by omega) hS hv) (fun r h1 hq => ?_)
                    obtain ⟨nb, S2, rfl, rfl, hn1, hn2⟩ := hq
                    refine XW.eqs (st' := [.int (b2i nb)]) rfl rfl rfl ?_
                    refine XW.istore 153 (L' := [some (.ref 53), some (.int xn), some (.int b), some (.float m), some (.int (b2i nb)), some (.int (nI (sN (rv S) u))), some (.int 1), some (.float (ownF (apG (nE (Z.2.1 54)) (nR (Z.2.1 54))) (nI (sN (rv S) u))))]) dX4_bestOf_151 (by decide) rfl rfl rfl ?_
                    refine XW.goto 49 dX4_bestOf_153 (by decide) ?_
                    have ha2 := ha.keep s20 hmay c_117 c_124 (fun q => by first | exact absurd q c_131 | exact c_137)
                    refine XW.weak [true, true, true, true, true, false, false, false] (L' := [some (.ref 53), some (.int xn), some (.int b), some (.float m), some (.int (b2i nb)), none, none, none]) rfl ?_
                    cases nb with
                    | false => exact l_best_e mi hxn u1 u4 (ha2.iff (fun x => (VL_top hv (hn1 rfl)).symm))
                    | true =>
                      obtain ⟨hS2, hv2, hl2, hi2⟩ := NXT.go hS hv c20 (hn2 rfl)
                      exact ih (enc (rv S2) u) _ _ S2 (enc_2 hv2 c20 u4) (by omega) rfl hS2 hv2 hNm (ha2.iff (fun x => (hi2 x).symm))
                  · refine XW.iload 142 dX4_bestOf_140 rfl rfl ?_
                    refine XW.istore_n 143 (L' := [some (.ref 53), some (.int xn), some (.int (nI (sN (rv S) u))), some (.float m), some (.int 1), some (.int (nI (sN (rv S) u))), some (.int 1), some (.float (ownF (apG (nE (Z.2.1 54)) (nR (Z.2.1 54))) (nI (sN (rv S) u))))]) dX4_bestOf_142 (by decide) rfl rfl rfl ?_
                    refine XW.fload 145 dX4_bestOf_143 rfl rfl ?_
                    refine XW.fstore_n 146 (L' := [some (.ref 53), some (.int xn), some (.int (nI (sN (rv S) u))), some (.float (ownF (apG (nE (Z.2.1 54)) (nR (Z.2.1 54))) (nI (sN (rv S) u)))), some (.int 1), some (.int (nI (sN (rv S) u))), some (.int 1), some (.float (ownF (apG (nE (Z.2.1 54)) (nR (Z.2.1 54))) (nI (sN (rv S) u))))]) dX4_bestOf_145 (by decide) rfl rfl rfl ?_
                    refine XW.aload_n 147 dX4_bestOf_146 rfl rfl ?_
                    refine XW.iload_n 148 dX4_bestOf_147 rfl rfl ?_
                    refine XW.callV 151 (vs := [.int xn]) (rest := []) (mcr := 0) (msr := 0) c4_183 dX4_bestOf_148 rfl rfl (by decide) (Nat.le_of_ble_eq_true rfl) rfl rfl (Nat.le_of_ble_eq_true rfl) rfl (k_isNext (Z := sA (sF (sI Z 53 8 (fbF (nR (Z.2.1 54)) (nG (Z.2.1 54)) (nL (Z.2.1 54)) c)) 59 G) 60 S) mi hxn u1 (by omega) hS hv) (fun r h1 hq => ?_)
                    obtain ⟨nb, S2, rfl, rfl, hn1, hn2⟩ := hq
                    refine XW.eqs (st' := [.int (b2i nb)]) rfl rfl rfl ?_
                    refine XW.istore 153 (L' := [some (.ref 53), some (.int xn), some (.int (nI (sN (rv S) u))), some (.float (ownF (apG (nE (Z.2.1 54)) (nR (Z.2.1 54))) (nI (sN (rv S) u)))), some (.int (b2i nb)), some (.int (nI (sN (rv S) u))), some (.int 1), some (.float (ownF (apG (nE (Z.2.1 54)) (nR (Z.2.1 54))) (nI (sN (rv S) u))))]) dX4_bestOf_151 (by decide) rfl rfl rfl ?_
                    refine XW.goto 49 dX4_bestOf_153 (by decide) ?_
                    have ha2 := ha.new s20 hmay (by first | exact Or.inl c_117 | exact Or.inr (Or.inl c_124) | exact Or.inr (Or.inr ⟨c_131, c_137⟩))
                    refine XW.weak [true, true, true, true, true, false, false, false] (L' := [some (.ref 53), some (.int xn), some (.int (nI (sN (rv S) u))), some (.float (ownF (apG (nE (Z.2.1 54)) (nR (Z.2.1 54))) (nI (sN (rv S) u)))), some (.int (b2i nb)), none, none, none]) rfl ?_
                    cases nb with
                    | false => exact l_best_e mi hxn u1 u4 (ha2.iff (fun x => (VL_top hv (hn1 rfl)).symm))
                    | true =>
                      obtain ⟨hS2, hv2, hl2, hi2⟩ := NXT.go hS hv c20 (hn2 rfl)
                      exact ih (enc (rv S2) u) _ _ S2 (enc_2 hv2 c20 u4) (by omega) rfl hS2 hv2 hNo (ha2.iff (fun x => (hi2 x).symm))
set_option maxHeartbeats 400000 in
set_option maxRecDepth 100000 in
theorem l_best11 {Z : xZ} {c l : Nat} (mi : MI (Z.2.1 54) c l) {u : Nat} {xn : Int32} (hxn : xn = nI u) (u1 : 1 ≤ u) (u4 : u ≤ 4) {G : Nat → UInt32} (hG : gapOK G (nE (Z.2.1 54)) (nR (Z.2.1 54)) c) : ∀ (n : Nat) (k : Nat) (S : Nat → Int32), k ≤ u → u < k + n → (∀ p, p < k → S p = nI p) → XW mX4_bestOf 5 0 0 11 [some (.ref 53), some (.int xn), some (.int (-1)), some (.float FP.fconst0), some (.int (nI k)), none, none, none] [] (HP (sA (sF (sI Z 53 8 (fbF (nR (Z.2.1 54)) (nG (Z.2.1 54)) (nL (Z.2.1 54)) c)) 59 G) 60 S)) (fun r h' => (∃ b m, r = some (.int b) ∧ ARG (apG (nE (Z.2.1 54)) (nR (Z.2.1 54))) ((fbF (nR (Z.2.1 54)) (nG (Z.2.1 54)) (nL (Z.2.1 54)) c) ||| Z.2.1 54 61) (Z.2.1 54 61) (VA u c) b m) ∧ ∃ G S, h' = HP (sA (sF (sI Z 53 8 (fbF (nR (Z.2.1 54)) (nG (Z.2.1 54)) (nL (Z.2.1 54)) c)) 59 G) 60 S)) := by
  intro n
  induction n with
  | zero => intro k S g0 g1 g2; omega
  | succ n ih =>
    intro k S g0 g1 g2
    obtain ⟨hc, c20, hl, l8, ok, hf, hdi, hfb⟩ := id mi
    refine XW.iload 13 dX4_bestOf_11 rfl rfl ?_
    refine XW.iload_n 14 dX4_bestOf_13 rfl rfl ?_
    refine XW.icmp_geN 32 17 k u dX4_bestOf_14 (by decide) rfl rfl hxn (by omega) (by omega) (fun c_14 => ?_) (fun c_14 => ?_)
    · refine XW.aload_n 33 dX4_bestOf_32 rfl rfl ?_
      refine XW.getf 36 (v := .ref 54) f4_7 dX4_bestOf_33 rfl rfl rfl ?_
      refine XW.iconst 37 dX4_bestOf_36 (v := 0) (by decide) rfl ?_
      refine XW.iald 38 0 dX4_bestOf_37 rfl rfl (by omega) (by decide) rfl ?_
      refine XW.iload_n 39 dX4_bestOf_38 rfl rfl ?_
      refine XW.icmp_ltN 46 42 c u dX4_bestOf_39 (by decide) rfl hc hxn (by omega) (by omega) (fun c_39 => ?_) (fun c_39 => ?_)
      · refine XW.iconst 47 dX4_bestOf_46 (v := 0) (by decide) rfl ?_
        refine XW.istore 49 (L' := [some (.ref 53), some (.int xn), some (.int (-1)), some (.float FP.fconst0), some (.int 0), none, none, none]) dX4_bestOf_47 (by decide) rfl rfl rfl ?_
        refine XW.eqs (L' := [some (.ref 53), some (.int xn), some (.int (-1)), some (.float FP.fconst0), some (.int 0), none, none, none]) rfl rfl rfl ?_
        exact l_best_e mi hxn u1 u4 (m2 := FP.fconst0) (ARG.none.iff (fun x => ⟨False.elim, fun h => VA_no (by omega) h⟩))
      · refine XW.iconst 43 dX4_bestOf_42 (v := 1) (by decide) rfl ?_
        refine XW.goto 47 dX4_bestOf_43 (by decide) ?_
        refine XW.istore 49 (L' := [some (.ref 53), some (.int xn), some (.int (-1)), some (.float FP.fconst0), some (.int 1), none, none, none]) dX4_bestOf_47 (by decide) rfl rfl rfl ?_
        exact l_best49 mi hxn u1 u4 hG 1048577 (enc (rv S) u) (-1) FP.fconst0 S (enc_2 (VR_id g2 (by omega) (by omega)) c20 u4) (by omega) rfl (row_id g2 (by omega) (by omega)) (VR_id g2 (by omega) (by omega)) NF_0 (ARG.none.iff (fun x => ⟨False.elim, fun h => VL_0 (rv_id g2 (by omega)) h⟩))
    · refine XW.aload_n 18 dX4_bestOf_17 rfl rfl ?_
      refine XW.getf 21 (v := .ref 60) f4_29 dX4_bestOf_18 rfl rfl rfl ?_
      refine XW.iload 23 dX4_bestOf_21 rfl rfl ?_
      refine XW.iload 25 dX4_bestOf_23 rfl rfl ?_
      refine XW.iast 26 (h' := HP (sA (sA (sF (sI Z 53 8 (fbF (nR (Z.2.1 54)) (nG (Z.2.1 54)) (nL (Z.2.1 54)) c)) 59 G) 60 S) 60 (upd S k (nI k)))) k dX4_bestOf_25 rfl rfl (by omega) (by decide) rfl rfl ?_
      refine XW.iinc 29 (y := nI (k + 1)) (L' := [some (.ref 53), some (.int xn), some (.int (-1)), some (.float FP.fconst0), some (.int (nI (k + 1))), none, none, none]) dX4_bestOf_26 rfl (na rfl rfl) (by decide) rfl rfl rfl ?_
      refine XW.goto 11 dX4_bestOf_29 (by decide) ?_
      exact ih (k + 1) _ (by omega) (by omega) (id_step g2)
set_option maxHeartbeats 400000 in
set_option maxRecDepth 100000 in
theorem k_bestOf {Z : xZ} {c l : Nat} (mi : MI (Z.2.1 54) c l) {u : Nat} {xn : Int32} (hxn : xn = nI u) (u1 : 1 ≤ u) (u4 : u ≤ 4) : XC mX4_bestOf 5 0 0 [.ref 53, .int xn] (HP Z) (fun r h' => (∃ b m, r = some (.int b) ∧ ARG (apG (nE (Z.2.1 54)) (nR (Z.2.1 54))) ((fbF (nR (Z.2.1 54)) (nG (Z.2.1 54)) (nL (Z.2.1 54)) c) ||| Z.2.1 54 61) (Z.2.1 54 61) (VA u c) b m) ∧ ∃ G S, h' = HP (sA (sF (sI Z 53 8 (fbF (nR (Z.2.1 54)) (nG (Z.2.1 54)) (nL (Z.2.1 54)) c)) 59 G) 60 S)) := by
  show XW mX4_bestOf 5 0 0 0 [some (.ref 53), some (.int xn), none, none, none, none, none, none] [] (HP Z) _
  obtain ⟨hc, c20, hl, l8, ok, hf, hdi, hfb⟩ := id mi
  refine XW.aload_n 1 dX4_bestOf_0 rfl rfl ?_
  refine XW.callV 4 (vs := []) (rest := []) (mcr := 0) (msr := 0) c4_142 dX4_bestOf_1 rfl rfl (by decide) (Nat.le_of_ble_eq_true rfl) rfl rfl (Nat.le_of_ble_eq_true rfl) rfl (k_laysFar mi) (fun r h1 hq => ?_)
  obtain ⟨rfl, G, hG, rfl⟩ := hq
  refine XW.iconst 5 dX4_bestOf_4 (v := -1) (by decide) rfl ?_
  refine XW.istore_n 6 (L' := [some (.ref 53), some (.int xn), some (.int (-1)), none, none, none, none, none]) dX4_bestOf_5 (by decide) rfl rfl rfl ?_
  refine XW.fconst0 7 dX4_bestOf_6 rfl ?_
  refine XW.fstore_n 8 (L' := [some (.ref 53), some (.int xn), some (.int (-1)), some (.float FP.fconst0), none, none, none, none]) dX4_bestOf_7 (by decide) rfl rfl rfl ?_
  refine XW.iconst 9 dX4_bestOf_8 (v := 0) (by decide) rfl ?_
  refine XW.istore 11 (L' := [some (.ref 53), some (.int xn), some (.int (-1)), some (.float FP.fconst0), some (.int 0), none, none, none]) dX4_bestOf_9 (by decide) rfl rfl rfl ?_
  refine XW.eqs (L' := [some (.ref 53), some (.int xn), some (.int (-1)), some (.float FP.fconst0), some (.int (nI 0)), none, none, none]) (h' := HP (sA (sF (sI Z 53 8 (fbF (nR (Z.2.1 54)) (nG (Z.2.1 54)) (nL (Z.2.1 54)) c)) 59 G) 60 (Z.2.1 60))) (by rfl) rfl (by rfl) ?_
  exact l_best11 mi hxn u1 u4 hG (u + 1) 0 (Z.2.1 60) (by omega) (by omega) (fun p hp => absurd hp (by omega))
set_option maxHeartbeats 400000 in
set_option maxRecDepth 100000 in
theorem u_best_bad {Z : xZ} {c l : Nat} (mi : MI (Z.2.1 54) c l) (x : Int32) (e : inF x 1 4 = false) : XC mX4_best 8 0 0 [.ref 53, .int x] (HP Z) (fun r h' => r = some (.int (-2)) ∧ h' = HP (rmZ Z 0)) := by
  show XW mX4_best 8 0 0 0 [some (.ref 53), some (.int x)] [] (HP Z) _
  obtain ⟨hc, c20, hl, l8, ok, hf, hdi, hfb⟩ := id mi
  refine XW.iload_n 1 dX4_best_0 rfl rfl ?_
  refine XW.iconst 2 dX4_best_1 (v := 1) (by decide) rfl ?_
  refine XW.iconst 3 dX4_best_2 (v := 4) (by decide) rfl ?_
  refine XW.callS 6 (vs := [.int x, .int 1, .int 4]) (rest := []) (mcr := 0) (msr := 0) c4_49 dX4_best_3 rfl (by decide) (Nat.le_of_ble_eq_true rfl) rfl rfl (Nat.le_of_ble_eq_true rfl) rfl (c_in_ _ _ _ _) (fun r h1 hq => ?_)
  obtain ⟨rfl, rfl⟩ := hq
  refine XW.if_eqB 17 9 dX4_best_6 (by decide) rfl (fun c_6 => ?_) (fun c_6 => ?_)
  · refine XW.aload_n 18 dX4_best_17 rfl rfl ?_
    refine XW.callV 21 (vs := []) (rest := []) (mcr := 0) (msr := 0) c4_68 dX4_best_18 rfl rfl (by decide) (Nat.le_of_ble_eq_true rfl) rfl rfl (Nat.le_of_ble_eq_true rfl) rfl k_bad (fun r h1 hq => ?_)
    obtain ⟨rfl, rfl⟩ := hq
    refine XW.eqs (st' := [.int (-2)]) rfl rfl rfl ?_
    exact XW.iret dX4_best_21 rfl (⟨rfl, rfl⟩)
  · rw [e] at c_6; cases c_6
set_option maxHeartbeats 400000 in
set_option maxRecDepth 100000 in
theorem u_best_ok {Z : xZ} {c l : Nat} (mi : MI (Z.2.1 54) c l) (x : Int32) {u : Nat} (hx : x = nI u) (u1 : 1 ≤ u) (u4 : u ≤ 4) (e : inF x 1 4 = true) : XC mX4_best 8 0 0 [.ref 53, .int x] (HP Z) (fun r h' => (∃ b m, r = some (.int b) ∧ ARG (apG (nE (Z.2.1 54)) (nR (Z.2.1 54))) ((fbF (nR (Z.2.1 54)) (nG (Z.2.1 54)) (nL (Z.2.1 54)) c) ||| Z.2.1 54 61) (Z.2.1 54 61) (VA u c) b m) ∧ ∃ G S, h' = HP (sA (sF (sI Z 53 8 (fbF (nR (Z.2.1 54)) (nG (Z.2.1 54)) (nL (Z.2.1 54)) c)) 59 G) 60 S)) := by
  show XW mX4_best 8 0 0 0 [some (.ref 53), some (.int x)] [] (HP Z) _
  obtain ⟨hc, c20, hl, l8, ok, hf, hdi, hfb⟩ := id mi
  refine XW.iload_n 1 dX4_best_0 rfl rfl ?_
  refine XW.iconst 2 dX4_best_1 (v := 1) (by decide) rfl ?_
  refine XW.iconst 3 dX4_best_2 (v := 4) (by decide) rfl ?_
  refine XW.callS 6 (vs := [.int x, .int 1, .int 4]) (rest := []) (mcr := 0) (msr := 0) c4_49 dX4_best_3 rfl (by decide) (Nat.le_of_ble_eq_true rfl) rfl rfl (Nat.le_of_ble_eq_true rfl) rfl (c_in_ _ _ _ _) (fun r h1 hq => ?_)
  obtain ⟨rfl, rfl⟩ := hq
  refine XW.if_eqB 17 9 dX4_best_6 (by decide) rfl (fun c_6 => ?_) (fun c_6 => ?_)
  · rw [e] at c_6; cases c_6
  · refine XW.aload_n 10 dX4_best_9 rfl rfl ?_
    refine XW.iload_n 11 dX4_best_10 rfl rfl ?_
    refine XW.callV 14 (vs := [.int x]) (rest := []) (mcr := 0) (msr := 0) c4_186 dX4_best_11 rfl rfl (by decide) (Nat.le_of_ble_eq_true rfl) rfl rfl (Nat.le_of_ble_eq_true rfl) rfl (k_bestOf mi hx u1 u4) (fun r h1 hq => ?_)
    obtain ⟨⟨b, m, rfl, hb⟩, G, S, rfl⟩ := hq
    refine XW.eqs (st' := [.int b]) rfl rfl rfl ?_
    refine XW.goto 21 dX4_best_14 (by decide) ?_
    exact XW.iret dX4_best_21 rfl (⟨⟨b, m, rfl, hb⟩, G, S, rfl⟩)
set_option maxHeartbeats 400000 in
set_option maxRecDepth 100000 in
theorem u_least {Z : xZ} {c l : Nat} (mi : MI (Z.2.1 54) c l)  : XC mX4_least 8 0 0 [.ref 53] (HP Z) (fun r h' => r = some (.int (lsV (apG (nE (Z.2.1 54)) (nR (Z.2.1 54))) (rv (mP (Z.2.1 54))) l).toInt32) ∧ ∃ G S, h' = HP (sA (sF (sI Z 53 8 (fbF (nR (Z.2.1 54)) (nG (Z.2.1 54)) (nL (Z.2.1 54)) c)) 59 G) 60 S)) := by
  show XW mX4_least 8 0 0 0 [some (.ref 53)] [] (HP Z) _
  obtain ⟨hc, c20, hl, l8, ok, hf, hdi, hfb⟩ := id mi
  refine XW.aload_n 1 dX4_least_0 rfl rfl ?_
  refine XW.callV 4 (vs := []) (rest := []) (mcr := 0) (msr := 0) c4_174 dX4_least_1 rfl rfl (by decide) (Nat.le_of_ble_eq_true rfl) rfl rfl (Nat.le_of_ble_eq_true rfl) rfl (k_leastNow mi) (fun r h1 hq => ?_)
  obtain ⟨rfl, G, S, rfl⟩ := hq
  exact XW.iret dX4_least_4 rfl (⟨rfl, G, S, rfl⟩)
set_option maxHeartbeats 400000 in
set_option maxRecDepth 100000 in
theorem u_nearest {Z : xZ} {c l : Nat} (mi : MI (Z.2.1 54) c l)  : XC mX4_nearest 8 0 0 [.ref 53] (HP Z) (fun r h' => r = some (.int (npO (apG (nE (Z.2.1 54)) (nR (Z.2.1 54))) (rv (mP (Z.2.1 54))) l l).1) ∧ ∃ G, h' = HP (sF (sI Z 53 8 (fbF (nR (Z.2.1 54)) (nG (Z.2.1 54)) (nL (Z.2.1 54)) c)) 59 G)) := by
  show XW mX4_nearest 8 0 0 0 [some (.ref 53)] [] (HP Z) _
  obtain ⟨hc, c20, hl, l8, ok, hf, hdi, hfb⟩ := id mi
  refine XW.aload_n 1 dX4_nearest_0 rfl rfl ?_
  refine XW.callV 4 (vs := []) (rest := []) (mcr := 0) (msr := 0) c4_177 dX4_nearest_1 rfl rfl (by decide) (Nat.le_of_ble_eq_true rfl) rfl rfl (Nat.le_of_ble_eq_true rfl) rfl (k_nearestNow mi) (fun r h1 hq => ?_)
  obtain ⟨rfl, G, rfl⟩ := hq
  exact XW.iret dX4_nearest_4 rfl (⟨rfl, G, rfl⟩)
