/-! How many bits: Integer.bitCount -/
theorem nI_and {a b : Nat} : nI a &&& nI b = nI (a &&& b) := by
  apply b_ext
  intro j hj
  have e : ∀ w, bt (nI w) j = w.testBit j := fun w => by
    unfold bt
    show (BitVec.ofNat 32 w).getLsbD j = _
    rw [BitVec.getLsbD_ofNat]; simp [hj]
  rw [b_and, e, e, e, Nat.testBit_and]
theorem and_nib (x m : Nat) : x &&& m = 16 * (x / 16 &&& m / 16) + (x % 16 &&& m % 16) := by
  have h1 : (x &&& m) / 2 ^ 4 = x / 2 ^ 4 &&& m / 2 ^ 4 := Nat.and_div_two_pow
  have h2 : (x &&& m) % 2 ^ 4 = (x % 2 ^ 4) &&& (m % 2 ^ 4) := Nat.and_mod_two_pow
  have h3 : (2 : Nat) ^ 4 = 16 := rfl
  rw [h3] at h1 h2
  rw [← h1, ← h2]
  omega
theorem and5 {x : Nat} (h : x < 1048576) (m : Nat) : x &&& m = (x % 16 &&& m % 16) + 16 * (x / 16 % 16 &&& m / 16 % 16) + 256 * (x / 256 % 16 &&& m / 256 % 16) + 4096 * (x / 4096 % 16 &&& m / 4096 % 16) + 65536 * (x / 65536 &&& m / 65536 % 16) := by
  have d : ∀ y, y / 16 / 16 = y / 256 := fun y => by omega
  have d2 : ∀ y, y / 256 / 16 = y / 4096 := fun y => by omega
  have d3 : ∀ y, y / 4096 / 16 = y / 65536 := fun y => by omega
  have e0 := and_nib x m
  have e1 := and_nib (x / 16) (m / 16)
  have e2 := and_nib (x / 256) (m / 256)
  have e3 := and_nib (x / 4096) (m / 4096)
  have e4 := and_nib (x / 65536) (m / 65536)
  rw [d, d] at e1
  rw [d2, d2] at e2
  rw [d3, d3] at e3
  rw [show x / 65536 / 16 = 0 by omega, Nat.zero_and, show x / 65536 % 16 = x / 65536 by omega] at e4
  rw [e0, e1, e2, e3, e4]
  clear e0 e1 e2 e3 e4 d d2 d3 h
  generalize (x % 16 &&& m % 16) = b0
  generalize (x / 16 % 16 &&& m / 16 % 16) = b1
  generalize (x / 256 % 16 &&& m / 256 % 16) = b2
  generalize (x / 4096 % 16 &&& m / 4096 % 16) = b3
  generalize (x / 65536 &&& m / 65536 % 16) = b4
  omega
def nib (n0 n1 n2 n3 n4 : Nat) : Nat := n0 + 16 * n1 + 256 * n2 + 4096 * n3 + 65536 * n4
theorem nib_and {n0 n1 n2 n3 n4 : Nat} (h0 : n0 < 16) (h1 : n1 < 16) (h2 : n2 < 16) (h3 : n3 < 16) (h4 : n4 < 16) (m : Nat) : nib n0 n1 n2 n3 n4 &&& m = nib (n0 &&& m % 16) (n1 &&& m / 16 % 16) (n2 &&& m / 256 % 16) (n3 &&& m / 4096 % 16) (n4 &&& m / 65536 % 16) := by
  have e : nib n0 n1 n2 n3 n4 % 16 = n0 ∧ nib n0 n1 n2 n3 n4 / 16 % 16 = n1 ∧ nib n0 n1 n2 n3 n4 / 256 % 16 = n2 ∧ nib n0 n1 n2 n3 n4 / 4096 % 16 = n3 ∧ nib n0 n1 n2 n3 n4 / 65536 = n4 := by
    unfold nib; refine ⟨?_, ?_, ?_, ?_, ?_⟩ <;> omega
  rw [and5 (by unfold nib; omega), e.1, e.2.1, e.2.2.1, e.2.2.2.1, e.2.2.2.2]
  rfl
theorem nb_1 : ∀ n, n < 16 → ∀ b, b < 2 → (n / 2 + 8 * b) &&& 5 = n / 2 &&& 5 := by decide +kernel
theorem nb_2 : ∀ n, n < 16 → ∀ b, b < 4 → (n / 4 + 4 * b) &&& 3 = n / 4 &&& 3 := by decide +kernel
theorem nb_3 : ∀ n, n < 16 → (n / 2 &&& 5) ≤ n ∧ (n - (n / 2 &&& 5)) < 16 := by decide +kernel
def pc4 (n : Nat) : Nat := (n.testBit 0).toNat + (n.testBit 1).toNat + (n.testBit 2).toNat + (n.testBit 3).toNat
theorem nb_4 : ∀ n, n < 16 → ((n - (n / 2 &&& 5)) &&& 3) + ((n - (n / 2 &&& 5)) / 4 &&& 3) = pc4 n := by decide +kernel
theorem nb_5 : ∀ n, n < 16 → pc4 n ≤ 4 := by decide +kernel
theorem nb_6 : ∀ n, n < 16 → n &&& 15 = n ∧ n &&& 0 = 0 := by decide +kernel
section Count
variable {n0 n1 n2 n3 n4 : Nat}
theorem bcn_1 (h0 : n0 < 16) (h1 : n1 < 16) (h2 : n2 < 16) (h3 : n3 < 16) (h4 : n4 < 16) : bc1 (nI (nib n0 n1 n2 n3 n4)) = nI (nib (n0 - (n0 / 2 &&& 5)) (n1 - (n1 / 2 &&& 5)) (n2 - (n2 / 2 &&& 5)) (n3 - (n3 / 2 &&& 5)) (n4 - (n4 / 2 &&& 5))) := by
  have hw : nib n0 n1 n2 n3 n4 < 2 ^ 20 := by unfold nib; omega
  unfold bc1
  rw [pk_ushrN (by omega) 1 1 (by decide), show (1431655765 : Int32) = nI 1431655765 from rfl, nI_and]
  have e : nib n0 n1 n2 n3 n4 / 2 ^ 1 = nib (n0 / 2 + 8 * (n1 % 2)) (n1 / 2 + 8 * (n2 % 2)) (n2 / 2 + 8 * (n3 % 2)) (n3 / 2 + 8 * (n4 % 2)) (n4 / 2 + 8 * 0) := by unfold nib; omega
  rw [e, nib_and (by omega) (by omega) (by omega) (by omega) (by omega)]
  simp only [Nat.reduceMod, Nat.reduceDiv]
  rw [nb_1 n0 h0 _ (by omega), nb_1 n1 h1 _ (by omega), nb_1 n2 h2 _ (by omega), nb_1 n3 h3 _ (by omega), nb_1 n4 h4 _ (by omega)]
  have a0 := (nb_3 n0 h0).1
  have a1 := (nb_3 n1 h1).1
  have a2 := (nb_3 n2 h2).1
  have a3 := (nb_3 n3 h3).1
  have a4 := (nb_3 n4 h4).1
  generalize (n0 / 2 &&& 5) = g0 at a0 ⊢
  generalize (n1 / 2 &&& 5) = g1 at a1 ⊢
  generalize (n2 / 2 &&& 5) = g2 at a2 ⊢
  generalize (n3 / 2 &&& 5) = g3 at a3 ⊢
  generalize (n4 / 2 &&& 5) = g4 at a4 ⊢
  rw [pk_sub (by unfold nib; omega)]
  congr 1
  unfold nib; omega
theorem bcn_2 (h0 : n0 < 16) (h1 : n1 < 16) (h2 : n2 < 16) (h3 : n3 < 16) (h4 : n4 < 16) : bc2 (nI (nib n0 n1 n2 n3 n4)) = nI (nib ((n0 &&& 3) + (n0 / 4 &&& 3)) ((n1 &&& 3) + (n1 / 4 &&& 3)) ((n2 &&& 3) + (n2 / 4 &&& 3)) ((n3 &&& 3) + (n3 / 4 &&& 3)) ((n4 &&& 3) + (n4 / 4 &&& 3))) := by
  have hw : nib n0 n1 n2 n3 n4 < 2 ^ 20 := by unfold nib; omega
  unfold bc2
  rw [pk_ushrN (by omega) 2 2 (by decide), show (858993459 : Int32) = nI 858993459 from rfl, nI_and, nI_and]
  have e : nib n0 n1 n2 n3 n4 / 2 ^ 2 = nib (n0 / 4 + 4 * (n1 % 4)) (n1 / 4 + 4 * (n2 % 4)) (n2 / 4 + 4 * (n3 % 4)) (n3 / 4 + 4 * (n4 % 4)) (n4 / 4 + 4 * 0) := by unfold nib; omega
  rw [e, nib_and h0 h1 h2 h3 h4, nib_and (by omega) (by omega) (by omega) (by omega) (by omega)]
  simp only [Nat.reduceMod, Nat.reduceDiv]
  rw [nb_2 n0 h0 _ (by omega), nb_2 n1 h1 _ (by omega), nb_2 n2 h2 _ (by omega), nb_2 n3 h3 _ (by omega), nb_2 n4 h4 _ (by omega), nI_add]
  congr 1
  unfold nib; omega
theorem bcn_3 (h0 : n0 ≤ 4) (h1 : n1 ≤ 4) (h2 : n2 ≤ 4) (h3 : n3 ≤ 4) (h4 : n4 ≤ 4) : bc3 (nI (nib n0 n1 n2 n3 n4)) = nI (nib (n0 + n1) 0 (n2 + n3) 0 n4) := by
  have hw : nib n0 n1 n2 n3 n4 < 2 ^ 20 := by unfold nib; omega
  unfold bc3
  rw [pk_ushrN (by omega) 4 4 (by decide), nI_add, show (252645135 : Int32) = nI 252645135 from rfl, nI_and]
  have e : nib n0 n1 n2 n3 n4 + nib n0 n1 n2 n3 n4 / 2 ^ 4 = nib (n0 + n1) (n1 + n2) (n2 + n3) (n3 + n4) (n4 + 0) := by unfold nib; omega
  rw [e, nib_and (by omega) (by omega) (by omega) (by omega) (by omega)]
  simp only [Nat.reduceMod, Nat.reduceDiv]
  rw [(nb_6 (n0 + n1) (by omega)).1, (nb_6 (n1 + n2) (by omega)).2, (nb_6 (n2 + n3) (by omega)).1, (nb_6 (n3 + n4) (by omega)).2, (nb_6 (n4 + 0) (by omega)).1]
  rfl
theorem bcn (h0 : n0 < 16) (h1 : n1 < 16) (h2 : n2 < 16) (h3 : n3 < 16) (h4 : n4 < 16) : bcF (nI (nib n0 n1 n2 n3 n4)) = nI (pc4 n0 + pc4 n1 + pc4 n2 + pc4 n3 + pc4 n4) := by
  unfold bcF
  rw [bcn_1 h0 h1 h2 h3 h4, bcn_2 (nb_3 n0 h0).2 (nb_3 n1 h1).2 (nb_3 n2 h2).2 (nb_3 n3 h3).2 (nb_3 n4 h4).2, nb_4 n0 h0, nb_4 n1 h1, nb_4 n2 h2, nb_4 n3 h3, nb_4 n4 h4]
  have a0 := nb_5 n0 h0
  have a1 := nb_5 n1 h1
  have a2 := nb_5 n2 h2
  have a3 := nb_5 n3 h3
  have a4 := nb_5 n4 h4
  rw [bcn_3 a0 a1 a2 a3 a4]
  generalize pc4 n0 = p0 at a0 ⊢
  generalize pc4 n1 = p1 at a1 ⊢
  generalize pc4 n2 = p2 at a2 ⊢
  generalize pc4 n3 = p3 at a3 ⊢
  generalize pc4 n4 = p4 at a4 ⊢
  have hw : nib (p0 + p1) 0 (p2 + p3) 0 p4 < 2 ^ 20 := by unfold nib; omega
  have x1 : nib (p0 + p1) 0 (p2 + p3) 0 p4 / 2 ^ 8 = (p2 + p3) + 256 * p4 := by unfold nib; omega
  have x2 : nib (p0 + p1) 0 (p2 + p3) 0 p4 + ((p2 + p3) + 256 * p4) = (p0 + p1 + p2 + p3) + 256 * (p2 + p3 + p4) + 65536 * p4 := by unfold nib; omega
  have x3 : ((p0 + p1 + p2 + p3) + 256 * (p2 + p3 + p4) + 65536 * p4) / 2 ^ 16 = p4 := by omega
  have x4 : ((p0 + p1 + p2 + p3) + 256 * (p2 + p3 + p4) + 65536 * p4 + p4) % 2 ^ 6 = p0 + p1 + p2 + p3 + p4 := by omega
  unfold bc4 bc5
  rw [pk_ushrN (by omega) 8 8 (by decide), nI_add, x1, x2, pk_ushrN (by omega) 16 16 (by decide), nI_add, x3, pk_andN (by omega) 6 (by decide), x4]
end Count
def pcN (w : Nat) : Nat → Nat
  | 0 => 0
  | k + 1 => pcN w k + (w.testBit k).toNat
theorem tb_nib (w a : Nat) {i : Nat} (h : i < 4) : (w / 2 ^ a % 2 ^ 4).testBit i = w.testBit (a + i) := by
  rw [Nat.testBit_mod_two_pow, Nat.testBit_div_two_pow, decide_eq_true h, Bool.true_and, Nat.add_comm]
theorem pc_nib (w a : Nat) : pc4 (w / 2 ^ a % 2 ^ 4) = (w.testBit a).toNat + (w.testBit (a + 1)).toNat + (w.testBit (a + 2)).toNat + (w.testBit (a + 3)).toNat := by
  unfold pc4
  rw [tb_nib w a (by decide), tb_nib w a (by decide), tb_nib w a (by decide), tb_nib w a (by decide)]
  rfl
theorem nib_of {w : Nat} (h : w < 1048576) : w = nib (w / 2 ^ 0 % 2 ^ 4) (w / 2 ^ 4 % 2 ^ 4) (w / 2 ^ 8 % 2 ^ 4) (w / 2 ^ 12 % 2 ^ 4) (w / 2 ^ 16 % 2 ^ 4) := by
  have h0 : w = 16 * (w / 16) + w % 16 := by omega
  have h1 : w / 16 = 16 * (w / 256) + w / 16 % 16 := by omega
  have h2 : w / 256 = 16 * (w / 4096) + w / 256 % 16 := by omega
  have h3 : w / 4096 = 16 * (w / 65536) + w / 4096 % 16 := by omega
  have h4 : w / 65536 % 16 = w / 65536 := by omega
  show w = nib (w / 1 % 16) (w / 16 % 16) (w / 256 % 16) (w / 4096 % 16) (w / 65536 % 16)
  rw [h4, Nat.div_one]
  unfold nib
  clear h h4
  generalize w % 16 = b0 at *
  generalize w / 16 % 16 = b1 at *
  generalize w / 256 % 16 = b2 at *
  generalize w / 4096 % 16 = b3 at *
  generalize w / 16 = a1 at *
  generalize w / 256 = a2 at *
  generalize w / 4096 = a3 at *
  generalize w / 65536 = a4 at *
  omega
theorem bc_pc {w : Nat} (h : w < 1048576) : bcF (nI w) = nI (pcN w 20) := by
  have l : ∀ y, y % 2 ^ 4 < 16 := fun y => Nat.mod_lt y (by decide)
  have k := bcn (l (w / 2 ^ 0)) (l (w / 2 ^ 4)) (l (w / 2 ^ 8)) (l (w / 2 ^ 12)) (l (w / 2 ^ 16))
  rw [← nib_of h, pc_nib, pc_nib, pc_nib, pc_nib, pc_nib] at k
  rw [k]
  congr 1
  simp only [pcN, Nat.zero_add, Nat.add_assoc, Nat.reduceAdd]
theorem pc_fxR {w : Nat} {row : Nat → Int32} : ∀ n, n ≤ 32 → (fxR (nI w) row n).2 = pcN w n
  | 0, _ => rfl
  | n + 1, hn => by
    have ih := pc_fxR (w := w) (row := row) n (by omega)
    have e : bitB (nI w) (nI n) = w.testBit n := by
      rw [bitB_bt (by omega)]
      unfold bt
      show (BitVec.ofNat 32 w).getLsbD n = _
      rw [BitVec.getLsbD_ofNat, decide_eq_true (show n < 32 by omega), Bool.true_and]
    show _ = pcN w n + (w.testBit n).toNat
    rw [← e]
    cases hb : bitB (nI w) (nI n) with
    | true => rw [fxR_t hb, ← ih]; rfl
    | false => rw [fxR_f hb, ← ih]; rfl
theorem bits_nI {x : Int32} {c : Nat} (hc : c ≤ 32) (h : ∀ j, j < 32 → bt x j = true → j < c) : ∃ w, w < 2 ^ c ∧ x = nI w := by
  refine ⟨x.toBitVec.toNat, ?_, ?_⟩
  · apply Nat.lt_pow_two_of_testBit
    intro i hi
    cases hb : x.toBitVec.toNat.testBit i with
    | false => rfl
    | true =>
      have hb : bt x i = true := hb
      rcases Nat.lt_or_ge i 32 with q | q
      · have := h i q hb; omega
      · rw [b_big q] at hb; cases hb
  · apply b_ext
    intro j hj
    unfold bt
    show _ = (BitVec.ofNat 32 x.toBitVec.toNat).getLsbD j
    rw [BitVec.ofNat_toNat, BitVec.setWidth_eq]
theorem fxR_hi {x : Int32} {row : Nat → Int32} {c : Nat} (h : ∀ j, j < 32 → bt x j = true → j < c) : ∀ n, c + n ≤ 32 → fxR x row (c + n) = fxR x row c
  | 0, _ => rfl
  | n + 1, hn => by
    rw [show c + (n + 1) = (c + n) + 1 from rfl, fxR_f, fxR_hi h n (by omega)]
    cases hb : bitB x (nI (c + n)) with
    | false => rfl
    | true => rw [bitB_bt (by omega)] at hb; have := h _ (by omega) hb; omega
theorem pcN_le {w : Nat} : ∀ n, pcN w n ≤ n
  | 0 => Nat.le_refl 0
  | n + 1 => by
    have := pcN_le (w := w) n
    have h2 := Bool.toNat_le (w.testBit n)
    show pcN w n + (w.testBit n).toNat ≤ n + 1
    omega
theorem bc_fxR' {fx : Int32} {row : Nat → Int32} {c : Nat} (c20 : c ≤ 20) (h : ∀ j, j < 32 → bt fx j = true → j < c) : bcF fx = nI (fxR fx row c).2 ∧ (fxR fx row c).2 ≤ 20 := by
  obtain ⟨w, hw, e⟩ := bits_nI (by omega) h
  have hw2 : 2 ^ c ≤ 2 ^ 20 := Nat.pow_le_pow_right (by decide) c20
  have h1 := fxR_hi (row := row) h (20 - c) (by omega)
  rw [show c + (20 - c) = 20 by omega] at h1
  rw [← h1]
  subst e
  rw [pc_fxR 20 (by omega)]
  exact ⟨bc_pc (by omega), pcN_le 20⟩
