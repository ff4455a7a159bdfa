/-! The reference: does -/
/-- the FIXED ones: the class's way and the reference's -/
theorem fx_eq {N : Nat → Int32} {a b : Int32} {k q : Nat} (ha : a = nI k) (hk : k < 32) (hb : b = nI q) (hq : q ≤ 1) : fxF (N 61) a b = fxN N a b := by
  have u : ∀ j, j < 32 → bt (fxF (N 61) a b) j = bt (fxN N a b) j := by
    intro j hj
    rw [fx_bt ha hk hj]
    unfold fxN
    rw [b_or, b_and, bt_not hj, ha, bt_bit hk hj, hb, b_shl k hk _ hj]
    rcases (show q = 0 ∨ q = 1 by omega) with e | e
    · subst e
      rw [if_neg (by decide), show nI 0 = (0 : Int32) from rfl, b_0, Bool.and_false, Bool.or_false]
    · subst e
      rw [if_pos (by decide), show nI 1 = (1 : Int32) from rfl]
      by_cases e2 : k = j
      · subst e2; rw [show bt 1 (k - k) = true by rw [Nat.sub_self]; decide]; simp
      · rw [decide_eq_false e2]
        by_cases e3 : k ≤ j
        · rw [bt_1 _ (by omega), decide_eq_false (show ¬ j - k = 0 by omega)]; simp
        · rw [decide_eq_false e3]; simp
  exact b_ext u
def runN (kn f1 f2 : Nat → Int32) : Nat → Nat → (Nat → Int32) → Nat × (Nat → Int32)
  | 0, k, N => (k, N)
  | m + 1, k, N => if okN (kn k) (f1 k) (f2 k) N = true then runN kn f1 f2 m (k + 1) (nxN (kn k) (f1 k) (f2 k) N) else (k, N)
theorem runN_t {kn f1 f2 : Nat → Int32} {m k : Nat} {N : Nat → Int32} (h : okN (kn k) (f1 k) (f2 k) N = true) : runN kn f1 f2 (m + 1) k N = runN kn f1 f2 m (k + 1) (nxN (kn k) (f1 k) (f2 k) N) := if_pos h
theorem runN_f {kn f1 f2 : Nat → Int32} {m k : Nat} {N : Nat → Int32} (h : okN (kn k) (f1 k) (f2 k) N = false) : runN kn f1 f2 (m + 1) k N = (k, N) := if_neg (by rw [h]; decide)
theorem okN_rel {c a b a2 b2 : Int32} {N : Nat → Int32} (h1 : (c = 99 ∨ c = 102 ∨ c = 108 ∨ c = 112) → a = a2) (h2 : (c = 102 ∨ c = 108) → b = b2) : okN c a b N = okN c a2 b2 N ∧ nxN c a b N = nxN c a2 b2 N := by
  by_cases e1 : c = 99
  · rw [okN_99 e1, okN_99 e1, nxN_99 e1, nxN_99 e1, h1 (Or.inl e1)]; exact ⟨rfl, rfl⟩
  · by_cases e2 : c = 102
    · rw [h1 (Or.inr (Or.inl e2)), h2 (Or.inl e2)]; exact ⟨rfl, rfl⟩
    · by_cases e3 : c = 108
      · rw [h1 (Or.inr (Or.inr (Or.inl e3))), h2 (Or.inr e3)]; exact ⟨rfl, rfl⟩
      · by_cases e4 : c = 112
        · rw [okN_112 e4, okN_112 e4, nxN_112 e4, nxN_112 e4, h1 (Or.inr (Or.inr (Or.inr e4)))]; exact ⟨rfl, rfl⟩
        · rw [okN_s e1 e2 e3 e4, okN_s e1 e2 e3 e4, nxN_s e1 e2 e3 e4, nxN_s e1 e2 e3 e4]; exact ⟨rfl, rfl⟩
theorem bt_nI {w j : Nat} (hj : j < 32) : bt (nI w) j = w.testBit j := by
  unfold bt
  show (BitVec.ofNat 32 w).getLsbD j = _
  rw [BitVec.getLsbD_ofNat]; simp [hj]
theorem rO_eq {w : Nat} (h : w < 2 ^ 24) : nI w >>> ((16 : Int32) &&& 31) = rO (nI w) := by
  have hi : ∀ j, 24 ≤ j → j < 32 → bt (nI w) j = false := fun j h1 h2 => by
    rw [bt_nI h2]; exact Nat.testBit_lt_two_pow (Nat.lt_of_lt_of_le h (Nat.pow_le_pow_right (by omega) h1))
  have m : ∀ j, j < 32 → bt 255 j = decide (j < 8) := by decide +kernel
  unfold rO
  apply b_ext
  intro j hj
  rw [b_and, m j hj, show ((16 : Int32) &&& 31) = (nI 16 &&& 31) from rfl, b_sshr 16 (by omega) _ hj]
  by_cases e : j < 8
  · rw [decide_eq_true e, Bool.and_true]
  · rw [decide_eq_false e, Bool.and_false]
    split
    · exact hi _ (by omega) (by omega)
    · exact hi _ (by omega) (by omega)
/-- a number told by six figures -/
def six (a : Int32) : Prop := ∃ w, w < 2 ^ 24 ∧ a = nI w
theorem MI_next {kd a b : Int32} {N : Nat → Int32} {c l : Nat} (mi : MI N c l) (h6 : kd = 99 → six a) (ok : okN kd a b N = true) : ∃ c' l', MI (nxN kd a b N) c' l' := by
  obtain ⟨hc, c20, hl, l8, ⟨g1, g2, g3, g4, g5, g6⟩, hf, hdi, hfb⟩ := id mi
  by_cases e1 : kd = 99
  · obtain ⟨w, w24, rfl⟩ := h6 e1
    rw [okN_99 e1, mi.c] at ok
    have c19 := of_decide_eq_true ok
    rw [nxN_99 e1, mi.c, rO_eq w24]
    have h1 : isP (rO (nI w)) := and255 _
    have h2 : isP ((nI w >>> ((8 : Int32) &&& 31)) &&& 255) := and255 _
    have h3 : isP (nI w &&& 255) := and255 _
    refine ⟨c + 1, l, upd_s, by omega, ?_, l8, ⟨fun k hk => ?_, fun k hk => ?_, fun e k he hk => ?_, fun e k he hk => ?_, fun e he => ?_, fun k hk => ?_⟩, ?_, ?_, ?_⟩
    · rw [upd_o (by omega), up3_o (by omega)]; exact hl
    · show isP (upd _ 0 _ (1 + k)); rw [upd_o (by omega)]; unfold up3 upd
      split
      · exact h3
      · split
        · exact h2
        · split
          · exact h1
          · exact g1 k hk
    · show isP (upd _ 0 _ (117 + k)); rw [upd_o (by omega), up3_o (by omega)]; exact g2 k hk
    · show isT (upd _ 0 _ (62 + (13 * e + k))); rw [upd_o (by omega), up3_o (by omega)]; exact g3 e k he hk
    · show isW (upd _ 0 _ (62 + (13 * e + 9 + k))); rw [upd_o (by omega), up3_o (by omega)]; exact g4 e k he hk
    · show upd _ 0 _ (62 + (13 * e + 12)) = 0 ∨ upd _ 0 _ (62 + (13 * e + 12)) = 1; rw [upd_o (by omega), up3_o (by omega)]; exact g5 e he
    · show isP (upd _ 0 _ (114 + k)); rw [upd_o (by omega), up3_o (by omega)]; exact g6 k hk
    · exact rowOK_congr (g := mP N) (fun p hp => by show upd _ 0 _ (121 + p) = N (121 + p); rw [upd_o (by omega), up3_o (by omega)]) (hf.more (by omega))
    · exact rowDI_congr (g := mP N) (fun p hp => by show upd _ 0 _ (121 + p) = N (121 + p); rw [upd_o (by omega), up3_o (by omega)]) hdi
    · rw [upd_o (by omega), up3_o (by omega)]; exact fun j h1 h2 => Nat.lt_succ_of_lt (hfb j h1 h2)
  · by_cases e2 : kd = 102
    · rw [okN_102 e2, Bool.and_eq_true] at ok
      rw [nxN_102 e2]
      rw [hc] at ok
      obtain ⟨k, kc, ka⟩ := isC_n (by omega) ok.1
      obtain ⟨q, -, q1, qb⟩ := inF_n (a := 0) (b := 1) (by omega) ok.2 (by omega)
      refine ⟨c, l, by rw [upd_o (by omega)]; exact hc, c20, by rw [upd_o (by omega)]; exact hl, l8, ⟨fun k hk => ?_, fun k hk => ?_, fun e k he hk => ?_, fun e k he hk => ?_, fun e he => ?_, fun k hk => ?_⟩, ?_, ?_, ?_⟩
      · show isP (upd _ 61 _ (1 + k)); rw [upd_o (by omega)]; exact g1 k hk
      · show isP (upd _ 61 _ (117 + k)); rw [upd_o (by omega)]; exact g2 k hk
      · show isT (upd _ 61 _ (62 + (13 * e + k))); rw [upd_o (by omega)]; exact g3 e k he hk
      · show isW (upd _ 61 _ (62 + (13 * e + 9 + k))); rw [upd_o (by omega)]; exact g4 e k he hk
      · show upd _ 61 _ (62 + (13 * e + 12)) = 0 ∨ upd _ 61 _ (62 + (13 * e + 12)) = 1; rw [upd_o (by omega)]; exact g5 e he
      · show isP (upd _ 61 _ (114 + k)); rw [upd_o (by omega)]; exact g6 k hk
      · exact rowOK_congr (g := mP N) (fun p hp => by show upd _ 61 _ (121 + p) = N (121 + p); rw [upd_o (by omega)]) hf
      · exact rowDI_congr (g := mP N) (fun p hp => by show upd _ 61 _ (121 + p) = N (121 + p); rw [upd_o (by omega)]) hdi
      · rw [upd_s, ← fx_eq ka (by omega) qb q1]
        intro j h1 h2
        rw [fx_bt ka (by omega) h1] at h2
        split at h2
        · rw [Bool.or_eq_true, decide_eq_true_eq] at h2
          rcases h2 with h2 | h2
          · exact hfb j h1 h2
          · omega
        · rw [Bool.and_eq_true] at h2; exact hfb j h1 h2.1
    · by_cases e3 : kd = 108
      · rw [okN_108 e3, Bool.and_eq_true] at ok
        rw [nxN_108 e3]
        refine ⟨c, l, by rw [upd_o (by omega), upd_o (by omega)]; exact hc, c20, by rw [upd_o (by omega), upd_o (by omega)]; exact hl, l8, ⟨fun k hk => ?_, fun k hk => ?_, fun e k he hk => ?_, fun e k he hk => ?_, fun e he => ?_, fun k hk => ?_⟩, ?_, ?_, ?_⟩
        · show isP (upd (upd _ 114 _) 115 _ (1 + k)); rw [upd_o (by omega), upd_o (by omega)]; exact g1 k hk
        · show isP (upd (upd _ 114 _) 115 _ (117 + k)); rw [upd_o (by omega), upd_o (by omega)]; exact g2 k hk
        · show isT (upd (upd _ 114 _) 115 _ (62 + (13 * e + k))); rw [upd_o (by omega), upd_o (by omega)]; exact g3 e k he hk
        · show isW (upd (upd _ 114 _) 115 _ (62 + (13 * e + 9 + k))); rw [upd_o (by omega), upd_o (by omega)]; exact g4 e k he hk
        · show upd (upd _ 114 _) 115 _ (62 + (13 * e + 12)) = 0 ∨ upd (upd _ 114 _) 115 _ (62 + (13 * e + 12)) = 1; rw [upd_o (by omega), upd_o (by omega)]; exact g5 e he
        · show isP (upd (upd _ 114 _) 115 _ (114 + k)); unfold upd
          split
          · exact ok.2
          · split
            · exact ok.1
            · exact g6 k hk
        · exact rowOK_congr (g := mP N) (fun p hp => by show upd (upd _ 114 _) 115 _ (121 + p) = N (121 + p); rw [upd_o (by omega), upd_o (by omega)]) hf
        · exact rowDI_congr (g := mP N) (fun p hp => by show upd (upd _ 114 _) 115 _ (121 + p) = N (121 + p); rw [upd_o (by omega), upd_o (by omega)]) hdi
        · rw [upd_o (by omega), upd_o (by omega)]; exact hfb
      · by_cases e4 : kd = 112
        · rw [okN_112 e4, Bool.and_eq_true] at ok
          obtain ⟨n, n1, n8, ha⟩ := in18 ok.1
          have hfx := mi.fill n8 (by rw [← ha]; exact of_decide_eq_true ok.2)
          rw [nxN_112 e4, ha, nI_clamp (by omega)]
          unfold flN
          rw [mi.c]
          have := fillF_ok (ap := apN N) (rgb := nR N) (fit := fbN N) (fx := N 61) (row := mP N) (c := c) (n := n) (by omega) n8 hfx
          exact ⟨c, _, mi.rw' this.2.2 this.1 this.2.1⟩
        · rw [nxN_s e1 e2 e3 e4]
          unfold swN
          rw [mi.c, mi.l]
          have := saF_ok (ap := apN N) (fit := fbN N) (fx := N 61) (l := l) (c := c) (by omega) 60 0 (mP N) hf hdi
          exact ⟨c, l, mi.rw' l8 this.1 this.2⟩
def MDD (Z V : xZ) : Prop := (∀ a j, a ≠ 53 ∨ (j ≠ 3 ∧ j ≠ 8 ∧ j ≠ 12 ∧ j ≠ 13 ∧ j ≠ 14) → V.1 a j = Z.1 a j) ∧ (∀ a, a ≠ 54 → a ≠ 55 → a ≠ 56 → a ≠ 60 → a ≠ 61 → a ≠ 62 → V.2.1 a = Z.2.1 a) ∧ V.2.2.2 = Z.2.2.2
theorem MDD.of {Z V : xZ} (h : MOD Z V) : MDD Z V := ⟨fun a j hj => h.1 a j (by omega), fun a h1 h2 h3 h4 h5 h6 => h.2.1 a h1 h4, h.2.2⟩
theorem MDD.ofM {Z V : xZ} (h : MCH Z V) : MDD Z V := ⟨fun a j hj => h.1 a j (by omega), fun a h1 h2 h3 h4 h5 h6 => h.2.1 a h5 h6, congrArg (·.2) h.2.2⟩
theorem MDD.trans {Z V W : xZ} (h : MDD Z V) (h2 : MDD V W) : MDD Z W := ⟨fun a j hj => (h2.1 a j hj).trans (h.1 a j hj), fun a h1 h3 h4 h5 h6 h7 => (h2.2.1 a h1 h3 h4 h5 h6 h7).trans (h.2.1 a h1 h3 h4 h5 h6 h7), h2.2.2.trans h.2.2⟩
theorem MDD.a {Z V : xZ} (h : MDD Z V) {x : Nat} {f : Nat → Int32} (hx : x = 54 ∨ x = 55 ∨ x = 56) : MDD Z (sA V x f) := ⟨h.1, fun a h1 h2 h3 h4 h5 h6 => by rw [sA_2 _ _ (by omega)]; exact h.2.1 a h1 h2 h3 h4 h5 h6, h.2.2⟩
theorem MDD.i3 {Z V : xZ} (h : MDD Z V) {v : Int32} : MDD Z (sI V 53 3 v) := ⟨fun a j hj => by rw [sI_2 _ _ (by omega)]; exact h.1 a j hj, h.2.1, h.2.2⟩
theorem MDD.rfl' {Z : xZ} : MDD Z Z := ⟨fun _ _ _ => rfl, fun _ _ _ _ _ _ _ => rfl, rfl⟩
def DNr (st : Nat) (V : xZ) (N0 : Nat → Int32) (q : Nat) (X : Nat × (Nat → Int32)) (r : Option Value) (h' : xH) : Prop :=
  (X.1 = q ∧ r = some (.int (nI q)) ∧ ∃ U, h' = HP U ∧ MDD V U ∧ (∀ i, i < 129 → U.2.1 54 i = X.2 i) ∧ U.1 53 3 = nI (if st < 5 then st + 1 else 5) ∧ RMB st N0 (V.2.1 56) (U.2.1 56)) ∨
  (X.1 < q ∧ r = some (.int (-1000 - nI X.1)) ∧ ∃ U, h' = HP U ∧ MDD V U ∧ (∀ i, i < 129 → U.2.1 54 i = N0 i) ∧ U.1 53 3 = V.1 53 3 ∧ U.2.1 56 = V.2.1 56)
theorem RMB.congr {st : Nat} {N N2 P Q : Nat → Int32} (h : RMB st N P Q) (e : ∀ i, i < 129 → N i = N2 i) : RMB st N2 P Q := ⟨fun g => ⟨(h.1 g).1, fun i hi => ((h.1 g).2 i hi).trans (e i hi)⟩, fun g => ⟨(h.2 g).1, fun i hi => ((h.2 g).2 i hi).trans (e i hi)⟩⟩
set_option maxHeartbeats 400000 in
set_option maxRecDepth 100000 in
theorem l_kdoes {V : xZ} {N0 kn f1 f2 : Nat → Int32} {q st : Nat} (q60 : q ≤ 60) (hst : V.1 53 3 = nI st) (st5 : st ≤ 5) (hoV : V.1 53 12 = nI q) (hA : ∀ i, i < 129 → V.2.1 55 i = N0 i) (rel : REL q kn f1 f2 (V.2.1 61) (V.2.1 62)) (h6 : ∀ j, j < q → kn j = 99 → six (f1 j)) : ∀ (n : Nat) (k : Nat) (Nk : Nat → Int32) (W : xZ), k ≤ q → q < k + n → MOD V W → W.2.1 54 = Nk → (∃ c l, MI Nk c l) → XW mX4_does 8 0 0 44 [some (.ref 53), some (.int (nI k))] [] (HP W) (fun r h' => DNr st V N0 q (runN kn f1 f2 (q - k) k Nk) r h') := by
  intro n
  induction n with
  | zero => intro k Nk W g0 g1 g2 g3 g4; omega
  | succ n ih =>
    intro k Nk W g0 g1 g2 g3 g4
    obtain ⟨c, l, mi⟩ := g4
    have hM := g2
    have hN := g3
    have miW : MI (W.2.1 54) c l := by rw [hN]; exact mi
    have hoW : W.1 53 12 = nI q := (hM.1 53 12 (by omega)).trans hoV
    have mW := MDD.of hM
    have aW : W.2.1 55 = V.2.1 55 := hM.2.1 55 (by omega) (by omega)
    refine XW.iload_n 45 dX4_does_44 rfl rfl ?_
    refine XW.aload_n 46 dX4_does_45 rfl rfl ?_
    refine XW.getf 49 (v := .int (W.1 53 12)) f4_216 dX4_does_46 rfl rfl rfl ?_
    refine XW.icmp_geN 76 52 k q dX4_does_49 (by decide) rfl rfl hoW (by omega) (by omega) (fun c_49 => ?_) (fun c_49 => ?_)
    · refine XW.aload_n 77 dX4_does_76 rfl rfl ?_
      refine XW.callV 80 (vs := []) (rest := []) (mcr := 0) (msr := 0) c4_243 dX4_does_77 rfl rfl (by decide) (Nat.le_of_ble_eq_true rfl) rfl rfl (Nat.le_of_ble_eq_true rfl) rfl (k_turns (Z := W)) (fun r h1 hq => ?_)
      obtain ⟨rfl, N1, A1, rfl, t1⟩ := hq
      have m1 : MDD V (sA (sA W 54 N1) 55 A1) := (mW.a (Or.inl rfl)).a (Or.inr (Or.inl rfl))
      have s1 : (sA (sA W 54 N1) 55 A1).1 53 3 = nI st := (hM.1 53 3 (by omega)).trans hst
      have p1 : (sA (sA W 54 N1) 55 A1).2.1 56 = V.2.1 56 := hM.2.1 56 (by omega) (by omega)
      have n1 : (sA (sA W 54 N1) 55 A1).2.1 54 = N1 := rfl
      have a1 : (sA (sA W 54 N1) 55 A1).2.1 55 = A1 := rfl
      have o1 : (sA (sA W 54 N1) 55 A1).1 53 12 = nI q := hoW
      generalize sA (sA W 54 N1) 55 A1 = W1 at m1 s1 p1 n1 a1 o1 ⊢
      refine XW.aload_n 81 dX4_does_80 rfl rfl ?_
      refine XW.callV 84 (vs := []) (rest := []) (mcr := 0) (msr := 0) c4_74 dX4_does_81 rfl rfl (by decide) (Nat.le_of_ble_eq_true rfl) rfl rfl (Nat.le_of_ble_eq_true rfl) rfl (k_remembers (Z := W1) s1 st5) (fun r h1 hq => ?_)
      obtain ⟨rfl, Y, rm, rfl⟩ := hq
      obtain ⟨Q, eY, hQ⟩ := rm
      rw [n1, p1] at hQ
      have mY : MDD V Y := by rw [eY]; exact (m1.a (Or.inr (Or.inr rfl))).i3
      have aY : Y.2.1 55 = A1 := by rw [eY]; exact a1
      have oY : Y.1 53 12 = nI q := by rw [eY]; exact o1
      have sY : Y.1 53 3 = nI (if st < 5 then st + 1 else 5) := by rw [eY, sI_1]
      have pY : Y.2.1 56 = Q := by rw [eY]; exact sA_1 _ _ _
      refine XW.aload_n 85 dX4_does_84 rfl rfl ?_
      refine XW.callV 88 (vs := []) (rest := []) (mcr := 0) (msr := 0) c4_243 dX4_does_85 rfl rfl (by decide) (Nat.le_of_ble_eq_true rfl) rfl rfl (Nat.le_of_ble_eq_true rfl) rfl (k_turns (Z := Y)) (fun r h1 hq => ?_)
      obtain ⟨rfl, N2, A2, rfl, t2⟩ := hq
      refine XW.aload_n 89 dX4_does_88 rfl rfl ?_
      refine XW.getf 92 (v := .int (Y.1 53 12)) f4_216 dX4_does_89 rfl rfl rfl ?_
      exact XW.iret dX4_does_92 rfl (by
            rw [show q - k = 0 by omega]
            refine Or.inl ⟨by show k = q; omega, by rw [oY], _, rfl, (mY.a (Or.inl rfl)).a (Or.inr (Or.inl rfl)), fun i hi => ?_, sY, ?_⟩
            · show N2 i = Nk i
              rw [(t2 i hi).1, aY, (t1 i hi).2, hN]
            · show RMB st N0 (V.2.1 56) (Y.2.1 56)
              rw [pY]; exact hQ.congr (fun i hi => by rw [(t1 i hi).1, aW]; exact hA i hi))
    · have rk := rel k (by omega)
      have e61 : W.2.1 61 = V.2.1 61 := hM.2.1 61 (by omega) (by omega)
      have e62 : W.2.1 62 = V.2.1 62 := hM.2.1 62 (by omega) (by omega)
      have eo : okN (W.2.1 61 k) (W.2.1 62 (2 * k)) (W.2.1 62 (2 * k + 1)) (W.2.1 54) = okN (kn k) (f1 k) (f2 k) Nk ∧ nxN (W.2.1 61 k) (W.2.1 62 (2 * k)) (W.2.1 62 (2 * k + 1)) (W.2.1 54) = nxN (kn k) (f1 k) (f2 k) Nk := by
        rw [e61, e62, hN, rk.1]; exact okN_rel rk.2.1 rk.2.2
      refine XW.aload_n 53 dX4_does_52 rfl rfl ?_
      refine XW.iload_n 54 dX4_does_53 rfl rfl ?_
      refine XW.callV 57 (vs := [.int (nI k)]) (rest := []) (mcr := 0) (msr := 0) c4_240 dX4_does_54 rfl rfl (by decide) (Nat.le_of_ble_eq_true rfl) rfl rfl (Nat.le_of_ble_eq_true rfl) rfl (k_obeys (Z := W) (k := k) miW rfl (by omega)) (fun r h1 hq => ?_)
      obtain ⟨rfl, ht, hf⟩ := hq
      rw [eo.1, eo.2] at ht
      rw [eo.1] at hf
      refine XW.eqs (st' := [.int (b2i (okN (kn k) (f1 k) (f2 k) Nk))]) rfl (by rw [eo.1]; rfl) rfl ?_
      refine XW.if_neB 70 60 dX4_does_57 (by decide) rfl (fun c_57 => ?_) (fun c_57 => ?_)
      · obtain ⟨W2, hM2, hN2, rfl⟩ := ht c_57
        refine XW.iinc 73 (y := nI (k + 1)) (L' := [some (.ref 53), some (.int (nI (k + 1)))]) dX4_does_70 rfl (na rfl rfl) (by decide) rfl rfl rfl ?_
        refine XW.goto 44 dX4_does_73 (by decide) ?_
        refine XW.post (ih (k + 1) _ W2 (by omega) (by omega) (hM.trans hM2) hN2 (MI_next mi (h6 k (by omega)) c_57)) (fun r h1 hq => ?_)
        rw [show q - k = (q - (k + 1)) + 1 by omega, runN_t c_57]; exact hq
      · obtain rfl := hf c_57
        refine XW.aload_n 61 dX4_does_60 rfl rfl ?_
        refine XW.callV 64 (vs := []) (rest := []) (mcr := 0) (msr := 0) c4_243 dX4_does_61 rfl rfl (by decide) (Nat.le_of_ble_eq_true rfl) rfl rfl (Nat.le_of_ble_eq_true rfl) rfl (k_turns (Z := W)) (fun r h1 hq => ?_)
        obtain ⟨rfl, N1, A1, rfl, t1⟩ := hq
        refine XW.sipush 67 dX4_does_64 (v := -1000) (by decide) rfl ?_
        refine XW.iload_n 68 dX4_does_67 rfl rfl ?_
        refine XW.isub 69 dX4_does_68 rfl ?_
        exact XW.iret dX4_does_69 rfl (by
              rw [show q - k = (q - (k + 1)) + 1 by omega, runN_f c_57]
              refine Or.inr ⟨c_49, rfl, _, rfl, (mW.a (Or.inl rfl)).a (Or.inr (Or.inl rfl)), fun i hi => ?_, hM.1 53 3 (by omega), hM.2.1 56 (by omega) (by omega)⟩
              show N1 i = N0 i
              rw [(t1 i hi).1, aW]; exact hA i hi)
set_option maxHeartbeats 400000 in
set_option maxRecDepth 100000 in
theorem l_kdoes_17 {Z : xZ} {kn f1 f2 : Nat → Int32} {q st c l : Nat} (mi : MI (Z.2.1 54) c l) (q60 : q ≤ 60) (hst : Z.1 53 3 = nI st) (st5 : st ≤ 5) (hoV : Z.1 53 12 = nI q) (rel : REL q kn f1 f2 (Z.2.1 61) (Z.2.1 62)) (h6 : ∀ j, j < q → kn j = 99 → six (f1 j)) : ∀ (n : Nat) (k : Nat) (A : Nat → Int32), k ≤ 129 → 129 < k + n → (∀ i, i < k → A i = Z.2.1 54 i) → XW mX4_does 8 0 0 17 [some (.ref 53), some (.int (nI k))] [] (HP (sA Z 55 A)) (fun r h' => DNr st Z (Z.2.1 54) q (runN kn f1 f2 q 0 (Z.2.1 54)) r h') := by
  intro n
  induction n with
  | zero => intro k A g0 g1 g2; omega
  | succ n ih =>
    intro k A g0 g1 g2
    refine XW.iload_n 18 dX4_does_17 rfl rfl ?_
    refine XW.sipush 21 dX4_does_18 (v := 129) (by decide) rfl ?_
    refine XW.icmp_geN 42 24 k 129 dX4_does_21 (by decide) rfl rfl rfl (by omega) (by omega) (fun c_21 => ?_) (fun c_21 => ?_)
    · refine XW.iconst 43 dX4_does_42 (v := 0) (by decide) rfl ?_
      refine XW.istore_n 44 (L' := [some (.ref 53), some (.int 0)]) dX4_does_43 (by decide) rfl rfl rfl ?_
      refine XW.eqs (L' := [some (.ref 53), some (.int (nI 0))]) rfl rfl rfl ?_
      refine XW.post (l_kdoes (V := sA Z 55 A) (N0 := Z.2.1 54) q60 hst st5 hoV (fun i hi => g2 i (by omega)) rel h6 (q + 1) 0 (Z.2.1 54) (sA Z 55 A) (by omega) (by omega) MOD.rfl' rfl ⟨c, l, mi⟩) (fun r h1 hq => ?_)
      rw [show q - 0 = q from rfl] at hq
      rcases hq with ⟨q1, q2, U, q3, q4, q5⟩ | ⟨q1, q2, U, q3, q4, q5⟩
      · exact Or.inl ⟨q1, q2, U, q3, (MDD.rfl'.a (Or.inr (Or.inl rfl))).trans q4, q5⟩
      · exact Or.inr ⟨q1, q2, U, q3, (MDD.rfl'.a (Or.inr (Or.inl rfl))).trans q4, q5⟩
    · refine XW.aload_n 25 dX4_does_24 rfl rfl ?_
      refine XW.getf 28 (v := .ref 55) f4_13 dX4_does_25 rfl rfl rfl ?_
      refine XW.iload_n 29 dX4_does_28 rfl rfl ?_
      refine XW.aload_n 30 dX4_does_29 rfl rfl ?_
      refine XW.getf 33 (v := .ref 54) f4_7 dX4_does_30 rfl rfl rfl ?_
      refine XW.iload_n 34 dX4_does_33 rfl rfl ?_
      refine XW.iald 35 k dX4_does_34 rfl rfl (by omega) (by decide) rfl ?_
      refine XW.iast 36 (h' := HP (sA (sA Z 55 A) 55 (upd A k (Z.2.1 54 k)))) k dX4_does_35 rfl rfl (by omega) (by decide) rfl rfl ?_
      refine XW.iinc 39 (y := nI (k + 1)) (L' := [some (.ref 53), some (.int (nI (k + 1)))]) dX4_does_36 rfl (na rfl rfl) (by decide) rfl rfl rfl ?_
      refine XW.goto 17 dX4_does_39 (by decide) ?_
      refine XW.eqs (L' := [some (.ref 53), some (.int (nI (k + 1)))]) (h' := HP (sA Z 55 (upd A k (Z.2.1 54 k)))) (by rfl) rfl (by exact congrArg HP (sA_same _ _ _ _)) ?_
      exact ih (k + 1) _ (by omega) (by omega) (fun i hi => by
            by_cases e : i = k
            · subst e; exact upd_s
            · rw [upd_o e]; exact g2 i (by omega))
set_option maxHeartbeats 400000 in
set_option maxRecDepth 100000 in
theorem l_kdoes_4f {Z : xZ} : XW mX4_does 8 0 0 4 [some (.ref 53), none] [.int 0] (HP Z) (fun r h' => r = some (.int (-10 - Z.1 53 14)) ∧ h' = HP Z) := by
  refine XW.if_ne 15 7 dX4_does_4 (by decide) rfl (fun c_4 => ?_) (fun c_4 => ?_)
  · exact absurd c_4 (by decide)
  · refine XW.bipush 9 dX4_does_7 (v := -10) (by decide) rfl ?_
    refine XW.aload_n 10 dX4_does_9 rfl rfl ?_
    refine XW.getf 13 (v := .int (Z.1 53 14)) f4_207 dX4_does_10 rfl rfl rfl ?_
    refine XW.isub 14 dX4_does_13 rfl ?_
    exact XW.iret dX4_does_14 rfl (⟨rfl, rfl⟩)
set_option maxHeartbeats 400000 in
set_option maxRecDepth 100000 in
theorem l_kdoes_4t {Z : xZ} {kn f1 f2 : Nat → Int32} {q st c l : Nat} (mi : MI (Z.2.1 54) c l) (q60 : q ≤ 60) (hst : Z.1 53 3 = nI st) (st5 : st ≤ 5) (hoV : Z.1 53 12 = nI q) (rel : REL q kn f1 f2 (Z.2.1 61) (Z.2.1 62)) (h6 : ∀ j, j < q → kn j = 99 → six (f1 j)) : XW mX4_does 8 0 0 4 [some (.ref 53), none] [.int 1] (HP Z) (fun r h' => DNr st Z (Z.2.1 54) q (runN kn f1 f2 q 0 (Z.2.1 54)) r h') := by
  refine XW.if_ne 15 7 dX4_does_4 (by decide) rfl (fun c_4 => ?_) (fun c_4 => ?_)
  · refine XW.iconst 16 dX4_does_15 (v := 0) (by decide) rfl ?_
    refine XW.istore_n 17 (L' := [some (.ref 53), some (.int 0)]) dX4_does_16 (by decide) rfl rfl rfl ?_
    refine XW.eqs (L' := [some (.ref 53), some (.int (nI 0))]) (h' := HP (sA Z 55 (Z.2.1 55))) (by rfl) rfl (by exact congrArg HP (sA_id _ _).symm) ?_
    exact l_kdoes_17 mi q60 hst st5 hoV rel h6 130 0 (Z.2.1 55) (by omega) (by omega) (fun i hi => absurd hi (by omega))
  · exact absurd c_4 (by decide)
set_option maxRecDepth 100000 in
theorem u_does {Z : xZ} {kn f1 f2 : Nat → Int32} {len st c l : Nat} (mi : MI (Z.2.1 54) c l) (hb : Z.1 53 6 = nI len) (l120 : len ≤ 120) (hst : Z.1 53 3 = nI st) (st5 : st ≤ 5) (q60 : (rdAll (Z.2.1 58) len kn f1 f2).2.1 ≤ 60) (h6 : ∀ j, j < (rdAll (Z.2.1 58) len kn f1 f2).2.1 → (rdAll (Z.2.1 58) len kn f1 f2).2.2.2.1 j = 99 → six ((rdAll (Z.2.1 58) len kn f1 f2).2.2.2.2.1 j)) : XC mX4_does 8 0 0 [.ref 53] (HP Z) (fun r h' => (¬ (rdAll (Z.2.1 58) len kn f1 f2).1 = -1 ∧ r = some (.int (-10 - (rdAll (Z.2.1 58) len kn f1 f2).1)) ∧ ∃ V, MDD Z V ∧ V.2.1 54 = Z.2.1 54 ∧ V.2.1 56 = Z.2.1 56 ∧ V.1 53 3 = Z.1 53 3 ∧ h' = HP V) ∨ ((rdAll (Z.2.1 58) len kn f1 f2).1 = -1 ∧ DNr st Z (Z.2.1 54) (rdAll (Z.2.1 58) len kn f1 f2).2.1 (runN (rdAll (Z.2.1 58) len kn f1 f2).2.2.2.1 (rdAll (Z.2.1 58) len kn f1 f2).2.2.2.2.1 (rdAll (Z.2.1 58) len kn f1 f2).2.2.2.2.2 (rdAll (Z.2.1 58) len kn f1 f2).2.1 0 (Z.2.1 54)) r h')) := by
  show XW mX4_does 8 0 0 0 [some (.ref 53), none] [] (HP Z) _
  refine XW.aload_n 1 dX4_does_0 rfl rfl ?_
  refine XW.callV 4 (vs := []) (rest := []) (mcr := 0) (msr := 0) c4_237 dX4_does_1 rfl rfl (by decide) (Nat.le_of_ble_eq_true rfl) rfl rfl (Nat.le_of_ble_eq_true rfl) rfl (k_isRead hb l120 kn f1 f2) (fun r h1 hq => ?_)
  obtain ⟨V, rfl, hM, hc⟩ := hq
  have e54 : V.2.1 54 = Z.2.1 54 := hM.2.1 54 (by omega) (by omega)
  have e56 : V.2.1 56 = Z.2.1 56 := hM.2.1 56 (by omega) (by omega)
  have e3 : V.1 53 3 = Z.1 53 3 := hM.1 53 3 (by omega)
  rcases hc with ⟨h1, rfl, ho, rel⟩ | ⟨h1, rfl, hw⟩
  · refine XW.post (l_kdoes_4t (Z := V) (by rw [e54]; exact mi) q60 (e3.trans hst) st5 ho rel h6) (fun r h2 hq => Or.inr ⟨h1, ?_⟩)
    rw [e54] at hq
    rcases hq with ⟨q1, q2, U, q3, q4, q5, q6, q7⟩ | ⟨q1, q2, U, q3, q4, q5, q6, q7⟩
    · exact Or.inl ⟨q1, q2, U, q3, (MDD.ofM hM).trans q4, q5, q6, by rw [e56] at q7; exact q7⟩
    · exact Or.inr ⟨q1, q2, U, q3, (MDD.ofM hM).trans q4, q5, q6.trans e3, q7.trans e56⟩
  · refine XW.post (l_kdoes_4f (Z := V)) (fun r h2 hq => Or.inl ⟨h1, ?_, V, MDD.ofM hM, e54, e56, e3, hq.2⟩)
    rw [hq.1, hw]
