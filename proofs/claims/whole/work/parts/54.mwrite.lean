/-! The reference: what it writes; states -/
def RMB (st : Nat) (N P Q : Nat → Int32) : Prop := (st < 5 → (∀ i, i < 129 * st → Q i = P i) ∧ ∀ i, i < 129 → Q (129 * st + i) = N i) ∧ (¬ st < 5 → (∀ i, i < 516 → Q i = P (i + 129)) ∧ ∀ i, i < 129 → Q (516 + i) = N i)
/-- what the reference does when it remembers a STATE -/
def RM (st : Nat) (Z Y : xZ) : Prop := ∃ Q, Y = sI (sA Z 56 Q) 53 3 (nI (if st < 5 then st + 1 else 5)) ∧ RMB st (Z.2.1 54) (Z.2.1 56) Q
theorem sI_id (Z : xZ) (a j : Nat) : sI Z a j (Z.1 a j) = Z := by
  unfold sI
  refine Prod.ext ?_ rfl
  funext x y
  show up2 Z.1 a j (Z.1 a j) x y = Z.1 x y
  unfold up2
  by_cases h1 : x = a
  · subst h1
    by_cases h3 : y = j
    · subst h3; simp
    · simp [h3]
  · simp [h1]
theorem RM.N {st : Nat} {Z Y : xZ} (h : RM st Z Y) : Y.2.1 54 = Z.2.1 54 := by obtain ⟨Q, rfl, -⟩ := h; rfl
theorem upd_s {f : Nat → Int32} {k : Nat} {v : Int32} : upd f k v k = v := by unfold upd; rw [if_pos rfl]
theorem upd_o {f : Nat → Int32} {k j : Nat} {v : Int32} (h : j ≠ k) : upd f k v j = f j := by unfold upd; rw [if_neg h]
set_option maxHeartbeats 400000 in
set_option maxRecDepth 100000 in
theorem l_rem_51 {Z : xZ} {s : Nat} (s4 : s ≤ 4) {Q0 : Nat → Int32} : ∀ (n : Nat) (k : Nat) (Q : Nat → Int32), k ≤ 129 → 129 < k + n → (∀ i, i < 129 * s → Q i = Q0 i) → (∀ i, i < k → Q (129 * s + i) = Z.2.1 54 i) → XW mX4_remembers 0 0 0 51 [some (.ref 53), some (.int (nI k))] [] (HP (sI (sA Z 56 Q) 53 3 (nI s))) (fun r h' => r = none ∧ ∃ Q', h' = HP (sI (sA Z 56 Q') 53 3 (nI (s + 1))) ∧ (∀ i, i < 129 * s → Q' i = Q0 i) ∧ ∀ i, i < 129 → Q' (129 * s + i) = Z.2.1 54 i) := by
  intro n
  induction n with
  | zero => intro k Q g0 g1 g2 g3; omega
  | succ n ih =>
    intro k Q g0 g1 g2 g3
    refine XW.iload_n 52 dX4_remembers_51 rfl rfl ?_
    refine XW.sipush 55 dX4_remembers_52 (v := 129) (by decide) rfl ?_
    refine XW.icmp_geN 85 58 k 129 dX4_remembers_55 (by decide) rfl rfl rfl (by omega) (by omega) (fun c_55 => ?_) (fun c_55 => ?_)
    · refine XW.aload_n 86 dX4_remembers_85 rfl rfl ?_
      refine XW.dup 87 dX4_remembers_86 rfl rfl ?_
      refine XW.getf 90 (v := .int (nI s)) f4_41 dX4_remembers_87 rfl rfl rfl ?_
      refine XW.iconst 91 dX4_remembers_90 (v := 1) (by decide) rfl ?_
      refine XW.iadd 92 dX4_remembers_91 rfl ?_
      refine XW.putf 95 (h' := HP (sI (sI (sA Z 56 Q) 53 3 (nI s)) 53 3 ((nI s) + 1))) (p4_41 _) dX4_remembers_92 rfl (Nat.le_of_ble_eq_true rfl) (xfit_i _) rfl rfl ?_
      exact XW.vret dX4_remembers_95 trivial (⟨rfl, Q, by rw [sI_same, show nI s + 1 = nI (s + 1) from na (n := 1) rfl rfl], g2, fun i hi => g3 i (by omega)⟩)
    · refine XW.aload_n 59 dX4_remembers_58 rfl rfl ?_
      refine XW.getf 62 (v := .ref 56) f4_16 dX4_remembers_59 rfl rfl rfl ?_
      refine XW.sipush 65 dX4_remembers_62 (v := 129) (by decide) rfl ?_
      refine XW.aload_n 66 dX4_remembers_65 rfl rfl ?_
      refine XW.getf 69 (v := .int (nI s)) f4_41 dX4_remembers_66 rfl rfl rfl ?_
      refine XW.imul 70 dX4_remembers_69 rfl ?_
      refine XW.iload_n 71 dX4_remembers_70 rfl rfl ?_
      refine XW.iadd 72 dX4_remembers_71 rfl ?_
      refine XW.aload_n 73 dX4_remembers_72 rfl rfl ?_
      refine XW.getf 76 (v := .ref 54) f4_7 dX4_remembers_73 rfl rfl rfl ?_
      refine XW.iload_n 77 dX4_remembers_76 rfl rfl ?_
      refine XW.iald 78 k dX4_remembers_77 rfl rfl (by omega) (by decide) rfl ?_
      refine XW.iast 79 (h' := HP (sA (sI (sA Z 56 Q) 53 3 (nI s)) 56 (upd Q (129 * s + k) (Z.2.1 54 k)))) (129 * s + k) dX4_remembers_78 rfl (na (nm rfl rfl) rfl) (by omega) (by decide) rfl rfl ?_
      refine XW.iinc 82 (y := nI (k + 1)) (L' := [some (.ref 53), some (.int (nI (k + 1)))]) dX4_remembers_79 rfl (na rfl rfl) (by decide) rfl rfl rfl ?_
      refine XW.goto 51 dX4_remembers_82 (by decide) ?_
      refine XW.eqs (L' := [some (.ref 53), some (.int (nI (k + 1)))]) (h' := HP (sI (sA Z 56 (upd Q (129 * s + k) (Z.2.1 54 k))) 53 3 (nI s))) (by rfl) rfl (by rfl) ?_
      exact ih (k + 1) _ (by omega) (by omega) (fun i hi => by rw [upd_o (by omega)]; exact g2 i hi) (fun i hi => by
            by_cases e : i = k
            · subst e; exact upd_s
            · rw [upd_o (by omega)]; exact g3 i (by omega))
set_option maxHeartbeats 400000 in
set_option maxRecDepth 100000 in
theorem l_rem_10 {Z : xZ} (hst : Z.1 53 3 = nI 5) : ∀ (n : Nat) (k : Nat) (Q : Nat → Int32), k ≤ 516 → 516 < k + n → (∀ i, i < k → Q i = Z.2.1 56 (i + 129)) → (∀ i, k ≤ i → Q i = Z.2.1 56 i) → XW mX4_remembers 0 0 0 10 [some (.ref 53), some (.int (nI k))] [] (HP (sA Z 56 Q)) (fun r h' => r = none ∧ ∃ Y, RM 5 Z Y ∧ h' = HP Y) := by
  intro n
  induction n with
  | zero => intro k Q g0 g1 g2 g3; omega
  | succ n ih =>
    intro k Q g0 g1 g2 g3
    refine XW.iload_n 11 dX4_remembers_10 rfl rfl ?_
    refine XW.sipush 14 dX4_remembers_11 (v := 516) (by decide) rfl ?_
    refine XW.icmp_geN 39 17 k 516 dX4_remembers_14 (by decide) rfl rfl rfl (by omega) (by omega) (fun c_14 => ?_) (fun c_14 => ?_)
    · refine XW.aload_n 40 dX4_remembers_39 rfl rfl ?_
      refine XW.dup 41 dX4_remembers_40 rfl rfl ?_
      refine XW.getf 44 (v := .int (Z.1 53 3)) f4_41 dX4_remembers_41 rfl rfl rfl ?_
      refine XW.iconst 45 dX4_remembers_44 (v := 1) (by decide) rfl ?_
      refine XW.isub 46 dX4_remembers_45 rfl ?_
      refine XW.eqs (st' := [.int (nI 4), .ref 53]) rfl (by show [Value.int (Z.1 53 3 - 1), Value.ref 53] = _; rw [hst]; rfl) rfl ?_
      refine XW.putf 49 (h' := HP (sI (sA Z 56 Q) 53 3 (nI 4))) (p4_41 _) dX4_remembers_46 rfl (Nat.le_of_ble_eq_true rfl) (xfit_i _) rfl rfl ?_
      refine XW.iconst 50 dX4_remembers_49 (v := 0) (by decide) rfl ?_
      refine XW.istore_n 51 (L' := [some (.ref 53), some (.int 0)]) dX4_remembers_50 (by decide) rfl rfl rfl ?_
      refine XW.eqs (L' := [some (.ref 53), some (.int (nI 0))]) (h' := HP (sI (sA Z 56 Q) 53 3 (nI 4))) (by rfl) rfl (by rfl) ?_
      refine XW.post (l_rem_51 (s := 4) (by omega) (Q0 := Q) 130 0 Q (by omega) (by omega) (fun i _ => rfl) (fun i hi => absurd hi (by omega))) (fun r h1 hq => ?_)
      obtain ⟨q1, Q', q2, q3, q4⟩ := hq
      exact ⟨q1, _, ⟨Q', rfl, fun h => absurd h (by omega), fun _ => ⟨fun i hi => by rw [q3 i hi]; exact g2 i (by omega), q4⟩⟩, q2⟩
    · refine XW.aload_n 18 dX4_remembers_17 rfl rfl ?_
      refine XW.getf 21 (v := .ref 56) f4_16 dX4_remembers_18 rfl rfl rfl ?_
      refine XW.iload_n 22 dX4_remembers_21 rfl rfl ?_
      refine XW.aload_n 23 dX4_remembers_22 rfl rfl ?_
      refine XW.getf 26 (v := .ref 56) f4_16 dX4_remembers_23 rfl rfl rfl ?_
      refine XW.iload_n 27 dX4_remembers_26 rfl rfl ?_
      refine XW.sipush 30 dX4_remembers_27 (v := 129) (by decide) rfl ?_
      refine XW.iadd 31 dX4_remembers_30 rfl ?_
      refine XW.iald 32 (k + 129) dX4_remembers_31 rfl (na rfl rfl) (by omega) (by decide) rfl ?_
      refine XW.iast 33 (h' := HP (sA (sA Z 56 Q) 56 (upd Q k (Q (k + 129))))) k dX4_remembers_32 rfl rfl (by omega) (by decide) rfl rfl ?_
      refine XW.iinc 36 (y := nI (k + 1)) (L' := [some (.ref 53), some (.int (nI (k + 1)))]) dX4_remembers_33 rfl (na rfl rfl) (by decide) rfl rfl rfl ?_
      refine XW.goto 10 dX4_remembers_36 (by decide) ?_
      refine XW.eqs (L' := [some (.ref 53), some (.int (nI (k + 1)))]) (h' := HP (sA Z 56 (upd Q k (Q (k + 129))))) (by rfl) rfl (by rfl) ?_
      exact ih (k + 1) _ (by omega) (by omega) (fun i hi => by
            by_cases e : i = k
            · subst e; rw [upd_s]; exact g3 _ (by omega)
            · rw [upd_o e]; exact g2 i (by omega)) (fun i hi => by rw [upd_o (by omega)]; exact g3 i (by omega))
set_option maxHeartbeats 400000 in
set_option maxRecDepth 100000 in
theorem k_rem2 {Z : xZ} (hst : Z.1 53 3 = nI 5) : XC mX4_remembers 0 0 0 [.ref 53] (HP Z) (fun r h' => r = none ∧ ∃ Y, RM 5 Z Y ∧ h' = HP Y) := by
  show XW mX4_remembers 0 0 0 0 [some (.ref 53), none] [] (HP Z) _
  refine XW.aload_n 1 dX4_remembers_0 rfl rfl ?_
  refine XW.getf 4 (v := .int (Z.1 53 3)) f4_41 dX4_remembers_1 rfl rfl rfl ?_
  refine XW.iconst 5 dX4_remembers_4 (v := 5) (by decide) rfl ?_
  refine XW.icmp_neN 49 8 5 5 dX4_remembers_5 (by decide) rfl hst rfl (by omega) (by omega) (fun c_5 => ?_) (fun c_5 => ?_)
  · exact absurd c_5 (by decide)
  · refine XW.iconst 9 dX4_remembers_8 (v := 0) (by decide) rfl ?_
    refine XW.istore_n 10 (L' := [some (.ref 53), some (.int 0)]) dX4_remembers_9 (by decide) rfl rfl rfl ?_
    refine XW.eqs (L' := [some (.ref 53), some (.int (nI 0))]) (h' := HP (sA Z 56 (Z.2.1 56))) (by rfl) rfl (by rfl) ?_
    exact l_rem_10 hst 517 0 (Z.2.1 56) (by omega) (by omega) (fun i hi => absurd hi (by omega)) (fun i _ => rfl)
set_option maxHeartbeats 400000 in
set_option maxRecDepth 100000 in
theorem k_rem1 {Z : xZ} {st : Nat} (hst : Z.1 53 3 = nI st) (st5 : st < 5) : XC mX4_remembers 0 0 0 [.ref 53] (HP Z) (fun r h' => r = none ∧ ∃ Y, RM st Z Y ∧ h' = HP Y) := by
  show XW mX4_remembers 0 0 0 0 [some (.ref 53), none] [] (HP Z) _
  refine XW.aload_n 1 dX4_remembers_0 rfl rfl ?_
  refine XW.getf 4 (v := .int (Z.1 53 3)) f4_41 dX4_remembers_1 rfl rfl rfl ?_
  refine XW.iconst 5 dX4_remembers_4 (v := 5) (by decide) rfl ?_
  refine XW.icmp_neN 49 8 st 5 dX4_remembers_5 (by decide) rfl hst rfl (by omega) (by omega) (fun c_5 => ?_) (fun c_5 => ?_)
  · refine XW.iconst 50 dX4_remembers_49 (v := 0) (by decide) rfl ?_
    refine XW.istore_n 51 (L' := [some (.ref 53), some (.int 0)]) dX4_remembers_50 (by decide) rfl rfl rfl ?_
    refine XW.eqs (L' := [some (.ref 53), some (.int (nI 0))]) (h' := HP (sI (sA Z 56 (Z.2.1 56)) 53 3 (nI st))) (by rfl) rfl (by rw [sA_id, ← hst, sI_id]) ?_
    refine XW.post (l_rem_51 (s := st) (by omega) (Q0 := Z.2.1 56) 130 0 (Z.2.1 56) (by omega) (by omega) (fun i _ => rfl) (fun i hi => absurd hi (by omega))) (fun r h1 hq => ?_)
    obtain ⟨q1, Q', q2, q3, q4⟩ := hq
    exact ⟨q1, _, ⟨Q', rfl, fun _ => ⟨q3, q4⟩, fun h => absurd st5 h⟩, by rw [if_pos st5]; exact q2⟩
  · omega
theorem k_remembers {Z : xZ} {st : Nat} (hst : Z.1 53 3 = nI st) (st5 : st ≤ 5) : XC mX4_remembers 0 0 0 [.ref 53] (HP Z) (fun r h' => r = none ∧ ∃ Y, RM st Z Y ∧ h' = HP Y) := by
  by_cases h : st < 5
  · exact k_rem1 hst h
  · have e5 : st = 5 := by omega
    subst e5
    exact k_rem2 hst
theorem tu4 {Z : xZ} {a b c d : Nat → Int32} : sA (sA (sA (sA Z 54 a) 55 b) 54 c) 55 d = sA (sA Z 54 c) 55 d := by
  rw [sA_comm (sA Z 54 a) (a := 55) (b := 54) (by omega) b c, sA_same, sA_same]
set_option maxHeartbeats 400000 in
set_option maxRecDepth 100000 in
theorem l_turns {Z : xZ} : ∀ (n : Nat) (k : Nat) (Nn A : Nat → Int32), k ≤ 129 → 129 < k + n → (∀ i, i < k → Nn i = Z.2.1 55 i ∧ A i = Z.2.1 54 i) → (∀ i, k ≤ i → Nn i = Z.2.1 54 i ∧ A i = Z.2.1 55 i) → XW mX4_turns 0 0 0 2 [some (.ref 53), some (.int (nI k)), none] [] (HP (sA (sA Z 54 Nn) 55 A)) (fun r h' => r = none ∧ ∃ Nn A, h' = HP (sA (sA Z 54 Nn) 55 A) ∧ ∀ i, i < 129 → Nn i = Z.2.1 55 i ∧ A i = Z.2.1 54 i) := by
  intro n
  induction n with
  | zero => intro k Nn A g0 g1 g2 g3; omega
  | succ n ih =>
    intro k Nn A g0 g1 g2 g3
    refine XW.iload_n 3 dX4_turns_2 rfl rfl ?_
    refine XW.sipush 6 dX4_turns_3 (v := 129) (by decide) rfl ?_
    refine XW.icmp_geN 41 9 k 129 dX4_turns_6 (by decide) rfl rfl rfl (by omega) (by omega) (fun c_6 => ?_) (fun c_6 => ?_)
    · exact XW.vret dX4_turns_41 trivial (⟨rfl, Nn, A, rfl, fun i hi => g2 i (by omega)⟩)
    · refine XW.aload_n 10 dX4_turns_9 rfl rfl ?_
      refine XW.getf 13 (v := .ref 54) f4_7 dX4_turns_10 rfl rfl rfl ?_
      refine XW.iload_n 14 dX4_turns_13 rfl rfl ?_
      refine XW.iald 15 k dX4_turns_14 rfl rfl (by omega) (by decide) rfl ?_
      refine XW.istore_n 16 (L' := [some (.ref 53), some (.int (nI k)), some (.int (Nn k))]) dX4_turns_15 (by decide) rfl rfl rfl ?_
      refine XW.aload_n 17 dX4_turns_16 rfl rfl ?_
      refine XW.getf 20 (v := .ref 54) f4_7 dX4_turns_17 rfl rfl rfl ?_
      refine XW.iload_n 21 dX4_turns_20 rfl rfl ?_
      refine XW.aload_n 22 dX4_turns_21 rfl rfl ?_
      refine XW.getf 25 (v := .ref 55) f4_13 dX4_turns_22 rfl rfl rfl ?_
      refine XW.iload_n 26 dX4_turns_25 rfl rfl ?_
      refine XW.iald 27 k dX4_turns_26 rfl rfl (by omega) (by decide) rfl ?_
      refine XW.iast 28 (h' := HP (sA (sA (sA Z 54 Nn) 55 A) 54 (upd Nn k (A k)))) k dX4_turns_27 rfl rfl (by omega) (by decide) rfl rfl ?_
      refine XW.aload_n 29 dX4_turns_28 rfl rfl ?_
      refine XW.getf 32 (v := .ref 55) f4_13 dX4_turns_29 rfl rfl rfl ?_
      refine XW.iload_n 33 dX4_turns_32 rfl rfl ?_
      refine XW.iload_n 34 dX4_turns_33 rfl rfl ?_
      refine XW.iast 35 (h' := HP (sA (sA (sA (sA Z 54 Nn) 55 A) 54 (upd Nn k (A k))) 55 (upd A k (Nn k)))) k dX4_turns_34 rfl rfl (by omega) (by decide) rfl rfl ?_
      refine XW.iinc 38 (y := nI (k + 1)) (L' := [some (.ref 53), some (.int (nI (k + 1))), some (.int (Nn k))]) dX4_turns_35 rfl (na rfl rfl) (by decide) rfl rfl rfl ?_
      refine XW.goto 2 dX4_turns_38 (by decide) ?_
      refine XW.weak [true, true, false] (L' := [some (.ref 53), some (.int (nI (k + 1))), none]) rfl ?_
      refine XW.eqs (L' := [some (.ref 53), some (.int (nI (k + 1))), none]) (h' := HP (sA (sA Z 54 (upd Nn k (A k))) 55 (upd A k (Nn k)))) (by rfl) rfl (by exact congrArg HP tu4) ?_
      exact ih (k + 1) _ _ (by omega) (by omega) (fun i hi => by
            by_cases e : i = k
            · subst e; exact ⟨by rw [upd_s]; exact (g3 _ (by omega)).2, by rw [upd_s]; exact (g3 _ (by omega)).1⟩
            · rw [upd_o e, upd_o e]; exact g2 i (by omega)) (fun i hi => by rw [upd_o (by omega), upd_o (by omega)]; exact g3 i (by omega))
set_option maxHeartbeats 400000 in
set_option maxRecDepth 100000 in
theorem k_turns {Z : xZ} : XC mX4_turns 0 0 0 [.ref 53] (HP Z) (fun r h' => r = none ∧ ∃ Nn A, h' = HP (sA (sA Z 54 Nn) 55 A) ∧ ∀ i, i < 129 → Nn i = Z.2.1 55 i ∧ A i = Z.2.1 54 i) := by
  show XW mX4_turns 0 0 0 0 [some (.ref 53), none, none] [] (HP Z) _
  refine XW.iconst 1 dX4_turns_0 (v := 0) (by decide) rfl ?_
  refine XW.istore_n 2 (L' := [some (.ref 53), some (.int 0), none]) dX4_turns_1 (by decide) rfl rfl rfl ?_
  refine XW.eqs (L' := [some (.ref 53), some (.int (nI 0)), none]) (h' := HP (sA (sA Z 54 (Z.2.1 54)) 55 (Z.2.1 55))) (by rfl) rfl (by exact congrArg HP (by rw [sA_id, sA_id])) ?_
  exact l_turns 130 0 (Z.2.1 54) (Z.2.1 55) (by omega) (by omega) (fun i hi => absurd hi (by omega)) (fun i _ => ⟨rfl, rfl⟩)
set_option maxHeartbeats 400000 in
set_option maxRecDepth 100000 in
theorem l_kback {Z : xZ} {st : Nat} (s1 : 1 ≤ st) (st5 : st ≤ 5) : ∀ (n : Nat) (k : Nat) (Nn : Nat → Int32), k ≤ 129 → 129 < k + n → (∀ i, i < k → Nn i = Z.2.1 56 (129 * (st - 1) + i)) → XW mX4_back 4 0 0 24 [some (.ref 53), some (.int (nI k))] [] (HP (sA (sI Z 53 3 (nI (st - 1))) 54 Nn)) (fun r h' => r = some (.int (nI (st - 1))) ∧ ∃ Nn, h' = HP (sA (sI Z 53 3 (nI (st - 1))) 54 Nn) ∧ ∀ i, i < 129 → Nn i = Z.2.1 56 (129 * (st - 1) + i)) := by
  intro n
  induction n with
  | zero => intro k Nn g0 g1 g2; omega
  | succ n ih =>
    intro k Nn g0 g1 g2
    refine XW.iload_n 25 dX4_back_24 rfl rfl ?_
    refine XW.sipush 28 dX4_back_25 (v := 129) (by decide) rfl ?_
    refine XW.icmp_geN 58 31 k 129 dX4_back_28 (by decide) rfl rfl rfl (by omega) (by omega) (fun c_28 => ?_) (fun c_28 => ?_)
    · refine XW.aload_n 59 dX4_back_58 rfl rfl ?_
      refine XW.getf 62 (v := .int (nI (st - 1))) f4_41 dX4_back_59 rfl rfl rfl ?_
      exact XW.iret dX4_back_62 rfl (⟨rfl, Nn, rfl, fun i hi => g2 i (by omega)⟩)
    · refine XW.aload_n 32 dX4_back_31 rfl rfl ?_
      refine XW.getf 35 (v := .ref 54) f4_7 dX4_back_32 rfl rfl rfl ?_
      refine XW.iload_n 36 dX4_back_35 rfl rfl ?_
      refine XW.aload_n 37 dX4_back_36 rfl rfl ?_
      refine XW.getf 40 (v := .ref 56) f4_16 dX4_back_37 rfl rfl rfl ?_
      refine XW.sipush 43 dX4_back_40 (v := 129) (by decide) rfl ?_
      refine XW.aload_n 44 dX4_back_43 rfl rfl ?_
      refine XW.getf 47 (v := .int (nI (st - 1))) f4_41 dX4_back_44 rfl rfl rfl ?_
      refine XW.imul 48 dX4_back_47 rfl ?_
      refine XW.iload_n 49 dX4_back_48 rfl rfl ?_
      refine XW.iadd 50 dX4_back_49 rfl ?_
      refine XW.iald 51 (129 * (st - 1) + k) dX4_back_50 rfl (na (nm rfl rfl) rfl) (by omega) (by decide) rfl ?_
      refine XW.iast 52 (h' := HP (sA (sA (sI Z 53 3 (nI (st - 1))) 54 Nn) 54 (upd Nn k (Z.2.1 56 (129 * (st - 1) + k))))) k dX4_back_51 rfl rfl (by omega) (by decide) rfl rfl ?_
      refine XW.iinc 55 (y := nI (k + 1)) (L' := [some (.ref 53), some (.int (nI (k + 1)))]) dX4_back_52 rfl (na rfl rfl) (by decide) rfl rfl rfl ?_
      refine XW.goto 24 dX4_back_55 (by decide) ?_
      refine XW.eqs (L' := [some (.ref 53), some (.int (nI (k + 1)))]) (h' := HP (sA (sI Z 53 3 (nI (st - 1))) 54 (upd Nn k (Z.2.1 56 (129 * (st - 1) + k))))) (by rfl) rfl (by exact congrArg HP (sA_same _ _ _ _)) ?_
      exact ih (k + 1) _ (by omega) (by omega) (fun i hi => by
            by_cases e : i = k
            · subst e; exact upd_s
            · rw [upd_o e]; exact g2 i (by omega))
set_option maxHeartbeats 400000 in
set_option maxRecDepth 100000 in
theorem u_back_ok {Z : xZ} {st : Nat} (hst : Z.1 53 3 = nI st) (s1 : 1 ≤ st) (st5 : st ≤ 5) : XC mX4_back 4 0 0 [.ref 53] (HP Z) (fun r h' => r = some (.int (nI (st - 1))) ∧ ∃ Nn, h' = HP (sA (sI Z 53 3 (nI (st - 1))) 54 Nn) ∧ ∀ i, i < 129 → Nn i = Z.2.1 56 (129 * (st - 1) + i)) := by
  show XW mX4_back 4 0 0 0 [some (.ref 53), none] [] (HP Z) _
  refine XW.aload_n 1 dX4_back_0 rfl rfl ?_
  refine XW.getf 4 (v := .int (Z.1 53 3)) f4_41 dX4_back_1 rfl rfl rfl ?_
  refine XW.if_ne 12 7 dX4_back_4 (by decide) rfl (fun c_4 => ?_) (fun c_4 => ?_)
  · refine XW.aload_n 13 dX4_back_12 rfl rfl ?_
    refine XW.dup 14 dX4_back_13 rfl rfl ?_
    refine XW.getf 17 (v := .int (Z.1 53 3)) f4_41 dX4_back_14 rfl rfl rfl ?_
    refine XW.iconst 18 dX4_back_17 (v := 1) (by decide) rfl ?_
    refine XW.isub 19 dX4_back_18 rfl ?_
    refine XW.eqs (st' := [.int (nI (st - 1)), .ref 53]) rfl (by rw [show Z.1 53 3 - 1 = nI (st - 1) from ns hst (n := 1) rfl (by omega)]) rfl ?_
    refine XW.putf 22 (h' := HP (sI Z 53 3 (nI (st - 1)))) (p4_41 _) dX4_back_19 rfl (Nat.le_of_ble_eq_true rfl) (xfit_i _) rfl rfl ?_
    refine XW.iconst 23 dX4_back_22 (v := 0) (by decide) rfl ?_
    refine XW.istore_n 24 (L' := [some (.ref 53), some (.int 0)]) dX4_back_23 (by decide) rfl rfl rfl ?_
    refine XW.eqs (L' := [some (.ref 53), some (.int (nI 0))]) (h' := HP (sA (sI Z 53 3 (nI (st - 1))) 54 (Z.2.1 54))) (by rfl) rfl (by exact congrArg HP (sA_id (sI Z 53 3 (nI (st - 1))) 54).symm) ?_
    exact l_kback s1 st5 130 0 (Z.2.1 54) (by omega) (by omega) (fun i hi => absurd hi (by omega))
  · exact absurd c_4 (by rw [hst]; exact nI_ne0 (by omega) (by omega))
set_option maxHeartbeats 400000 in
set_option maxRecDepth 100000 in
theorem u_back_no {Z : xZ} (hst : Z.1 53 3 = nI 0) : XC mX4_back 4 0 0 [.ref 53] (HP Z) (fun r h' => r = some (.int (-3)) ∧ h' = HP (rmZ Z 1)) := by
  show XW mX4_back 4 0 0 0 [some (.ref 53), none] [] (HP Z) _
  refine XW.aload_n 1 dX4_back_0 rfl rfl ?_
  refine XW.getf 4 (v := .int (Z.1 53 3)) f4_41 dX4_back_1 rfl rfl rfl ?_
  refine XW.if_ne 12 7 dX4_back_4 (by decide) rfl (fun c_4 => ?_) (fun c_4 => ?_)
  · exact absurd (by rw [hst]; rfl) c_4
  · refine XW.aload_n 8 dX4_back_7 rfl rfl ?_
    refine XW.callV 11 (vs := []) (rest := []) (mcr := 0) (msr := 0) c4_45 dX4_back_8 rfl rfl (by decide) (Nat.le_of_ble_eq_true rfl) rfl rfl (Nat.le_of_ble_eq_true rfl) rfl k_no (fun r h1 hq => ?_)
    obtain ⟨rfl, rfl⟩ := hq
    refine XW.eqs (st' := [.int (-3)]) rfl rfl rfl ?_
    exact XW.iret dX4_back_11 rfl (⟨rfl, rfl⟩)
set_option maxHeartbeats 400000 in
set_option maxRecDepth 100000 in
theorem k_becomes {Z : xZ} {x : Int32} {k : Nat} (r g b : Int32) (hx : x = nI k) (hk : k + 2 < 129) : XC mX4_becomes 0 0 0 [.ref 53, .int x, .int r, .int g, .int b] (HP Z) (fun q h' => q = some (.int (otF (Z.2.1 54) k r g b)) ∧ h' = HP (sA Z 54 (up3 (Z.2.1 54) k r g b))) := by
  show XW mX4_becomes 0 0 0 0 [some (.ref 53), some (.int x), some (.int r), some (.int g), some (.int b), none] [] (HP Z) _
  refine XW.aload_n 1 dX4_becomes_0 rfl rfl ?_
  refine XW.getf 4 (v := .ref 54) f4_7 dX4_becomes_1 rfl rfl rfl ?_
  refine XW.iload_n 5 dX4_becomes_4 rfl rfl ?_
  refine XW.iald 6 k dX4_becomes_5 rfl hx (by omega) (by decide) rfl ?_
  refine XW.iload_n 7 dX4_becomes_6 rfl rfl ?_
  refine XW.icmp_ne 14 10 dX4_becomes_7 (by decide) rfl (fun c_7 => ?_) (fun c_7 => ?_)
  · refine XW.iconst 15 dX4_becomes_14 (v := 1) (by decide) rfl ?_
    refine XW.aload_n 16 dX4_becomes_15 rfl rfl ?_
    refine XW.getf 19 (v := .ref 54) f4_7 dX4_becomes_16 rfl rfl rfl ?_
    refine XW.iload_n 20 dX4_becomes_19 rfl rfl ?_
    refine XW.iconst 21 dX4_becomes_20 (v := 1) (by decide) rfl ?_
    refine XW.iadd 22 dX4_becomes_21 rfl ?_
    refine XW.iald 23 (k + 1) dX4_becomes_22 rfl (na hx rfl) (by omega) (by decide) rfl ?_
    refine XW.iload_n 24 dX4_becomes_23 rfl rfl ?_
    refine XW.icmp_ne 31 27 dX4_becomes_24 (by decide) rfl (fun c_24 => ?_) (fun c_24 => ?_)
    · refine XW.iconst 32 dX4_becomes_31 (v := 1) (by decide) rfl ?_
      refine XW.iadd 33 dX4_becomes_32 rfl ?_
      refine XW.aload_n 34 dX4_becomes_33 rfl rfl ?_
      refine XW.getf 37 (v := .ref 54) f4_7 dX4_becomes_34 rfl rfl rfl ?_
      refine XW.iload_n 38 dX4_becomes_37 rfl rfl ?_
      refine XW.iconst 39 dX4_becomes_38 (v := 2) (by decide) rfl ?_
      refine XW.iadd 40 dX4_becomes_39 rfl ?_
      refine XW.iald 41 (k + 2) dX4_becomes_40 rfl (na hx rfl) (by omega) (by decide) rfl ?_
      refine XW.iload 43 dX4_becomes_41 rfl rfl ?_
      refine XW.icmp_ne 50 46 dX4_becomes_43 (by decide) rfl (fun c_43 => ?_) (fun c_43 => ?_)
      · refine XW.iconst 51 dX4_becomes_50 (v := 1) (by decide) rfl ?_
        refine XW.iadd 52 dX4_becomes_51 rfl ?_
        refine XW.istore 54 (L' := [some (.ref 53), some (.int x), some (.int r), some (.int g), some (.int b), some (.int ((1 + 1) + 1))]) dX4_becomes_52 (by decide) rfl rfl rfl ?_
        refine XW.aload_n 55 dX4_becomes_54 rfl rfl ?_
        refine XW.getf 58 (v := .ref 54) f4_7 dX4_becomes_55 rfl rfl rfl ?_
        refine XW.iload_n 59 dX4_becomes_58 rfl rfl ?_
        refine XW.iload_n 60 dX4_becomes_59 rfl rfl ?_
        refine XW.iast 61 (h' := HP (sA Z 54 (upd (Z.2.1 54) k r))) k dX4_becomes_60 rfl hx (by omega) (by decide) rfl rfl ?_
        refine XW.aload_n 62 dX4_becomes_61 rfl rfl ?_
        refine XW.getf 65 (v := .ref 54) f4_7 dX4_becomes_62 rfl rfl rfl ?_
        refine XW.iload_n 66 dX4_becomes_65 rfl rfl ?_
        refine XW.iconst 67 dX4_becomes_66 (v := 1) (by decide) rfl ?_
        refine XW.iadd 68 dX4_becomes_67 rfl ?_
        refine XW.iload_n 69 dX4_becomes_68 rfl rfl ?_
        refine XW.iast 70 (h' := HP (sA (sA Z 54 (upd (Z.2.1 54) k r)) 54 (upd (upd (Z.2.1 54) k r) (k + 1) g))) (k + 1) dX4_becomes_69 rfl (na hx rfl) (by omega) (by decide) rfl rfl ?_
        refine XW.aload_n 71 dX4_becomes_70 rfl rfl ?_
        refine XW.getf 74 (v := .ref 54) f4_7 dX4_becomes_71 rfl rfl rfl ?_
        refine XW.iload_n 75 dX4_becomes_74 rfl rfl ?_
        refine XW.iconst 76 dX4_becomes_75 (v := 2) (by decide) rfl ?_
        refine XW.iadd 77 dX4_becomes_76 rfl ?_
        refine XW.iload 79 dX4_becomes_77 rfl rfl ?_
        refine XW.iast 80 (h' := HP (sA (sA (sA Z 54 (upd (Z.2.1 54) k r)) 54 (upd (upd (Z.2.1 54) k r) (k + 1) g)) 54 (upd (upd (upd (Z.2.1 54) k r) (k + 1) g) (k + 2) b))) (k + 2) dX4_becomes_79 rfl (na hx rfl) (by omega) (by decide) rfl rfl ?_
        refine XW.iload 82 dX4_becomes_80 rfl rfl ?_
        exact XW.iret dX4_becomes_82 rfl (⟨by simp [otF, *], rfl⟩)
      · refine XW.iconst 47 dX4_becomes_46 (v := 0) (by decide) rfl ?_
        refine XW.goto 51 dX4_becomes_47 (by decide) ?_
        refine XW.iadd 52 dX4_becomes_51 rfl ?_
        refine XW.istore 54 (L' := [some (.ref 53), some (.int x), some (.int r), some (.int g), some (.int b), some (.int ((1 + 1) + 0))]) dX4_becomes_52 (by decide) rfl rfl rfl ?_
        refine XW.aload_n 55 dX4_becomes_54 rfl rfl ?_
        refine XW.getf 58 (v := .ref 54) f4_7 dX4_becomes_55 rfl rfl rfl ?_
        refine XW.iload_n 59 dX4_becomes_58 rfl rfl ?_
        refine XW.iload_n 60 dX4_becomes_59 rfl rfl ?_
        refine XW.iast 61 (h' := HP (sA Z 54 (upd (Z.2.1 54) k r))) k dX4_becomes_60 rfl hx (by omega) (by decide) rfl rfl ?_
        refine XW.aload_n 62 dX4_becomes_61 rfl rfl ?_
        refine XW.getf 65 (v := .ref 54) f4_7 dX4_becomes_62 rfl rfl rfl ?_
        refine XW.iload_n 66 dX4_becomes_65 rfl rfl ?_
        refine XW.iconst 67 dX4_becomes_66 (v := 1) (by decide) rfl ?_
        refine XW.iadd 68 dX4_becomes_67 rfl ?_
        refine XW.iload_n 69 dX4_becomes_68 rfl rfl ?_
        refine XW.iast 70 (h' := HP (sA (sA Z 54 (upd (Z.2.1 54) k r)) 54 (upd (upd (Z.2.1 54) k r) (k + 1) g))) (k + 1) dX4_becomes_69 rfl (na hx rfl) (by omega) (by decide) rfl rfl ?_
        refine XW.aload_n 71 dX4_becomes_70 rfl rfl ?_
        refine XW.getf 74 (v := .ref 54) f4_7 dX4_becomes_71 rfl rfl rfl ?_
        refine XW.iload_n 75 dX4_becomes_74 rfl rfl ?_
        refine XW.iconst 76 dX4_becomes_75 (v := 2) (by decide) rfl ?_
        refine XW.iadd 77 dX4_becomes_76 rfl ?_
        refine XW.iload 79 dX4_becomes_77 rfl rfl ?_
        refine XW.iast 80 (h' := HP (sA (sA (sA Z 54 (upd (Z.2.1 54) k r)) 54 (upd (upd (Z.2.1 54) k r) (k + 1) g)) 54 (upd (upd (upd (Z.2.1 54) k r) (k + 1) g) (k + 2) b))) (k + 2) dX4_becomes_79 rfl (na hx rfl) (by omega) (by decide) rfl rfl ?_
        refine XW.iload 82 dX4_becomes_80 rfl rfl ?_
        exact XW.iret dX4_becomes_82 rfl (⟨by simp [otF, *], rfl⟩)
    · refine XW.iconst 28 dX4_becomes_27 (v := 0) (by decide) rfl ?_
      refine XW.goto 32 dX4_becomes_28 (by decide) ?_
      refine XW.iadd 33 dX4_becomes_32 rfl ?_
      refine XW.aload_n 34 dX4_becomes_33 rfl rfl ?_
      refine XW.getf 37 (v := .ref 54) f4_7 dX4_becomes_34 rfl rfl rfl ?_
      refine XW.iload_n 38 dX4_becomes_37 rfl rfl ?_
      refine XW.iconst 39 dX4_becomes_38 (v := 2) (by decide) rfl ?_
      refine XW.iadd 40 dX4_becomes_39 rfl ?_
      refine XW.iald 41 (k + 2) dX4_becomes_40 rfl (na hx rfl) (by omega) (by decide) rfl ?_
      refine XW.iload 43 dX4_becomes_41 rfl rfl ?_
      refine XW.icmp_ne 50 46 dX4_becomes_43 (by decide) rfl (fun c_43 => ?_) (fun c_43 => ?_)
      · refine XW.iconst 51 dX4_becomes_50 (v := 1) (by decide) rfl ?_
        refine XW.iadd 52 dX4_becomes_51 rfl ?_
        refine XW.istore 54 (L' := [some (.ref 53), some (.int x), some (.int r), some (.int g), some (.int b), some (.int ((1 + 0) + 1))]) dX4_becomes_52 (by decide) rfl rfl rfl ?_
        refine XW.aload_n 55 dX4_becomes_54 rfl rfl ?_
        refine XW.getf 58 (v := .ref 54) f4_7 dX4_becomes_55 rfl rfl rfl ?_
        refine XW.iload_n 59 dX4_becomes_58 rfl rfl ?_
        refine XW.iload_n 60 dX4_becomes_59 rfl rfl ?_
        refine XW.iast 61 (h' := HP (sA Z 54 (upd (Z.2.1 54) k r))) k dX4_becomes_60 rfl hx (by omega) (by decide) rfl rfl ?_
        refine XW.aload_n 62 dX4_becomes_61 rfl rfl ?_
        refine XW.getf 65 (v := .ref 54) f4_7 dX4_becomes_62 rfl rfl rfl ?_
        refine XW.iload_n 66 dX4_becomes_65 rfl rfl ?_
        refine XW.iconst 67 dX4_becomes_66 (v := 1) (by decide) rfl ?_
        refine XW.iadd 68 dX4_becomes_67 rfl ?_
        refine XW.iload_n 69 dX4_becomes_68 rfl rfl ?_
        refine XW.iast 70 (h' := HP (sA (sA Z 54 (upd (Z.2.1 54) k r)) 54 (upd (upd (Z.2.1 54) k r) (k + 1) g))) (k + 1) dX4_becomes_69 rfl (na hx rfl) (by omega) (by decide) rfl rfl ?_
        refine XW.aload_n 71 dX4_becomes_70 rfl rfl ?_
        refine XW.getf 74 (v := .ref 54) f4_7 dX4_becomes_71 rfl rfl rfl ?_
        refine XW.iload_n 75 dX4_becomes_74 rfl rfl ?_
        refine XW.iconst 76 dX4_becomes_75 (v := 2) (by decide) rfl ?_
        refine XW.iadd 77 dX4_becomes_76 rfl ?_
        refine XW.iload 79 dX4_becomes_77 rfl rfl ?_
        refine XW.iast 80 (h' := HP (sA (sA (sA Z 54 (upd (Z.2.1 54) k r)) 54 (upd (upd (Z.2.1 54) k r) (k + 1) g)) 54 (upd (upd (upd (Z.2.1 54) k r) (k + 1) g) (k + 2) b))) (k + 2) dX4_becomes_79 rfl (na hx rfl) (by omega) (by decide) rfl rfl ?_
        refine XW.iload 82 dX4_becomes_80 rfl rfl ?_
        exact XW.iret dX4_becomes_82 rfl (⟨by simp [otF, *], rfl⟩)
      · refine XW.iconst 47 dX4_becomes_46 (v := 0) (by decide) rfl ?_
        refine XW.goto 51 dX4_becomes_47 (by decide) ?_
        refine XW.iadd 52 dX4_becomes_51 rfl ?_
        refine XW.istore 54 (L' := [some (.ref 53), some (.int x), some (.int r), some (.int g), some (.int b), some (.int ((1 + 0) + 0))]) dX4_becomes_52 (by decide) rfl rfl rfl ?_
        refine XW.aload_n 55 dX4_becomes_54 rfl rfl ?_
        refine XW.getf 58 (v := .ref 54) f4_7 dX4_becomes_55 rfl rfl rfl ?_
        refine XW.iload_n 59 dX4_becomes_58 rfl rfl ?_
        refine XW.iload_n 60 dX4_becomes_59 rfl rfl ?_
        refine XW.iast 61 (h' := HP (sA Z 54 (upd (Z.2.1 54) k r))) k dX4_becomes_60 rfl hx (by omega) (by decide) rfl rfl ?_
        refine XW.aload_n 62 dX4_becomes_61 rfl rfl ?_
        refine XW.getf 65 (v := .ref 54) f4_7 dX4_becomes_62 rfl rfl rfl ?_
        refine XW.iload_n 66 dX4_becomes_65 rfl rfl ?_
        refine XW.iconst 67 dX4_becomes_66 (v := 1) (by decide) rfl ?_
        refine XW.iadd 68 dX4_becomes_67 rfl ?_
        refine XW.iload_n 69 dX4_becomes_68 rfl rfl ?_
        refine XW.iast 70 (h' := HP (sA (sA Z 54 (upd (Z.2.1 54) k r)) 54 (upd (upd (Z.2.1 54) k r) (k + 1) g))) (k + 1) dX4_becomes_69 rfl (na hx rfl) (by omega) (by decide) rfl rfl ?_
        refine XW.aload_n 71 dX4_becomes_70 rfl rfl ?_
        refine XW.getf 74 (v := .ref 54) f4_7 dX4_becomes_71 rfl rfl rfl ?_
        refine XW.iload_n 75 dX4_becomes_74 rfl rfl ?_
        refine XW.iconst 76 dX4_becomes_75 (v := 2) (by decide) rfl ?_
        refine XW.iadd 77 dX4_becomes_76 rfl ?_
        refine XW.iload 79 dX4_becomes_77 rfl rfl ?_
        refine XW.iast 80 (h' := HP (sA (sA (sA Z 54 (upd (Z.2.1 54) k r)) 54 (upd (upd (Z.2.1 54) k r) (k + 1) g)) 54 (upd (upd (upd (Z.2.1 54) k r) (k + 1) g) (k + 2) b))) (k + 2) dX4_becomes_79 rfl (na hx rfl) (by omega) (by decide) rfl rfl ?_
        refine XW.iload 82 dX4_becomes_80 rfl rfl ?_
        exact XW.iret dX4_becomes_82 rfl (⟨by simp [otF, *], rfl⟩)
  · refine XW.iconst 11 dX4_becomes_10 (v := 0) (by decide) rfl ?_
    refine XW.goto 15 dX4_becomes_11 (by decide) ?_
    refine XW.aload_n 16 dX4_becomes_15 rfl rfl ?_
    refine XW.getf 19 (v := .ref 54) f4_7 dX4_becomes_16 rfl rfl rfl ?_
    refine XW.iload_n 20 dX4_becomes_19 rfl rfl ?_
    refine XW.iconst 21 dX4_becomes_20 (v := 1) (by decide) rfl ?_
    refine XW.iadd 22 dX4_becomes_21 rfl ?_
    refine XW.iald 23 (k + 1) dX4_becomes_22 rfl (na hx rfl) (by omega) (by decide) rfl ?_
    refine XW.iload_n 24 dX4_becomes_23 rfl rfl ?_
    refine XW.icmp_ne 31 27 dX4_becomes_24 (by decide) rfl (fun c_24 => ?_) (fun c_24 => ?_)
    · refine XW.iconst 32 dX4_becomes_31 (v := 1) (by decide) rfl ?_
      refine XW.iadd 33 dX4_becomes_32 rfl ?_
      refine XW.aload_n 34 dX4_becomes_33 rfl rfl ?_
      refine XW.getf 37 (v := .ref 54) f4_7 dX4_becomes_34 rfl rfl rfl ?_
      refine XW.iload_n 38 dX4_becomes_37 rfl rfl ?_
      refine XW.iconst 39 dX4_becomes_38 (v := 2) (by decide) rfl ?_
      refine XW.iadd 40 dX4_becomes_39 rfl ?_
      refine XW.iald 41 (k + 2) dX4_becomes_40 rfl (na hx rfl) (by omega) (by decide) rfl ?_
      refine XW.iload 43 dX4_becomes_41 rfl rfl ?_
      refine XW.icmp_ne 50 46 dX4_becomes_43 (by decide) rfl (fun c_43 => ?_) (fun c_43 => ?_)
      · refine XW.iconst 51 dX4_becomes_50 (v := 1) (by decide) rfl ?_
        refine XW.iadd 52 dX4_becomes_51 rfl ?_
        refine XW.istore 54 (L' := [some (.ref 53), some (.int x), some (.int r), some (.int g), some (.int b), some (.int ((0 + 1) + 1))]) dX4_becomes_52 (by decide) rfl rfl rfl ?_
        refine XW.aload_n 55 dX4_becomes_54 rfl rfl ?_
        refine XW.getf 58 (v := .ref 54) f4_7 dX4_becomes_55 rfl rfl rfl ?_
        refine XW.iload_n 59 dX4_becomes_58 rfl rfl ?_
        refine XW.iload_n 60 dX4_becomes_59 rfl rfl ?_
        refine XW.iast 61 (h' := HP (sA Z 54 (upd (Z.2.1 54) k r))) k dX4_becomes_60 rfl hx (by omega) (by decide) rfl rfl ?_
        refine XW.aload_n 62 dX4_becomes_61 rfl rfl ?_
        refine XW.getf 65 (v := .ref 54) f4_7 dX4_becomes_62 rfl rfl rfl ?_
        refine XW.iload_n 66 dX4_becomes_65 rfl rfl ?_
        refine XW.iconst 67 dX4_becomes_66 (v := 1) (by decide) rfl ?_
        refine XW.iadd 68 dX4_becomes_67 rfl ?_
        refine XW.iload_n 69 dX4_becomes_68 rfl rfl ?_
        refine XW.iast 70 (h' := HP (sA (sA Z 54 (upd (Z.2.1 54) k r)) 54 (upd (upd (Z.2.1 54) k r) (k + 1) g))) (k + 1) dX4_becomes_69 rfl (na hx rfl) (by omega) (by decide) rfl rfl ?_
        refine XW.aload_n 71 dX4_becomes_70 rfl rfl ?_
        refine XW.getf 74 (v := .ref 54) f4_7 dX4_becomes_71 rfl rfl rfl ?_
        refine XW.iload_n 75 dX4_becomes_74 rfl rfl ?_
        refine XW.iconst 76 dX4_becomes_75 (v := 2) (by decide) rfl ?_
        refine XW.iadd 77 dX4_becomes_76 rfl ?_
        refine XW.iload 79 dX4_becomes_77 rfl rfl ?_
        refine XW.iast 80 (h' := HP (sA (sA (sA Z 54 (upd (Z.2.1 54) k r)) 54 (upd (upd (Z.2.1 54) k r) (k + 1) g)) 54 (upd (upd (upd (Z.2.1 54) k r) (k + 1) g) (k + 2) b))) (k + 2) dX4_becomes_79 rfl (na hx rfl) (by omega) (by decide) rfl rfl ?_
        refine XW.iload 82 dX4_becomes_80 rfl rfl ?_
        exact XW.iret dX4_becomes_82 rfl (⟨by simp [otF, *], rfl⟩)
      · refine XW.iconst 47 dX4_becomes_46 (v := 0) (by decide) rfl ?_
        refine XW.goto 51 dX4_becomes_47 (by decide) ?_
        refine XW.iadd 52 dX4_becomes_51 rfl ?_
        refine XW.istore 54 (L' := [some (.ref 53), some (.int x), some (.int r), some (.int g), some (.int b), some (.int ((0 + 1) + 0))]) dX4_becomes_52 (by decide) rfl rfl rfl ?_
        refine XW.aload_n 55 dX4_becomes_54 rfl rfl ?_
        refine XW.getf 58 (v := .ref 54) f4_7 dX4_becomes_55 rfl rfl rfl ?_
        refine XW.iload_n 59 dX4_becomes_58 rfl rfl ?_
        refine XW.iload_n 60 dX4_becomes_59 rfl rfl ?_
        refine XW.iast 61 (h' := HP (sA Z 54 (upd (Z.2.1 54) k r))) k dX4_becomes_60 rfl hx (by omega) (by decide) rfl rfl ?_
        refine XW.aload_n 62 dX4_becomes_61 rfl rfl ?_
        refine XW.getf 65 (v := .ref 54) f4_7 dX4_becomes_62 rfl rfl rfl ?_
        refine XW.iload_n 66 dX4_becomes_65 rfl rfl ?_
        refine XW.iconst 67 dX4_becomes_66 (v := 1) (by decide) rfl ?_
        refine XW.iadd 68 dX4_becomes_67 rfl ?_
        refine XW.iload_n 69 dX4_becomes_68 rfl rfl ?_
        refine XW.iast 70 (h' := HP (sA (sA Z 54 (upd (Z.2.1 54) k r)) 54 (upd (upd (Z.2.1 54) k r) (k + 1) g))) (k + 1) dX4_becomes_69 rfl (na hx rfl) (by omega) (by decide) rfl rfl ?_
        refine XW.aload_n 71 dX4_becomes_70 rfl rfl ?_
        refine XW.getf 74 (v := .ref 54) f4_7 dX4_becomes_71 rfl rfl rfl ?_
        refine XW.iload_n 75 dX4_becomes_74 rfl rfl ?_
        refine XW.iconst 76 dX4_becomes_75 (v := 2) (by decide) rfl ?_
        refine XW.iadd 77 dX4_becomes_76 rfl ?_
        refine XW.iload 79 dX4_becomes_77 rfl rfl ?_
        refine XW.iast 80 (h' := HP (sA (sA (sA Z 54 (upd (Z.2.1 54) k r)) 54 (upd (upd (Z.2.1 54) k r) (k + 1) g)) 54 (upd (upd (upd (Z.2.1 54) k r) (k + 1) g) (k + 2) b))) (k + 2) dX4_becomes_79 rfl (na hx rfl) (by omega) (by decide) rfl rfl ?_
        refine XW.iload 82 dX4_becomes_80 rfl rfl ?_
        exact XW.iret dX4_becomes_82 rfl (⟨by simp [otF, *], rfl⟩)
    · refine XW.iconst 28 dX4_becomes_27 (v := 0) (by decide) rfl ?_
      refine XW.goto 32 dX4_becomes_28 (by decide) ?_
      refine XW.iadd 33 dX4_becomes_32 rfl ?_
      refine XW.aload_n 34 dX4_becomes_33 rfl rfl ?_
      refine XW.getf 37 (v := .ref 54) f4_7 dX4_becomes_34 rfl rfl rfl ?_
      refine XW.iload_n 38 dX4_becomes_37 rfl rfl ?_
      refine XW.iconst 39 dX4_becomes_38 (v := 2) (by decide) rfl ?_
      refine XW.iadd 40 dX4_becomes_39 rfl ?_
      refine XW.iald 41 (k + 2) dX4_becomes_40 rfl (na hx rfl) (by omega) (by decide) rfl ?_
      refine XW.iload 43 dX4_becomes_41 rfl rfl ?_
      refine XW.icmp_ne 50 46 dX4_becomes_43 (by decide) rfl (fun c_43 => ?_) (fun c_43 => ?_)
      · refine XW.iconst 51 dX4_becomes_50 (v := 1) (by decide) rfl ?_
        refine XW.iadd 52 dX4_becomes_51 rfl ?_
        refine XW.istore 54 (L' := [some (.ref 53), some (.int x), some (.int r), some (.int g), some (.int b), some (.int ((0 + 0) + 1))]) dX4_becomes_52 (by decide) rfl rfl rfl ?_
        refine XW.aload_n 55 dX4_becomes_54 rfl rfl ?_
        refine XW.getf 58 (v := .ref 54) f4_7 dX4_becomes_55 rfl rfl rfl ?_
        refine XW.iload_n 59 dX4_becomes_58 rfl rfl ?_
        refine XW.iload_n 60 dX4_becomes_59 rfl rfl ?_
        refine XW.iast 61 (h' := HP (sA Z 54 (upd (Z.2.1 54) k r))) k dX4_becomes_60 rfl hx (by omega) (by decide) rfl rfl ?_
        refine XW.aload_n 62 dX4_becomes_61 rfl rfl ?_
        refine XW.getf 65 (v := .ref 54) f4_7 dX4_becomes_62 rfl rfl rfl ?_
        refine XW.iload_n 66 dX4_becomes_65 rfl rfl ?_
        refine XW.iconst 67 dX4_becomes_66 (v := 1) (by decide) rfl ?_
        refine XW.iadd 68 dX4_becomes_67 rfl ?_
        refine XW.iload_n 69 dX4_becomes_68 rfl rfl ?_
        refine XW.iast 70 (h' := HP (sA (sA Z 54 (upd (Z.2.1 54) k r)) 54 (upd (upd (Z.2.1 54) k r) (k + 1) g))) (k + 1) dX4_becomes_69 rfl (na hx rfl) (by omega) (by decide) rfl rfl ?_
        refine XW.aload_n 71 dX4_becomes_70 rfl rfl ?_
        refine XW.getf 74 (v := .ref 54) f4_7 dX4_becomes_71 rfl rfl rfl ?_
        refine XW.iload_n 75 dX4_becomes_74 rfl rfl ?_
        refine XW.iconst 76 dX4_becomes_75 (v := 2) (by decide) rfl ?_
        refine XW.iadd 77 dX4_becomes_76 rfl ?_
        refine XW.iload 79 dX4_becomes_77 rfl rfl ?_
        refine XW.iast 80 (h' := HP (sA (sA (sA Z 54 (upd (Z.2.1 54) k r)) 54 (upd (upd (Z.2.1 54) k r) (k + 1) g)) 54 (upd (upd (upd (Z.2.1 54) k r) (k + 1) g) (k + 2) b))) (k + 2) dX4_becomes_79 rfl (na hx rfl) (by omega) (by decide) rfl rfl ?_
        refine XW.iload 82 dX4_becomes_80 rfl rfl ?_
        exact XW.iret dX4_becomes_82 rfl (⟨by simp [otF, *], rfl⟩)
      · refine XW.iconst 47 dX4_becomes_46 (v := 0) (by decide) rfl ?_
        refine XW.goto 51 dX4_becomes_47 (by decide) ?_
        refine XW.iadd 52 dX4_becomes_51 rfl ?_
        refine XW.istore 54 (L' := [some (.ref 53), some (.int x), some (.int r), some (.int g), some (.int b), some (.int ((0 + 0) + 0))]) dX4_becomes_52 (by decide) rfl rfl rfl ?_
        refine XW.aload_n 55 dX4_becomes_54 rfl rfl ?_
        refine XW.getf 58 (v := .ref 54) f4_7 dX4_becomes_55 rfl rfl rfl ?_
        refine XW.iload_n 59 dX4_becomes_58 rfl rfl ?_
        refine XW.iload_n 60 dX4_becomes_59 rfl rfl ?_
        refine XW.iast 61 (h' := HP (sA Z 54 (upd (Z.2.1 54) k r))) k dX4_becomes_60 rfl hx (by omega) (by decide) rfl rfl ?_
        refine XW.aload_n 62 dX4_becomes_61 rfl rfl ?_
        refine XW.getf 65 (v := .ref 54) f4_7 dX4_becomes_62 rfl rfl rfl ?_
        refine XW.iload_n 66 dX4_becomes_65 rfl rfl ?_
        refine XW.iconst 67 dX4_becomes_66 (v := 1) (by decide) rfl ?_
        refine XW.iadd 68 dX4_becomes_67 rfl ?_
        refine XW.iload_n 69 dX4_becomes_68 rfl rfl ?_
        refine XW.iast 70 (h' := HP (sA (sA Z 54 (upd (Z.2.1 54) k r)) 54 (upd (upd (Z.2.1 54) k r) (k + 1) g))) (k + 1) dX4_becomes_69 rfl (na hx rfl) (by omega) (by decide) rfl rfl ?_
        refine XW.aload_n 71 dX4_becomes_70 rfl rfl ?_
        refine XW.getf 74 (v := .ref 54) f4_7 dX4_becomes_71 rfl rfl rfl ?_
        refine XW.iload_n 75 dX4_becomes_74 rfl rfl ?_
        refine XW.iconst 76 dX4_becomes_75 (v := 2) (by decide) rfl ?_
        refine XW.iadd 77 dX4_becomes_76 rfl ?_
        refine XW.iload 79 dX4_becomes_77 rfl rfl ?_
        refine XW.iast 80 (h' := HP (sA (sA (sA Z 54 (upd (Z.2.1 54) k r)) 54 (upd (upd (Z.2.1 54) k r) (k + 1) g)) 54 (upd (upd (upd (Z.2.1 54) k r) (k + 1) g) (k + 2) b))) (k + 2) dX4_becomes_79 rfl (na hx rfl) (by omega) (by decide) rfl rfl ?_
        refine XW.iload 82 dX4_becomes_80 rfl rfl ?_
        exact XW.iret dX4_becomes_82 rfl (⟨by simp [otF, *], rfl⟩)
theorem otF_nn {f : Nat → Int32} {k : Nat} {r g b : Int32} : 0 ≤ otF f k r g b := by
  unfold otF; split <;> split <;> split <;> decide
theorem up3_o {f : Nat → Int32} {k j : Nat} {r g b : Int32} (h : j < k ∨ k + 2 < j) : up3 f k r g b j = f j := by unfold up3; rw [upd_o (by omega), upd_o (by omega), upd_o (by omega)]
set_option maxHeartbeats 400000 in
set_option maxRecDepth 100000 in
theorem k_comes {Z : xZ} {c : Nat} (r g b : Int32) (hc : Z.2.1 54 0 = nI c) (c20 : c < 20) : XC mX4_comes 1 0 0 [.ref 53, .int r, .int g, .int b] (HP Z) (fun q h' => q = some (.int (nI c)) ∧ h' = HP (sA Z 54 (upd (up3 (Z.2.1 54) (1 + 3 * c) r g b) 0 (nI (c + 1))))) := by
  show XW mX4_comes 1 0 0 0 [some (.ref 53), some (.int r), some (.int g), some (.int b), none] [] (HP Z) _
  refine XW.aload_n 1 dX4_comes_0 rfl rfl ?_
  refine XW.aload_n 2 dX4_comes_1 rfl rfl ?_
  refine XW.aload_n 3 dX4_comes_2 rfl rfl ?_
  refine XW.getf 6 (v := .ref 54) f4_7 dX4_comes_3 rfl rfl rfl ?_
  refine XW.iconst 7 dX4_comes_6 (v := 0) (by decide) rfl ?_
  refine XW.iald 8 0 dX4_comes_7 rfl rfl (by omega) (by decide) rfl ?_
  refine XW.callV 11 (vs := [.int (Z.2.1 54 0)]) (rest := [.ref 53]) (mcr := 0) (msr := 0) c4_57 dX4_comes_8 rfl rfl (by decide) (Nat.le_of_ble_eq_true rfl) rfl rfl (Nat.le_of_ble_eq_true rfl) rfl (k_colourAt _) (fun r h1 hq => ?_)
  obtain ⟨rfl, rfl⟩ := hq
  refine XW.iload_n 12 dX4_comes_11 rfl rfl ?_
  refine XW.iload_n 13 dX4_comes_12 rfl rfl ?_
  refine XW.iload_n 14 dX4_comes_13 rfl rfl ?_
  refine XW.callV 17 (vs := [.int (1 + 3 * (Z.2.1 54 0)), .int r, .int g, .int b]) (rest := []) (mcr := 0) (msr := 0) c4_61 dX4_comes_14 rfl rfl (by decide) (Nat.le_of_ble_eq_true rfl) rfl rfl (Nat.le_of_ble_eq_true rfl) rfl (k_becomes (k := 1 + 3 * c) _ _ _ (na (m := 1) rfl (nm (m := 3) rfl hc)) (by omega)) (fun r h1 hq => ?_)
  obtain ⟨rfl, rfl⟩ := hq
  refine XW.eqs (st' := [.int (otF (Z.2.1 54) (1 + 3 * c) r g b)]) rfl rfl rfl ?_
  refine XW.istore 19 (L' := [some (.ref 53), some (.int r), some (.int g), some (.int b), some (.int (otF (Z.2.1 54) (1 + 3 * c) r g b))]) dX4_comes_17 (by decide) rfl rfl rfl ?_
  refine XW.aload_n 20 dX4_comes_19 rfl rfl ?_
  refine XW.getf 23 (v := .ref 54) f4_7 dX4_comes_20 rfl rfl rfl ?_
  refine XW.iconst 24 dX4_comes_23 (v := 0) (by decide) rfl ?_
  refine XW.dup2 25 dX4_comes_24 rfl rfl rfl ?_
  refine XW.iald 26 0 dX4_comes_25 rfl rfl (by omega) (by decide) rfl ?_
  refine XW.iconst 27 dX4_comes_26 (v := 1) (by decide) rfl ?_
  refine XW.iadd 28 dX4_comes_27 rfl ?_
  refine XW.eqs (st' := [.int (nI (c + 1)), .int 0, .ref 54]) rfl (by show [Value.int (up3 (Z.2.1 54) (1 + 3 * c) r g b 0 + 1), Value.int 0, Value.ref 54] = _; rw [show up3 (Z.2.1 54) (1 + 3 * c) r g b 0 + 1 = nI (c + 1) from na (n := 1) ((up3_o (by omega)).trans hc) rfl]) rfl ?_
  refine XW.iast 29 (h' := HP (sA (sA Z 54 (up3 (Z.2.1 54) (1 + 3 * c) r g b)) 54 (upd (up3 (Z.2.1 54) (1 + 3 * c) r g b) 0 (nI (c + 1))))) 0 dX4_comes_28 rfl rfl (by omega) (by decide) rfl rfl ?_
  refine XW.iload 31 dX4_comes_29 rfl rfl ?_
  refine XW.if_ge 38 34 dX4_comes_31 (by decide) rfl (fun c_31 => ?_) (fun c_31 => ?_)
  · refine XW.aload_n 39 dX4_comes_38 rfl rfl ?_
    refine XW.getf 42 (v := .ref 54) f4_7 dX4_comes_39 rfl rfl rfl ?_
    refine XW.iconst 43 dX4_comes_42 (v := 0) (by decide) rfl ?_
    refine XW.iald 44 0 dX4_comes_43 rfl rfl (by omega) (by decide) rfl ?_
    refine XW.iconst 45 dX4_comes_44 (v := 1) (by decide) rfl ?_
    refine XW.isub 46 dX4_comes_45 rfl ?_
    exact XW.iret dX4_comes_46 rfl (⟨by show some (Value.int (upd (up3 (Z.2.1 54) (1 + 3 * c) r g b) 0 (nI (c + 1)) 0 - 1)) = _; rw [upd_s, show nI (c + 1) - 1 = nI (c + 1 - 1) from ns (n := 1) rfl rfl (by omega)]; rfl, congrArg HP (sA_same _ _ _ _)⟩)
  · exact absurd otF_nn c_31
set_option maxHeartbeats 400000 in
set_option maxRecDepth 100000 in
theorem k_exchanges {Z : xZ} {x : Int32} {k : Nat} (v : Int32) (hx : x = nI k) (hk : k < 129) : XC mX4_exchanges 0 0 0 [.ref 53, .int x, .int v] (HP Z) (fun q h' => q = some (.int (Z.2.1 54 k)) ∧ h' = HP (sA Z 54 (upd (Z.2.1 54) k v))) := by
  show XW mX4_exchanges 0 0 0 0 [some (.ref 53), some (.int x), some (.int v), none] [] (HP Z) _
  refine XW.aload_n 1 dX4_exchanges_0 rfl rfl ?_
  refine XW.getf 4 (v := .ref 54) f4_7 dX4_exchanges_1 rfl rfl rfl ?_
  refine XW.iload_n 5 dX4_exchanges_4 rfl rfl ?_
  refine XW.iald 6 k dX4_exchanges_5 rfl hx (by omega) (by decide) rfl ?_
  refine XW.istore_n 7 (L' := [some (.ref 53), some (.int x), some (.int v), some (.int (Z.2.1 54 k))]) dX4_exchanges_6 (by decide) rfl rfl rfl ?_
  refine XW.aload_n 8 dX4_exchanges_7 rfl rfl ?_
  refine XW.getf 11 (v := .ref 54) f4_7 dX4_exchanges_8 rfl rfl rfl ?_
  refine XW.iload_n 12 dX4_exchanges_11 rfl rfl ?_
  refine XW.iload_n 13 dX4_exchanges_12 rfl rfl ?_
  refine XW.iast 14 (h' := HP (sA Z 54 (upd (Z.2.1 54) k v))) k dX4_exchanges_13 rfl hx (by omega) (by decide) rfl rfl ?_
  refine XW.iload_n 15 dX4_exchanges_14 rfl rfl ?_
  exact XW.iret dX4_exchanges_15 rfl (⟨rfl, rfl⟩)
set_option maxHeartbeats 400000 in
set_option maxRecDepth 100000 in
theorem k_fixesOne {Z : xZ} (i on : Int32) : XC mX4_fixesOne 1 0 0 [.ref 53, .int i, .int on] (HP Z) (fun q h' => q = some (.int (biF ((Z.2.1 54 61 &&& ((1 <<< (i &&& 31)) ^^^ (-1))) ||| (on <<< (i &&& 31))) 20)) ∧ h' = HP (sA Z 54 (upd (Z.2.1 54) 61 ((Z.2.1 54 61 &&& ((1 <<< (i &&& 31)) ^^^ (-1))) ||| (on <<< (i &&& 31)))))) := by
  show XW mX4_fixesOne 1 0 0 0 [some (.ref 53), some (.int i), some (.int on)] [] (HP Z) _
  refine XW.aload_n 1 dX4_fixesOne_0 rfl rfl ?_
  refine XW.getf 4 (v := .ref 54) f4_7 dX4_fixesOne_1 rfl rfl rfl ?_
  refine XW.bipush 6 dX4_fixesOne_4 (v := 61) (by decide) rfl ?_
  refine XW.aload_n 7 dX4_fixesOne_6 rfl rfl ?_
  refine XW.getf 10 (v := .ref 54) f4_7 dX4_fixesOne_7 rfl rfl rfl ?_
  refine XW.bipush 12 dX4_fixesOne_10 (v := 61) (by decide) rfl ?_
  refine XW.iald 13 61 dX4_fixesOne_12 rfl rfl (by omega) (by decide) rfl ?_
  refine XW.iconst 14 dX4_fixesOne_13 (v := 1) (by decide) rfl ?_
  refine XW.iload_n 15 dX4_fixesOne_14 rfl rfl ?_
  refine XW.ishl 16 dX4_fixesOne_15 rfl ?_
  refine XW.iconst 17 dX4_fixesOne_16 (v := -1) (by decide) rfl ?_
  refine XW.ixor 18 dX4_fixesOne_17 rfl ?_
  refine XW.iand 19 dX4_fixesOne_18 rfl ?_
  refine XW.iload_n 20 dX4_fixesOne_19 rfl rfl ?_
  refine XW.iload_n 21 dX4_fixesOne_20 rfl rfl ?_
  refine XW.ishl 22 dX4_fixesOne_21 rfl ?_
  refine XW.ior 23 dX4_fixesOne_22 rfl ?_
  refine XW.iast 24 (h' := HP (sA Z 54 (upd (Z.2.1 54) 61 (((Z.2.1 54 61) &&& ((1 <<< (i &&& 31)) ^^^ (-1))) ||| (on <<< (i &&& 31)))))) 61 dX4_fixesOne_23 rfl rfl (by omega) (by decide) rfl rfl ?_
  refine XW.aload_n 25 dX4_fixesOne_24 rfl rfl ?_
  refine XW.getf 28 (v := .ref 54) f4_7 dX4_fixesOne_25 rfl rfl rfl ?_
  refine XW.bipush 30 dX4_fixesOne_28 (v := 61) (by decide) rfl ?_
  refine XW.iald 31 61 dX4_fixesOne_30 rfl rfl (by omega) (by decide) rfl ?_
  refine XW.callS 34 (vs := [.int ((upd (Z.2.1 54) 61 (((Z.2.1 54 61) &&& ((1 <<< (i &&& 31)) ^^^ (-1))) ||| (on <<< (i &&& 31)))) 61)]) (rest := []) (mcr := 0) (msr := 0) c4_95 dX4_fixesOne_31 rfl (by decide) (Nat.le_of_ble_eq_true rfl) rfl rfl (Nat.le_of_ble_eq_true rfl) rfl (k_bitsIn _ _) (fun r h1 hq => ?_)
  obtain ⟨rfl, rfl⟩ := hq
  refine XW.eqs (st' := [.int (biF ((upd (Z.2.1 54) 61 (((Z.2.1 54 61) &&& ((1 <<< (i &&& 31)) ^^^ (-1))) ||| (on <<< (i &&& 31)))) 61) 20)]) rfl rfl rfl ?_
  exact XW.iret dX4_fixesOne_34 rfl (⟨rfl, rfl⟩)
set_option maxHeartbeats 400000 in
set_option maxRecDepth 100000 in
theorem k_limits {Z : xZ} (x y : Int32) : XC mX4_limits 2 0 0 [.ref 53, .int x, .int y] (HP Z) (fun q h' => q = some (.int (b2i (inF x 0 255 && inF y 0 255))) ∧ ((inF x 0 255 && inF y 0 255) = true → h' = HP (sA Z 54 (upd (upd (Z.2.1 54) 114 x) 115 y))) ∧ ((inF x 0 255 && inF y 0 255) = false → h' = HP Z)) := by
  show XW mX4_limits 2 0 0 0 [some (.ref 53), some (.int x), some (.int y)] [] (HP Z) _
  refine XW.iload_n 1 dX4_limits_0 rfl rfl ?_
  refine XW.callS 4 (vs := [.int x]) (rest := []) (mcr := 0) (msr := 0) c4_53 dX4_limits_1 rfl (by decide) (Nat.le_of_ble_eq_true rfl) rfl rfl (Nat.le_of_ble_eq_true rfl) rfl (k_isPart _ _) (fun r h1 hq => ?_)
  obtain ⟨rfl, rfl⟩ := hq
  refine XW.if_eqB 14 7 dX4_limits_4 (by decide) rfl (fun c_4 => ?_) (fun c_4 => ?_)
  · refine XW.iconst 15 dX4_limits_14 (v := 0) (by decide) rfl ?_
    exact XW.iret dX4_limits_15 rfl (by first | exact ⟨by rw [c_4]; rfl, fun q => absurd q (by rw [c_4, Bool.false_and]; decide), fun _ => rfl⟩ | exact ⟨by rw [c_4, c_11]; rfl, fun q => absurd q (by rw [c_4, c_11]; decide), fun _ => rfl⟩)
  · refine XW.iload_n 8 dX4_limits_7 rfl rfl ?_
    refine XW.callS 11 (vs := [.int y]) (rest := []) (mcr := 0) (msr := 0) c4_53 dX4_limits_8 rfl (by decide) (Nat.le_of_ble_eq_true rfl) rfl rfl (Nat.le_of_ble_eq_true rfl) rfl (k_isPart _ _) (fun r h1 hq => ?_)
    obtain ⟨rfl, rfl⟩ := hq
    refine XW.if_neB 16 14 dX4_limits_11 (by decide) rfl (fun c_11 => ?_) (fun c_11 => ?_)
    · refine XW.aload_n 17 dX4_limits_16 rfl rfl ?_
      refine XW.getf 20 (v := .ref 54) f4_7 dX4_limits_17 rfl rfl rfl ?_
      refine XW.bipush 22 dX4_limits_20 (v := 114) (by decide) rfl ?_
      refine XW.iload_n 23 dX4_limits_22 rfl rfl ?_
      refine XW.iast 24 (h' := HP (sA Z 54 (upd (Z.2.1 54) 114 x))) 114 dX4_limits_23 rfl rfl (by omega) (by decide) rfl rfl ?_
      refine XW.aload_n 25 dX4_limits_24 rfl rfl ?_
      refine XW.getf 28 (v := .ref 54) f4_7 dX4_limits_25 rfl rfl rfl ?_
      refine XW.bipush 30 dX4_limits_28 (v := 115) (by decide) rfl ?_
      refine XW.iload_n 31 dX4_limits_30 rfl rfl ?_
      refine XW.iast 32 (h' := HP (sA (sA Z 54 (upd (Z.2.1 54) 114 x)) 54 (upd (upd (Z.2.1 54) 114 x) 115 y))) 115 dX4_limits_31 rfl rfl (by omega) (by decide) rfl rfl ?_
      refine XW.iconst 33 dX4_limits_32 (v := 1) (by decide) rfl ?_
      exact XW.iret dX4_limits_33 rfl (⟨by rw [c_4, c_11]; rfl, fun _ => congrArg HP (sA_same _ _ _ _), fun q => absurd q (by rw [c_4, c_11]; decide)⟩)
    · refine XW.iconst 15 dX4_limits_14 (v := 0) (by decide) rfl ?_
      exact XW.iret dX4_limits_15 rfl (by first | exact ⟨by rw [c_4]; rfl, fun q => absurd q (by rw [c_4, Bool.false_and]; decide), fun _ => rfl⟩ | exact ⟨by rw [c_4, c_11]; rfl, fun q => absurd q (by rw [c_4, c_11]; decide), fun _ => rfl⟩)
