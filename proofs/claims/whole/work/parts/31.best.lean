/-! The class: the best set, mistaken pairs -/
def nxtF (set : Int32) : Int32 := (set + (set &&& (-set))) ||| ((set ^^^ (set + (set &&& (-set)))).toUInt32 >>> ((2 + bcF ((set &&& (-set)) - 1)).toUInt32 &&& Int32.toUInt32 31)).toInt32
/-- the members of a set, into a row of four -/
def lmS (set : Int32) (mem : Nat → Int32) : Nat → (Nat → Int32) × Nat := itF (fun i s => if s.2 < 4 ∧ bitB set (nI i) = true then (upd s.1 s.2 (nI i), s.2 + 1) else s) (mem, 0)
theorem lmS_t {set : Int32} {mem : Nat → Int32} {i : Nat} (h1 : (lmS set mem i).2 < 4) (h2 : bitB set (nI i) = true) : lmS set mem (i + 1) = (upd (lmS set mem i).1 (lmS set mem i).2 (nI i), (lmS set mem i).2 + 1) := if_pos ⟨h1, h2⟩
theorem lmS_f {set : Int32} {mem : Nat → Int32} {i : Nat} (h : ¬ ((lmS set mem i).2 < 4 ∧ bitB set (nI i) = true)) : lmS set mem (i + 1) = lmS set mem i := if_neg h
theorem lmS_full {set : Int32} {mem : Nat → Int32} {i : Nat} (h : 4 ≤ (lmS set mem i).2) : ∀ k, lmS set mem (i + k) = lmS set mem i
  | 0 => rfl
  | k + 1 => by rw [show i + (k + 1) = (i + k) + 1 from rfl, lmS_f (by rw [lmS_full h k]; omega), lmS_full h k]
theorem lmS_le {set : Int32} {mem : Nat → Int32} : ∀ i, (lmS set mem i).2 ≤ 4
  | 0 => by show 0 ≤ 4; omega
  | i + 1 => by
    have ih := lmS_le (set := set) (mem := mem) i
    by_cases h : (lmS set mem i).2 < 4 ∧ bitB set (nI i) = true
    · rw [lmS_t h.1 h.2]; exact h.1
    · rw [lmS_f h]; exact ih
theorem lmS_ok {set : Int32} {mem : Nat → Int32} : ∀ i, i ≤ 32 → rowOK (lmS set mem i).1 (lmS set mem i).2 i ∧ rowDI (lmS set mem i).1 (lmS set mem i).2 ∧ ∀ p, p < (lmS set mem i).2 → bitB set (nI (rv (lmS set mem i).1 p)) = true
  | 0, _ => ⟨fun p hp => absurd hp (Nat.not_lt_zero p), fun a b _ hb => absurd hb (Nat.not_lt_zero b), fun p hp => absurd hp (Nat.not_lt_zero p)⟩
  | i + 1, hi => by
    obtain ⟨h1, h2, h3⟩ := lmS_ok (set := set) (mem := mem) i (by omega)
    have h1' : rowOK (lmS set mem i).1 (lmS set mem i).2 (i + 1) := fun p hp => ⟨(h1 p hp).1, Nat.lt_succ_of_lt (h1 p hp).2⟩
    by_cases h : (lmS set mem i).2 < 4 ∧ bitB set (nI i) = true
    · rw [lmS_t h.1 h.2]
      refine ⟨rowOK_push h1' (by omega) (by omega), rowDI_push h2 (fun p hp e => by have := (h1 p hp).2; omega) (by omega), fun p hp => ?_⟩
      by_cases e : p = (lmS set mem i).2
      · rw [e, rv_upd_self _ _ _ (by omega)]; exact h.2
      · rw [rv_upd_ne _ _ e]; exact h3 p (by have hp : p < (lmS set mem i).2 + 1 := hp; omega)
    · rw [lmS_f h]; exact ⟨h1', h2, h3⟩
/-- it doesn't matter what stood in the row before -/
theorem lmS_any {set : Int32} {m1 m2 : Nat → Int32} : ∀ i, (lmS set m1 i).2 = (lmS set m2 i).2 ∧ ∀ p, p < (lmS set m1 i).2 → (lmS set m1 i).1 p = (lmS set m2 i).1 p
  | 0 => ⟨rfl, fun p hp => absurd hp (Nat.not_lt_zero p)⟩
  | i + 1 => by
    obtain ⟨h1, h2⟩ := lmS_any (set := set) (m1 := m1) (m2 := m2) i
    by_cases h : (lmS set m1 i).2 < 4 ∧ bitB set (nI i) = true
    · rw [lmS_t h.1 h.2, lmS_t (h1 ▸ h.1) h.2]
      refine ⟨by rw [h1], fun p hp => ?_⟩
      show upd _ _ _ p = upd _ _ _ p
      unfold upd
      rw [h1]
      by_cases e : p = (lmS set m2 i).2
      · rw [if_pos e, if_pos e]
      · rw [if_neg e, if_neg e]; exact h2 p (by have hp : p < (lmS set m1 i).2 + 1 := hp; omega)
    · rw [lmS_f h, lmS_f (h1 ▸ h)]; exact ⟨h1, h2⟩
theorem lsV_congr {ap : Nat → Nat → UInt32} {q q2 : Nat → Nat} {l : Nat} (h : ∀ p, p < l → q p = q2 p) : lsV ap q l = lsV ap q2 l := by
  apply lsV_of
  have s := lsV_spec ap q l
  refine ⟨s.1, fun hl => ?_⟩
  obtain ⟨⟨a, b, h1, h2, h3⟩, g⟩ := s.2 hl
  refine ⟨⟨a, b, h1, h2, by rw [← h a (by omega), ← h b h2]; exact h3⟩, fun a b h1 h2 => by rw [← h a (by omega), ← h b h2]; exact g a b h1 h2⟩
/-- LEAST of a set -/
def ownF (ap : Nat → Nat → UInt32) (set : Int32) : UInt32 := lsV ap (rv (lmS set (fun _ => 0) 20).1) (lmS set (fun _ => 0) 20).2
theorem ownF_any {ap : Nat → Nat → UInt32} {set : Int32} (mem : Nat → Int32) : lsV ap (rv (lmS set mem 20).1) (lmS set mem 20).2 = ownF ap set := by
  obtain ⟨h1, h2⟩ := lmS_any (set := set) (m1 := mem) (m2 := fun _ => 0) 20
  unfold ownF
  rw [← h1]
  exact lsV_congr (fun p hp => by unfold rv; rw [h2 p hp])
/-- a set that may be -/
def maySet (al fx set : Int32) : Bool := decide (set &&& (al ^^^ (-1)) = 0 ∧ fx &&& (set ^^^ (-1)) = 0)
def bsF (ap : Nat → Nat → UInt32) (al fx lim : Int32) : Nat → Int32 → UInt32 → Int32 → Int32
  | 0, fd, _, _ => fd
  | m + 1, fd, g, set => if lim ≤ set then fd else if maySet al fx set = true ∧ (fd = -1 ∨ g < ownF ap set) then bsF ap al fx lim m set (ownF ap set) (nxtF set) else bsF ap al fx lim m fd g (nxtF set)
theorem bsF_e {ap : Nat → Nat → UInt32} {al fx lim fd set : Int32} {g : UInt32} {m : Nat} (h : lim ≤ set) : bsF ap al fx lim m fd g set = fd := by
  cases m with
  | zero => rfl
  | succ m => exact if_pos h
theorem bsF_t {ap : Nat → Nat → UInt32} {al fx lim fd set : Int32} {g : UInt32} {m : Nat} (h : ¬ lim ≤ set) (h1 : maySet al fx set = true) (h2 : fd = -1 ∨ g < ownF ap set) : bsF ap al fx lim (m + 1) fd g set = bsF ap al fx lim m set (ownF ap set) (nxtF set) := by
  show (if _ then _ else _) = _; rw [if_neg h, if_pos ⟨h1, h2⟩]
theorem bsF_f {ap : Nat → Nat → UInt32} {al fx lim fd set : Int32} {g : UInt32} {m : Nat} (h : ¬ lim ≤ set) (h1 : ¬ (maySet al fx set = true ∧ (fd = -1 ∨ g < ownF ap set))) : bsF ap al fx lim (m + 1) fd g set = bsF ap al fx lim m fd g (nxtF set) := by
  show (if _ then _ else _) = _; rw [if_neg h, if_neg h1]
set_option maxHeartbeats 400000 in
set_option maxRecDepth 100000 in
theorem c_nextLike (x : Int32) (h : xH) : XC mX0_nextOfLikeSize 1 0 0 [.int x] (h) (fun r h' => r = some (.int (nxtF x)) ∧ h' = h) := by
  show XW mX0_nextOfLikeSize 1 0 0 0 [some (.int x), none, none, none] [] (h) _
  refine XW.iload_n 1 dX0_nextOfLikeSize_0 rfl rfl ?_
  refine XW.iload_n 2 dX0_nextOfLikeSize_1 rfl rfl ?_
  refine XW.ineg 3 dX0_nextOfLikeSize_2 rfl ?_
  refine XW.iand 4 dX0_nextOfLikeSize_3 rfl ?_
  refine XW.istore_n 5 (L' := [some (.int x), some (.int (x &&& (-x))), none, none]) dX0_nextOfLikeSize_4 (by decide) rfl rfl rfl ?_
  refine XW.iload_n 6 dX0_nextOfLikeSize_5 rfl rfl ?_
  refine XW.iload_n 7 dX0_nextOfLikeSize_6 rfl rfl ?_
  refine XW.iadd 8 dX0_nextOfLikeSize_7 rfl ?_
  refine XW.istore_n 9 (L' := [some (.int x), some (.int (x &&& (-x))), some (.int (x + (x &&& (-x)))), none]) dX0_nextOfLikeSize_8 (by decide) rfl rfl rfl ?_
  refine XW.iload_n 10 dX0_nextOfLikeSize_9 rfl rfl ?_
  refine XW.iload_n 11 dX0_nextOfLikeSize_10 rfl rfl ?_
  refine XW.ixor 12 dX0_nextOfLikeSize_11 rfl ?_
  refine XW.iconst 13 dX0_nextOfLikeSize_12 (v := 2) (by decide) rfl ?_
  refine XW.iload_n 14 dX0_nextOfLikeSize_13 rfl rfl ?_
  refine XW.iconst 15 dX0_nextOfLikeSize_14 (v := 1) (by decide) rfl ?_
  refine XW.isub 16 dX0_nextOfLikeSize_15 rfl ?_
  refine XW.callS 19 (vs := [.int ((x &&& (-x)) - 1)]) (rest := [.int 2, .int (x ^^^ (x + (x &&& (-x))))]) (mcr := 0) (msr := 0) c0_87 dX0_nextOfLikeSize_16 rfl (by decide) (Nat.le_of_ble_eq_true rfl) rfl rfl (Nat.le_of_ble_eq_true rfl) rfl (c_bitCount _ _) (fun r h1 hq => ?_)
  obtain ⟨rfl, rfl⟩ := hq
  refine XW.iadd 20 dX0_nextOfLikeSize_19 rfl ?_
  refine XW.iushr 21 dX0_nextOfLikeSize_20 rfl ?_
  refine XW.istore_n 22 (L' := [some (.int x), some (.int (x &&& (-x))), some (.int (x + (x &&& (-x)))), some (.int ((((x ^^^ (x + (x &&& (-x)))) : Int32).toUInt32 >>> (((2 + (bcF ((x &&& (-x)) - 1))) : Int32).toUInt32 &&& Int32.toUInt32 31)).toInt32))]) dX0_nextOfLikeSize_21 (by decide) rfl rfl rfl ?_
  refine XW.iload_n 23 dX0_nextOfLikeSize_22 rfl rfl ?_
  refine XW.iload_n 24 dX0_nextOfLikeSize_23 rfl rfl ?_
  refine XW.ior 25 dX0_nextOfLikeSize_24 rfl ?_
  exact XW.iret dX0_nextOfLikeSize_25 rfl (⟨rfl, rfl⟩)
set_option maxHeartbeats 400000 in
set_option maxRecDepth 100000 in
theorem l_listMembers {Z : xZ} {x : Int32} : ∀ (n : Nat) (i : Nat), i ≤ 20 → 20 < i + n → XW mX0_listMembers 0 0 0 4 [some (.ref 50), some (.int x), some (.int (nI ((lmS x (Z.2.1 52) i).2))), some (.int (nI i))] [] (HP (sA Z 52 (lmS x (Z.2.1 52) i).1)) (fun r h' => r = some (.int (nI (lmS x (Z.2.1 52) 20).2)) ∧ h' = HP (sA Z 52 (lmS x (Z.2.1 52) 20).1)) := by
  intro n
  induction n with
  | zero => intro i g0 g1; omega
  | succ n ih =>
    intro i g0 g1
    have l4 := lmS_le (set := x) (mem := Z.2.1 52) i
    refine XW.iload_n 5 dX0_listMembers_4 rfl rfl ?_
    refine XW.bipush 7 dX0_listMembers_5 (v := 20) (by decide) rfl ?_
    refine XW.icmp_geN 44 10 i 20 dX0_listMembers_7 (by decide) rfl rfl rfl (by omega) (by omega) (fun c_7 => ?_) (fun c_7 => ?_)
    · have ei : lmS x (Z.2.1 52) 20 = lmS x (Z.2.1 52) i := by rw [show i = 20 by omega]
      refine XW.iload_n 45 dX0_listMembers_44 rfl rfl ?_
      exact XW.iret dX0_listMembers_45 rfl (⟨by rw [ei], by rw [ei]⟩)
    · refine XW.iload_n 11 dX0_listMembers_10 rfl rfl ?_
      refine XW.aload_n 12 dX0_listMembers_11 rfl rfl ?_
      refine XW.getf 15 (v := .ref 52) f0_15 dX0_listMembers_12 rfl rfl rfl ?_
      refine XW.alen 16 (v := 4) dX0_listMembers_15 rfl rfl rfl ?_
      refine XW.icmp_geN 44 19 ((lmS x (Z.2.1 52) i).2) 4 dX0_listMembers_16 (by decide) rfl rfl rfl (by omega) (by omega) (fun c_16 => ?_) (fun c_16 => ?_)
      · have ei : lmS x (Z.2.1 52) 20 = lmS x (Z.2.1 52) i := by have := lmS_full (set := x) (mem := Z.2.1 52) (i := i) (by omega) (20 - i); rw [show i + (20 - i) = 20 by omega] at this; exact this
        refine XW.iload_n 45 dX0_listMembers_44 rfl rfl ?_
        exact XW.iret dX0_listMembers_45 rfl (⟨by rw [ei], by rw [ei]⟩)
      · refine XW.iload_n 20 dX0_listMembers_19 rfl rfl ?_
        refine XW.iload_n 21 dX0_listMembers_20 rfl rfl ?_
        refine XW.ishr 22 dX0_listMembers_21 rfl ?_
        refine XW.iconst 23 dX0_listMembers_22 (v := 1) (by decide) rfl ?_
        refine XW.iand 24 dX0_listMembers_23 rfl ?_
        refine XW.iconst 25 dX0_listMembers_24 (v := 1) (by decide) rfl ?_
        refine XW.icmp_ne 38 28 dX0_listMembers_25 (by decide) rfl (fun c_25 => ?_) (fun c_25 => ?_)
        · have c0 : ¬ bitB x (nI i) = true := by simp [bitB, c_25]
          refine XW.iinc 41 (y := nI (i + 1)) (L' := [some (.ref 50), some (.int x), some (.int (nI ((lmS x (Z.2.1 52) i).2))), some (.int (nI (i + 1)))]) dX0_listMembers_38 rfl (na rfl rfl) (by decide) rfl rfl rfl ?_
          refine XW.goto 4 dX0_listMembers_41 (by decide) ?_
          refine XW.eqs (L' := [some (.ref 50), some (.int x), some (.int (nI ((lmS x (Z.2.1 52) (i + 1)).2))), some (.int (nI (i + 1)))]) (h' := HP (sA Z 52 (lmS x (Z.2.1 52) (i + 1)).1)) (by rw [lmS_f (fun q => c0 q.2)]) rfl (by rw [lmS_f (fun q => c0 q.2)]) ?_
          exact ih (i + 1) (by omega) (by omega)
        · have c0 : bitB x (nI i) = true := by simp [bitB, c_25]
          refine XW.aload_n 29 dX0_listMembers_28 rfl rfl ?_
          refine XW.getf 32 (v := .ref 52) f0_15 dX0_listMembers_29 rfl rfl rfl ?_
          refine XW.iload_n 33 dX0_listMembers_32 rfl rfl ?_
          refine XW.iload_n 34 dX0_listMembers_33 rfl rfl ?_
          refine XW.iast 35 (h' := HP (sA (sA Z 52 (lmS x (Z.2.1 52) i).1) 52 (upd ((lmS x (Z.2.1 52) i).1) ((lmS x (Z.2.1 52) i).2) (nI i)))) ((lmS x (Z.2.1 52) i).2) dX0_listMembers_34 rfl rfl (by omega) (by decide) rfl rfl ?_
          refine XW.iinc 38 (y := nI ((lmS x (Z.2.1 52) i).2 + 1)) (L' := [some (.ref 50), some (.int x), some (.int (nI ((lmS x (Z.2.1 52) i).2 + 1))), some (.int (nI i))]) dX0_listMembers_35 rfl (na rfl rfl) (by decide) rfl rfl rfl ?_
          refine XW.iinc 41 (y := nI (i + 1)) (L' := [some (.ref 50), some (.int x), some (.int (nI ((lmS x (Z.2.1 52) i).2 + 1))), some (.int (nI (i + 1)))]) dX0_listMembers_38 rfl (na rfl rfl) (by decide) rfl rfl rfl ?_
          refine XW.goto 4 dX0_listMembers_41 (by decide) ?_
          refine XW.eqs (L' := [some (.ref 50), some (.int x), some (.int (nI ((lmS x (Z.2.1 52) (i + 1)).2))), some (.int (nI (i + 1)))]) (h' := HP (sA Z 52 (lmS x (Z.2.1 52) (i + 1)).1)) (by rw [lmS_t c_16 c0]) rfl (by rw [lmS_t c_16 c0]; rfl) ?_
          exact ih (i + 1) (by omega) (by omega)
set_option maxHeartbeats 400000 in
set_option maxRecDepth 100000 in
theorem c_listMembers {Z : xZ} (x : Int32) : XC mX0_listMembers 0 0 0 [.ref 50, .int x] (HP Z) (fun r h' => r = some (.int (nI (lmS x (Z.2.1 52) 20).2)) ∧ h' = HP (sA Z 52 (lmS x (Z.2.1 52) 20).1)) := by
  show XW mX0_listMembers 0 0 0 0 [some (.ref 50), some (.int x), none, none] [] (HP Z) _
  refine XW.iconst 1 dX0_listMembers_0 (v := 0) (by decide) rfl ?_
  refine XW.istore_n 2 (L' := [some (.ref 50), some (.int x), some (.int 0), none]) dX0_listMembers_1 (by decide) rfl rfl rfl ?_
  refine XW.iconst 3 dX0_listMembers_2 (v := 0) (by decide) rfl ?_
  refine XW.istore_n 4 (L' := [some (.ref 50), some (.int x), some (.int 0), some (.int 0)]) dX0_listMembers_3 (by decide) rfl rfl rfl ?_
  refine XW.eqs (L' := [some (.ref 50), some (.int x), some (.int (nI ((lmS x (Z.2.1 52) 0).2))), some (.int (nI 0))]) (h' := HP (sA Z 52 (lmS x (Z.2.1 52) 0).1)) (by rfl) rfl (by rfl) ?_
  exact l_listMembers 21 0 (by omega) (by omega)
theorem setIn {al set : Int32} {j : Nat} (h : set &&& (al ^^^ (-1)) = 0) (hj : j < 32) (hb : bt set j = true) : bt al j = true := by
  have := congrArg (fun z => bt z j) h
  simp only [b_and, bt_not hj, hb, b_0, Bool.true_and] at this
  simpa using this
set_option maxHeartbeats 400000 in
set_option maxRecDepth 100000 in
theorem l_best {Z : xZ} {c : Nat} {xn : Int32} {G : Nat → UInt32} (hc : Z.1 1 0 = nI c) (c20 : c ≤ 20) (hfb : ∀ j, j < 32 → bt (Z.1 1 5) j = true → j < c) (hG : gapOK G (Z.2.1 4) (Z.2.1 2) c) (ok : okS (Z.2.1 2) (Z.2.1 3) (Z.2.1 4) (Z.2.1 5)) : ∀ (n : Nat) (t : Nat) (fd : Int32) (g : UInt32) (st : Int32) (mem : Nat → Int32), t ≤ 4845 → 4845 < t + n → NF g → XW mX0_bestSet 4 0 0 31 [some (.ref 50), some (.ref 1), some (.int xn), some (.int ((fbF (Z.2.1 2) (Z.2.1 3) (Z.2.1 5) c) ||| Z.1 1 5)), some (.int fd), some (.float g), some (.int st), some (.int (nI t)), none] [] (HP (sA (sF Z 51 G) 52 mem)) (fun r h' => r = some (.int (bsF (apG (Z.2.1 4) (Z.2.1 2)) ((fbF (Z.2.1 2) (Z.2.1 3) (Z.2.1 5) c) ||| Z.1 1 5) (Z.1 1 5) (1 <<< (Z.1 1 0 &&& 31)) (4845 - t) fd g st)) ∧ ∃ mem', h' = HP (sA (sF Z 51 G) 52 mem')) := by
  intro n
  induction n with
  | zero => intro t fd g st mem g0 g1 g2; omega
  | succ n ih =>
    intro t fd g st mem g0 g1 g2
    have hg := g2
    refine XW.iload 33 dX0_bestSet_31 rfl rfl ?_
    refine XW.sipush 36 dX0_bestSet_33 (v := 4845) (by decide) rfl ?_
    refine XW.icmp_geN 122 39 t 4845 dX0_bestSet_36 (by decide) rfl rfl rfl (by omega) (by omega) (fun c_36 => ?_) (fun c_36 => ?_)
    · have e0 : bsF (apG (Z.2.1 4) (Z.2.1 2)) ((fbF (Z.2.1 2) (Z.2.1 3) (Z.2.1 5) c) ||| Z.1 1 5) (Z.1 1 5) (1 <<< (Z.1 1 0 &&& 31)) (4845 - t) fd g st = fd := by rw [show 4845 - t = 0 by omega]; rfl
      refine XW.iload 124 dX0_bestSet_122 rfl rfl ?_
      exact XW.iret dX0_bestSet_124 rfl (⟨by rw [e0], mem, rfl⟩)
    · refine XW.iload 41 dX0_bestSet_39 rfl rfl ?_
      refine XW.iconst 42 dX0_bestSet_41 (v := 1) (by decide) rfl ?_
      refine XW.aload_n 43 dX0_bestSet_42 rfl rfl ?_
      refine XW.getf 46 (v := .int (Z.1 1 0)) f0_19 dX0_bestSet_43 rfl rfl rfl ?_
      refine XW.ishl 47 dX0_bestSet_46 rfl ?_
      refine XW.icmp_ge 122 50 dX0_bestSet_47 (by decide) rfl (fun c_47 => ?_) (fun c_47 => ?_)
      · have e0 : bsF (apG (Z.2.1 4) (Z.2.1 2)) ((fbF (Z.2.1 2) (Z.2.1 3) (Z.2.1 5) c) ||| Z.1 1 5) (Z.1 1 5) (1 <<< (Z.1 1 0 &&& 31)) (4845 - t) fd g st = fd := bsF_e c_47
        refine XW.iload 124 dX0_bestSet_122 rfl rfl ?_
        exact XW.iret dX0_bestSet_124 rfl (⟨by rw [e0], mem, rfl⟩)
      · refine XW.iload 52 dX0_bestSet_50 rfl rfl ?_
        refine XW.iload_n 53 dX0_bestSet_52 rfl rfl ?_
        refine XW.iconst 54 dX0_bestSet_53 (v := -1) (by decide) rfl ?_
        refine XW.ixor 55 dX0_bestSet_54 rfl ?_
        refine XW.iand 56 dX0_bestSet_55 rfl ?_
        refine XW.if_ne 109 59 dX0_bestSet_56 (by decide) rfl (fun c_56 => ?_) (fun c_56 => ?_)
        · have nm : ¬ maySet ((fbF (Z.2.1 2) (Z.2.1 3) (Z.2.1 5) c) ||| Z.1 1 5) (Z.1 1 5) st = true := fun q => c_56 (of_decide_eq_true q).1
          refine XW.iload 111 dX0_bestSet_109 rfl rfl ?_
          refine XW.callS 114 (vs := [.int st]) (rest := []) (mcr := 0) (msr := 0) c0_84 dX0_bestSet_111 rfl (by decide) (Nat.le_of_ble_eq_true rfl) rfl rfl (Nat.le_of_ble_eq_true rfl) rfl (c_nextLike _ _) (fun r h1 hq => ?_)
          obtain ⟨rfl, rfl⟩ := hq
          refine XW.eqs (st' := [.int (nxtF st)]) rfl rfl rfl ?_
          refine XW.istore 116 (L' := [some (.ref 50), some (.ref 1), some (.int xn), some (.int ((fbF (Z.2.1 2) (Z.2.1 3) (Z.2.1 5) c) ||| Z.1 1 5)), some (.int fd), some (.float g), some (.int (nxtF st)), some (.int (nI t)), none]) dX0_bestSet_114 (by decide) rfl rfl rfl ?_
          refine XW.iinc 119 (y := nI (t + 1)) (L' := [some (.ref 50), some (.ref 1), some (.int xn), some (.int ((fbF (Z.2.1 2) (Z.2.1 3) (Z.2.1 5) c) ||| Z.1 1 5)), some (.int fd), some (.float g), some (.int (nxtF st)), some (.int (nI (t + 1))), none]) dX0_bestSet_116 rfl (na rfl rfl) (by decide) rfl rfl rfl ?_
          refine XW.goto 31 dX0_bestSet_119 (by decide) ?_
          refine XW.post (ih (t + 1) _ _ _ _ (by omega) (by omega) hg) (fun r h1 hq => ?_)
          rw [show 4845 - t = (4845 - (t + 1)) + 1 by omega, bsF_f c_47 (fun q => nm q.1)]; exact hq
        · refine XW.aload_n 60 dX0_bestSet_59 rfl rfl ?_
          refine XW.getf 63 (v := .int (Z.1 1 5)) f0_77 dX0_bestSet_60 rfl rfl rfl ?_
          refine XW.iload 65 dX0_bestSet_63 rfl rfl ?_
          refine XW.iconst 66 dX0_bestSet_65 (v := -1) (by decide) rfl ?_
          refine XW.ixor 67 dX0_bestSet_66 rfl ?_
          refine XW.iand 68 dX0_bestSet_67 rfl ?_
          refine XW.if_ne 109 71 dX0_bestSet_68 (by decide) rfl (fun c_68 => ?_) (fun c_68 => ?_)
          · have nm : ¬ maySet ((fbF (Z.2.1 2) (Z.2.1 3) (Z.2.1 5) c) ||| Z.1 1 5) (Z.1 1 5) st = true := fun q => c_68 (of_decide_eq_true q).2
            refine XW.iload 111 dX0_bestSet_109 rfl rfl ?_
            refine XW.callS 114 (vs := [.int st]) (rest := []) (mcr := 0) (msr := 0) c0_84 dX0_bestSet_111 rfl (by decide) (Nat.le_of_ble_eq_true rfl) rfl rfl (Nat.le_of_ble_eq_true rfl) rfl (c_nextLike _ _) (fun r h1 hq => ?_)
            obtain ⟨rfl, rfl⟩ := hq
            refine XW.eqs (st' := [.int (nxtF st)]) rfl rfl rfl ?_
            refine XW.istore 116 (L' := [some (.ref 50), some (.ref 1), some (.int xn), some (.int ((fbF (Z.2.1 2) (Z.2.1 3) (Z.2.1 5) c) ||| Z.1 1 5)), some (.int fd), some (.float g), some (.int (nxtF st)), some (.int (nI t)), none]) dX0_bestSet_114 (by decide) rfl rfl rfl ?_
            refine XW.iinc 119 (y := nI (t + 1)) (L' := [some (.ref 50), some (.ref 1), some (.int xn), some (.int ((fbF (Z.2.1 2) (Z.2.1 3) (Z.2.1 5) c) ||| Z.1 1 5)), some (.int fd), some (.float g), some (.int (nxtF st)), some (.int (nI (t + 1))), none]) dX0_bestSet_116 rfl (na rfl rfl) (by decide) rfl rfl rfl ?_
            refine XW.goto 31 dX0_bestSet_119 (by decide) ?_
            refine XW.post (ih (t + 1) _ _ _ _ (by omega) (by omega) hg) (fun r h1 hq => ?_)
            rw [show 4845 - t = (4845 - (t + 1)) + 1 by omega, bsF_f c_47 (fun q => nm q.1)]; exact hq
          · have may : maySet ((fbF (Z.2.1 2) (Z.2.1 3) (Z.2.1 5) c) ||| Z.1 1 5) (Z.1 1 5) st = true := decide_eq_true ⟨c_56, c_68⟩
            have hro : rowOK (lmS st mem 20).1 (lmS st mem 20).2 c := by
              intro p hp
              obtain ⟨k1, -, k3⟩ := lmS_ok (set := st) (mem := mem) 20 (by omega)
              have k4 := k1 p hp
              refine ⟨k4.1, ?_⟩
              have k5 := k3 p hp
              rw [bitB_bt (by omega)] at k5
              have k6 := setIn c_56 (by omega) k5
              rw [b_or, Bool.or_eq_true, fb_bt c (by omega) _ (by omega)] at k6
              rcases k6 with k6 | k6
              · exact k6.1
              · exact hfb _ (by omega) k6
            have hdi2 := (lmS_ok (set := st) (mem := mem) 20 (by omega)).2.1
            have hle := lmS_le (set := st) (mem := mem) 20
            have hoe := ownF_any (ap := (apG (Z.2.1 4) (Z.2.1 2))) (set := st) mem
            have k0 := 0
            refine XW.aload_n 72 dX0_bestSet_71 rfl rfl ?_
            refine XW.aload_n 73 dX0_bestSet_72 rfl rfl ?_
            refine XW.getf 76 (v := .ref 52) f0_15 dX0_bestSet_73 rfl rfl rfl ?_
            refine XW.aload_n 77 dX0_bestSet_76 rfl rfl ?_
            refine XW.iload 79 dX0_bestSet_77 rfl rfl ?_
            refine XW.callV 82 (vs := [.int st]) (rest := [.ref 52, .ref 50]) (mcr := 0) (msr := 0) c0_80 dX0_bestSet_79 rfl rfl (by decide) (Nat.le_of_ble_eq_true rfl) rfl rfl (Nat.le_of_ble_eq_true rfl) rfl (c_listMembers _) (fun r h1 hq => ?_)
            obtain ⟨rfl, rfl⟩ := hq
            refine XW.eqs (st' := [.int (nI (lmS st mem 20).2), .ref 52, .ref 50]) (h' := HP (sA (sF Z 51 G) 52 (lmS st mem 20).1)) rfl rfl rfl ?_
            clear k0
            generalize lmS st mem 20 = qq at hro hdi2 hle hoe ⊢
            obtain ⟨m2, l2⟩ := qq
            dsimp only at hro hdi2 hle hoe
            refine XW.eqs (st' := [.int (nI l2), .ref 52, .ref 50]) (h' := HP (sA (sF Z 51 G) 52 m2)) rfl rfl rfl ?_
            refine XW.eqs (st' := [.int (nI l2), .ref 52, .ref 50]) rfl rfl rfl ?_
            refine XW.callV 85 (vs := [.ref 52, .int (nI l2)]) (rest := []) (mcr := 0) (msr := 0) c0_73 dX0_bestSet_82 rfl rfl (by decide) (Nat.le_of_ble_eq_true rfl) rfl rfl (Nat.le_of_ble_eq_true rfl) rfl (v_leastOf52 (l := l2) rfl hle c20 hro hdi2 hG ok) (fun r h1 hq => ?_)
            obtain ⟨rfl, rfl⟩ := hq
            refine XW.eqs (st' := [.float (ownF (apG (Z.2.1 4) (Z.2.1 2)) st)]) rfl (by rw [← hoe]; rfl) rfl ?_
            refine XW.eqs (st' := [.float (ownF (apG (Z.2.1 4) (Z.2.1 2)) st)]) rfl rfl rfl ?_
            have hown : NF (ownF (apG (Z.2.1 4) (Z.2.1 2)) st) := by rw [← hoe]; exact lsV_NF (rowNF ok hro c20)
            refine XW.fstore 87 (L' := [some (.ref 50), some (.ref 1), some (.int xn), some (.int ((fbF (Z.2.1 2) (Z.2.1 3) (Z.2.1 5) c) ||| Z.1 1 5)), some (.int fd), some (.float g), some (.int st), some (.int (nI t)), some (.float (ownF (apG (Z.2.1 4) (Z.2.1 2)) st))]) dX0_bestSet_85 (by decide) rfl rfl rfl ?_
            refine XW.iload 89 dX0_bestSet_87 rfl rfl ?_
            refine XW.iconst 90 dX0_bestSet_89 (v := -1) (by decide) rfl ?_
            refine XW.icmp_eq 101 93 dX0_bestSet_90 (by decide) rfl (fun c_90 => ?_) (fun c_90 => ?_)
            · refine XW.iload 103 dX0_bestSet_101 rfl rfl ?_
              refine XW.istore 105 (L' := [some (.ref 50), some (.ref 1), some (.int xn), some (.int ((fbF (Z.2.1 2) (Z.2.1 3) (Z.2.1 5) c) ||| Z.1 1 5)), some (.int st), some (.float g), some (.int st), some (.int (nI t)), some (.float (ownF (apG (Z.2.1 4) (Z.2.1 2)) st))]) dX0_bestSet_103 (by decide) rfl rfl rfl ?_
              refine XW.fload 107 dX0_bestSet_105 rfl rfl ?_
              refine XW.fstore 109 (L' := [some (.ref 50), some (.ref 1), some (.int xn), some (.int ((fbF (Z.2.1 2) (Z.2.1 3) (Z.2.1 5) c) ||| Z.1 1 5)), some (.int st), some (.float (ownF (apG (Z.2.1 4) (Z.2.1 2)) st)), some (.int st), some (.int (nI t)), some (.float (ownF (apG (Z.2.1 4) (Z.2.1 2)) st))]) dX0_bestSet_107 (by decide) rfl rfl rfl ?_
              refine XW.iload 111 dX0_bestSet_109 rfl rfl ?_
              refine XW.callS 114 (vs := [.int st]) (rest := []) (mcr := 0) (msr := 0) c0_84 dX0_bestSet_111 rfl (by decide) (Nat.le_of_ble_eq_true rfl) rfl rfl (Nat.le_of_ble_eq_true rfl) rfl (c_nextLike _ _) (fun r h1 hq => ?_)
              obtain ⟨rfl, rfl⟩ := hq
              refine XW.eqs (st' := [.int (nxtF st)]) rfl rfl rfl ?_
              refine XW.istore 116 (L' := [some (.ref 50), some (.ref 1), some (.int xn), some (.int ((fbF (Z.2.1 2) (Z.2.1 3) (Z.2.1 5) c) ||| Z.1 1 5)), some (.int st), some (.float (ownF (apG (Z.2.1 4) (Z.2.1 2)) st)), some (.int (nxtF st)), some (.int (nI t)), some (.float (ownF (apG (Z.2.1 4) (Z.2.1 2)) st))]) dX0_bestSet_114 (by decide) rfl rfl rfl ?_
              refine XW.iinc 119 (y := nI (t + 1)) (L' := [some (.ref 50), some (.ref 1), some (.int xn), some (.int ((fbF (Z.2.1 2) (Z.2.1 3) (Z.2.1 5) c) ||| Z.1 1 5)), some (.int st), some (.float (ownF (apG (Z.2.1 4) (Z.2.1 2)) st)), some (.int (nxtF st)), some (.int (nI (t + 1))), some (.float (ownF (apG (Z.2.1 4) (Z.2.1 2)) st))]) dX0_bestSet_116 rfl (na rfl rfl) (by decide) rfl rfl rfl ?_
              refine XW.goto 31 dX0_bestSet_119 (by decide) ?_
              refine XW.weak [true, true, true, true, true, true, true, true, false] (L' := [some (.ref 50), some (.ref 1), some (.int xn), some (.int ((fbF (Z.2.1 2) (Z.2.1 3) (Z.2.1 5) c) ||| Z.1 1 5)), some (.int st), some (.float (ownF (apG (Z.2.1 4) (Z.2.1 2)) st)), some (.int (nxtF st)), some (.int (nI (t + 1))), none]) rfl ?_
              refine XW.post (ih (t + 1) _ _ _ _ (by omega) (by omega) hown) (fun r h1 hq => ?_)
              rw [show 4845 - t = (4845 - (t + 1)) + 1 by omega, bsF_t c_47 may (by first | exact Or.inl c_90 | exact Or.inr c_98)]; exact hq
            · refine XW.fload 95 dX0_bestSet_93 rfl rfl ?_
              refine XW.fload 97 dX0_bestSet_95 rfl rfl ?_
              refine XW.fcmpU 98 dX0_bestSet_97 hown hg rfl ?_
              refine XW.if_leU 109 101 dX0_bestSet_98 (by decide) rfl (fun c_98 => ?_) (fun c_98 => ?_)
              · refine XW.iload 111 dX0_bestSet_109 rfl rfl ?_
                refine XW.callS 114 (vs := [.int st]) (rest := []) (mcr := 0) (msr := 0) c0_84 dX0_bestSet_111 rfl (by decide) (Nat.le_of_ble_eq_true rfl) rfl rfl (Nat.le_of_ble_eq_true rfl) rfl (c_nextLike _ _) (fun r h1 hq => ?_)
                obtain ⟨rfl, rfl⟩ := hq
                refine XW.eqs (st' := [.int (nxtF st)]) rfl rfl rfl ?_
                refine XW.istore 116 (L' := [some (.ref 50), some (.ref 1), some (.int xn), some (.int ((fbF (Z.2.1 2) (Z.2.1 3) (Z.2.1 5) c) ||| Z.1 1 5)), some (.int fd), some (.float g), some (.int (nxtF st)), some (.int (nI t)), some (.float (ownF (apG (Z.2.1 4) (Z.2.1 2)) st))]) dX0_bestSet_114 (by decide) rfl rfl rfl ?_
                refine XW.iinc 119 (y := nI (t + 1)) (L' := [some (.ref 50), some (.ref 1), some (.int xn), some (.int ((fbF (Z.2.1 2) (Z.2.1 3) (Z.2.1 5) c) ||| Z.1 1 5)), some (.int fd), some (.float g), some (.int (nxtF st)), some (.int (nI (t + 1))), some (.float (ownF (apG (Z.2.1 4) (Z.2.1 2)) st))]) dX0_bestSet_116 rfl (na rfl rfl) (by decide) rfl rfl rfl ?_
                refine XW.goto 31 dX0_bestSet_119 (by decide) ?_
                refine XW.weak [true, true, true, true, true, true, true, true, false] (L' := [some (.ref 50), some (.ref 1), some (.int xn), some (.int ((fbF (Z.2.1 2) (Z.2.1 3) (Z.2.1 5) c) ||| Z.1 1 5)), some (.int fd), some (.float g), some (.int (nxtF st)), some (.int (nI (t + 1))), none]) rfl ?_
                refine XW.post (ih (t + 1) _ _ _ _ (by omega) (by omega) hg) (fun r h1 hq => ?_)
                rw [show 4845 - t = (4845 - (t + 1)) + 1 by omega, bsF_f c_47 (fun q => q.2.elim c_90 c_98)]; exact hq
              · refine XW.iload 103 dX0_bestSet_101 rfl rfl ?_
                refine XW.istore 105 (L' := [some (.ref 50), some (.ref 1), some (.int xn), some (.int ((fbF (Z.2.1 2) (Z.2.1 3) (Z.2.1 5) c) ||| Z.1 1 5)), some (.int st), some (.float g), some (.int st), some (.int (nI t)), some (.float (ownF (apG (Z.2.1 4) (Z.2.1 2)) st))]) dX0_bestSet_103 (by decide) rfl rfl rfl ?_
                refine XW.fload 107 dX0_bestSet_105 rfl rfl ?_
                refine XW.fstore 109 (L' := [some (.ref 50), some (.ref 1), some (.int xn), some (.int ((fbF (Z.2.1 2) (Z.2.1 3) (Z.2.1 5) c) ||| Z.1 1 5)), some (.int st), some (.float (ownF (apG (Z.2.1 4) (Z.2.1 2)) st)), some (.int st), some (.int (nI t)), some (.float (ownF (apG (Z.2.1 4) (Z.2.1 2)) st))]) dX0_bestSet_107 (by decide) rfl rfl rfl ?_
                refine XW.iload 111 dX0_bestSet_109 rfl rfl ?_
                refine XW.callS 114 (vs := [.int st]) (rest := []) (mcr := 0) (msr := 0) c0_84 dX0_bestSet_111 rfl (by decide) (Nat.le_of_ble_eq_true rfl) rfl rfl (Nat.le_of_ble_eq_true rfl) rfl (c_nextLike _ _) (fun r h1 hq => ?_)
                obtain ⟨rfl, rfl⟩ := hq
                refine XW.eqs (st' := [.int (nxtF st)]) rfl rfl rfl ?_
                refine XW.istore 116 (L' := [some (.ref 50), some (.ref 1), some (.int xn), some (.int ((fbF (Z.2.1 2) (Z.2.1 3) (Z.2.1 5) c) ||| Z.1 1 5)), some (.int st), some (.float (ownF (apG (Z.2.1 4) (Z.2.1 2)) st)), some (.int (nxtF st)), some (.int (nI t)), some (.float (ownF (apG (Z.2.1 4) (Z.2.1 2)) st))]) dX0_bestSet_114 (by decide) rfl rfl rfl ?_
                refine XW.iinc 119 (y := nI (t + 1)) (L' := [some (.ref 50), some (.ref 1), some (.int xn), some (.int ((fbF (Z.2.1 2) (Z.2.1 3) (Z.2.1 5) c) ||| Z.1 1 5)), some (.int st), some (.float (ownF (apG (Z.2.1 4) (Z.2.1 2)) st)), some (.int (nxtF st)), some (.int (nI (t + 1))), some (.float (ownF (apG (Z.2.1 4) (Z.2.1 2)) st))]) dX0_bestSet_116 rfl (na rfl rfl) (by decide) rfl rfl rfl ?_
                refine XW.goto 31 dX0_bestSet_119 (by decide) ?_
                refine XW.weak [true, true, true, true, true, true, true, true, false] (L' := [some (.ref 50), some (.ref 1), some (.int xn), some (.int ((fbF (Z.2.1 2) (Z.2.1 3) (Z.2.1 5) c) ||| Z.1 1 5)), some (.int st), some (.float (ownF (apG (Z.2.1 4) (Z.2.1 2)) st)), some (.int (nxtF st)), some (.int (nI (t + 1))), none]) rfl ?_
                refine XW.post (ih (t + 1) _ _ _ _ (by omega) (by omega) hown) (fun r h1 hq => ?_)
                rw [show 4845 - t = (4845 - (t + 1)) + 1 by omega, bsF_t c_47 may (by first | exact Or.inl c_90 | exact Or.inr c_98)]; exact hq
set_option maxHeartbeats 400000 in
set_option maxRecDepth 100000 in
theorem c_bestSet {Z : xZ} {c : Nat} {xn : Int32} (hc : Z.1 1 0 = nI c) (c20 : c ≤ 20) (hfb : ∀ j, j < 32 → bt (Z.1 1 5) j = true → j < c) (ok : okS (Z.2.1 2) (Z.2.1 3) (Z.2.1 4) (Z.2.1 5)) : XC mX0_bestSet 4 0 0 [.ref 50, .ref 1, .int xn] (HP Z) (fun r h' => r = some (.int (bsF (apG (Z.2.1 4) (Z.2.1 2)) ((fbF (Z.2.1 2) (Z.2.1 3) (Z.2.1 5) c) ||| Z.1 1 5) (Z.1 1 5) (1 <<< (Z.1 1 0 &&& 31)) 4845 (-1) FP.fconst0 ((1 <<< (xn &&& 31)) - 1))) ∧ ∃ G mem', gapOK G (Z.2.1 4) (Z.2.1 2) c ∧ h' = HP (sA (sF Z 51 G) 52 mem')) := by
  show XW mX0_bestSet 4 0 0 0 [some (.ref 50), some (.ref 1), some (.int xn), none, none, none, none, none, none] [] (HP Z) _
  refine XW.aload_n 1 dX0_bestSet_0 rfl rfl ?_
  refine XW.aload_n 2 dX0_bestSet_1 rfl rfl ?_
  refine XW.callV 5 (vs := [.ref 1]) (rest := []) (mcr := 0) (msr := 0) c0_38 dX0_bestSet_2 rfl rfl (by decide) (Nat.le_of_ble_eq_true rfl) rfl rfl (Nat.le_of_ble_eq_true rfl) rfl (c_measure hc c20 ok) (fun r h1 hq => ?_)
  obtain ⟨rfl, G, hG, rfl⟩ := hq
  refine XW.aload_n 6 dX0_bestSet_5 rfl rfl ?_
  refine XW.callV 9 (vs := []) (rest := []) (mcr := 0) (msr := 0) c0_50 dX0_bestSet_6 rfl rfl (by decide) (Nat.le_of_ble_eq_true rfl) rfl rfl (Nat.le_of_ble_eq_true rfl) rfl (c_fitBits hc c20 ok) (fun r h1 hq => ?_)
  obtain ⟨rfl, rfl⟩ := hq
  refine XW.eqs (st' := [.int (fbF (Z.2.1 2) (Z.2.1 3) (Z.2.1 5) c)]) rfl rfl rfl ?_
  refine XW.aload_n 10 dX0_bestSet_9 rfl rfl ?_
  refine XW.getf 13 (v := .int (Z.1 1 5)) f0_77 dX0_bestSet_10 rfl rfl rfl ?_
  refine XW.ior 14 dX0_bestSet_13 rfl ?_
  refine XW.istore_n 15 (L' := [some (.ref 50), some (.ref 1), some (.int xn), some (.int ((fbF (Z.2.1 2) (Z.2.1 3) (Z.2.1 5) c) ||| (Z.1 1 5))), none, none, none, none, none]) dX0_bestSet_14 (by decide) rfl rfl rfl ?_
  refine XW.iconst 16 dX0_bestSet_15 (v := -1) (by decide) rfl ?_
  refine XW.istore 18 (L' := [some (.ref 50), some (.ref 1), some (.int xn), some (.int ((fbF (Z.2.1 2) (Z.2.1 3) (Z.2.1 5) c) ||| (Z.1 1 5))), some (.int (-1)), none, none, none, none]) dX0_bestSet_16 (by decide) rfl rfl rfl ?_
  refine XW.fconst0 19 dX0_bestSet_18 rfl ?_
  refine XW.fstore 21 (L' := [some (.ref 50), some (.ref 1), some (.int xn), some (.int ((fbF (Z.2.1 2) (Z.2.1 3) (Z.2.1 5) c) ||| (Z.1 1 5))), some (.int (-1)), some (.float FP.fconst0), none, none, none]) dX0_bestSet_19 (by decide) rfl rfl rfl ?_
  refine XW.iconst 22 dX0_bestSet_21 (v := 1) (by decide) rfl ?_
  refine XW.iload_n 23 dX0_bestSet_22 rfl rfl ?_
  refine XW.ishl 24 dX0_bestSet_23 rfl ?_
  refine XW.iconst 25 dX0_bestSet_24 (v := 1) (by decide) rfl ?_
  refine XW.isub 26 dX0_bestSet_25 rfl ?_
  refine XW.istore 28 (L' := [some (.ref 50), some (.ref 1), some (.int xn), some (.int ((fbF (Z.2.1 2) (Z.2.1 3) (Z.2.1 5) c) ||| (Z.1 1 5))), some (.int (-1)), some (.float FP.fconst0), some (.int ((1 <<< (xn &&& 31)) - 1)), none, none]) dX0_bestSet_26 (by decide) rfl rfl rfl ?_
  refine XW.iconst 29 dX0_bestSet_28 (v := 0) (by decide) rfl ?_
  refine XW.istore 31 (L' := [some (.ref 50), some (.ref 1), some (.int xn), some (.int ((fbF (Z.2.1 2) (Z.2.1 3) (Z.2.1 5) c) ||| (Z.1 1 5))), some (.int (-1)), some (.float FP.fconst0), some (.int ((1 <<< (xn &&& 31)) - 1)), some (.int 0), none]) dX0_bestSet_29 (by decide) rfl rfl rfl ?_
  refine XW.eqs (L' := [some (.ref 50), some (.ref 1), some (.int xn), some (.int ((fbF (Z.2.1 2) (Z.2.1 3) (Z.2.1 5) c) ||| Z.1 1 5)), some (.int (-1)), some (.float FP.fconst0), some (.int ((1 <<< (xn &&& 31)) - 1)), some (.int (nI 0)), none]) (h' := HP (sA (sF Z 51 G) 52 (Z.2.1 52))) (by rfl) rfl (by rfl) ?_
  refine XW.post (l_best hc c20 hfb hG ok 4846 0 (-1) FP.fconst0 ((1 <<< (xn &&& 31)) - 1) (Z.2.1 52) (by omega) (by omega) NF_0) (fun r h1 hq => by obtain ⟨q1, m, q2⟩ := hq; exact ⟨q1, G, m, hG, q2⟩)
