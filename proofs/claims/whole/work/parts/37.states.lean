/-! The states: what a scene shows, what is kept -/
/-- the 129 numbers of the scene at a -/
def scV (Z : xZ) (a i : Nat) : Int32 := if i = 0 then Z.1 a 0 else if i < 61 then Z.2.1 (a + 1) (i - 1) else if i = 61 then Z.1 a 5 else if i < 114 then Z.2.1 (a + 3) (i - 62) else if i < 117 then Z.2.1 (a + 4) (i - 114) else if i < 120 then Z.2.1 (a + 2) (i - 117) else if i = 120 then Z.1 a 7 else Z.2.1 (a + 5) (i - 121)
theorem scV_congr {Z Y : xZ} {a b : Nat} (h0 : Y.1 b 0 = Z.1 a 0) (h5 : Y.1 b 5 = Z.1 a 5) (h7 : Y.1 b 7 = Z.1 a 7) (g1 : ∀ k, k < 60 → Y.2.1 (b + 1) k = Z.2.1 (a + 1) k) (g2 : ∀ k, k < 3 → Y.2.1 (b + 2) k = Z.2.1 (a + 2) k) (g3 : ∀ k, k < 52 → Y.2.1 (b + 3) k = Z.2.1 (a + 3) k) (g4 : ∀ k, k < 3 → Y.2.1 (b + 4) k = Z.2.1 (a + 4) k) (g5 : ∀ k, k < 8 → Y.2.1 (b + 5) k = Z.2.1 (a + 5) k) : ∀ i, i < 129 → scV Y b i = scV Z a i := by
  intro i hi
  unfold scV
  by_cases e0 : i = 0
  · rw [if_pos e0, if_pos e0]; exact h0
  rw [if_neg e0, if_neg e0]
  by_cases e1 : i < 61
  · rw [if_pos e1, if_pos e1]; exact g1 _ (by omega)
  rw [if_neg e1, if_neg e1]
  by_cases e2 : i = 61
  · rw [if_pos e2, if_pos e2]; exact h5
  rw [if_neg e2, if_neg e2]
  by_cases e3 : i < 114
  · rw [if_pos e3, if_pos e3]; exact g3 _ (by omega)
  rw [if_neg e3, if_neg e3]
  by_cases e4 : i < 117
  · rw [if_pos e4, if_pos e4]; exact g4 _ (by omega)
  rw [if_neg e4, if_neg e4]
  by_cases e5 : i < 120
  · rw [if_pos e5, if_pos e5]; exact g2 _ (by omega)
  rw [if_neg e5, if_neg e5]
  by_cases e6 : i = 120
  · rw [if_pos e6, if_pos e6]; exact h7
  rw [if_neg e6, if_neg e6]; exact g5 _ (by omega)
theorem sI_1 (Z : xZ) (a j : Nat) (v : Int32) : (sI Z a j v).1 a j = v := by show up2 _ _ _ _ _ _ = _; unfold up2; rw [if_pos rfl, if_pos rfl]
theorem sI_2 (Z : xZ) {a j x y : Nat} (v : Int32) (h : x ≠ a ∨ y ≠ j) : (sI Z a j v).1 x y = Z.1 x y := by
  show up2 _ _ _ _ _ _ = _; unfold up2
  by_cases e : x = a
  · rw [if_pos e, if_neg (by omega)]
  · rw [if_neg e]
theorem sA_1 (Z : xZ) (a : Nat) (f : Nat → Int32) : (sA Z a f).2.1 a = f := by show va_up _ _ _ _ = _; unfold va_up; rw [if_pos rfl]
theorem sA_2 (Z : xZ) {a x : Nat} (f : Nat → Int32) (h : x ≠ a) : (sA Z a f).2.1 x = Z.2.1 x := by show va_up _ _ _ _ = _; unfold va_up; rw [if_neg h]
theorem cpy_in {f g : Nat → Int32} {n k : Nat} (h : k < n) : va_cpy f g 0 0 n k = f k := by unfold va_cpy; rw [if_pos ⟨Nat.zero_le _, by omega⟩, Nat.zero_add, Nat.sub_zero]
theorem bec_I (Z : xZ) (a b : Nat) : (becZ Z a b).1 a 0 = Z.1 b 0 ∧ (becZ Z a b).1 a 5 = Z.1 b 5 ∧ (becZ Z a b).1 a 7 = Z.1 b 7 := by
  have e : (becZ Z a b).1 = (sI (sI (sI Z a 0 (Z.1 b 0)) a 5 (Z.1 b 5)) a 7 (Z.1 b 7)).1 := rfl
  rw [e]
  refine ⟨?_, ?_, ?_⟩
  · rw [sI_2 _ _ (by omega), sI_2 _ _ (by omega), sI_1]
  · rw [sI_2 _ _ (by omega), sI_1]
  · rw [sI_1]
theorem bec_Io (Z : xZ) {a b x y : Nat} (h : x ≠ a ∨ (y ≠ 0 ∧ y ≠ 5 ∧ y ≠ 7)) : (becZ Z a b).1 x y = Z.1 x y := by
  have e : (becZ Z a b).1 = (sI (sI (sI Z a 0 (Z.1 b 0)) a 5 (Z.1 b 5)) a 7 (Z.1 b 7)).1 := rfl
  rw [e, sI_2 _ _ (by omega), sI_2 _ _ (by omega), sI_2 _ _ (by omega)]
theorem bec_Ao (Z : xZ) {a b x : Nat} (h : x ≠ a + 1 ∧ x ≠ a + 2 ∧ x ≠ a + 3 ∧ x ≠ a + 4 ∧ x ≠ a + 5) : (becZ Z a b).2.1 x = Z.2.1 x := by
  unfold becZ
  rw [sA_2 _ _ (by omega), sA_2 _ _ (by omega), sA_2 _ _ (by omega), sA_2 _ _ (by omega), sA_2 _ _ (by omega)]; rfl
theorem bec_A (Z : xZ) (a b : Nat) : (becZ Z a b).2.1 (a + 1) = va_cpy (Z.2.1 (b + 1)) (Z.2.1 (a + 1)) 0 0 60 ∧ (becZ Z a b).2.1 (a + 2) = va_cpy (Z.2.1 (b + 2)) (Z.2.1 (a + 2)) 0 0 3 ∧ (becZ Z a b).2.1 (a + 3) = va_cpy (Z.2.1 (b + 3)) (Z.2.1 (a + 3)) 0 0 52 ∧ (becZ Z a b).2.1 (a + 4) = va_cpy (Z.2.1 (b + 4)) (Z.2.1 (a + 4)) 0 0 3 ∧ (becZ Z a b).2.1 (a + 5) = va_cpy (Z.2.1 (b + 5)) (Z.2.1 (a + 5)) 0 0 8 := by
  unfold becZ
  refine ⟨?_, ?_, ?_, ?_, ?_⟩
  · rw [sA_2 _ _ (by omega), sA_2 _ _ (by omega), sA_2 _ _ (by omega), sA_2 _ _ (by omega), sA_1]
  · rw [sA_2 _ _ (by omega), sA_2 _ _ (by omega), sA_2 _ _ (by omega), sA_1]
  · rw [sA_2 _ _ (by omega), sA_2 _ _ (by omega), sA_1]
  · rw [sA_2 _ _ (by omega), sA_1]
  · rw [sA_1]
theorem bec_self (Z : xZ) (a b : Nat) : ∀ i, i < 129 → scV (becZ Z a b) a i = scV Z b i := by
  obtain ⟨i0, i5, i7⟩ := bec_I Z a b
  obtain ⟨a1, a2, a3, a4, a5⟩ := bec_A Z a b
  exact scV_congr i0 i5 i7 (fun k hk => by rw [a1, cpy_in hk]) (fun k hk => by rw [a2, cpy_in hk]) (fun k hk => by rw [a3, cpy_in hk]) (fun k hk => by rw [a4, cpy_in hk]) (fun k hk => by rw [a5, cpy_in hk])
theorem bec_other (Z : xZ) {a b x : Nat} (h : x + 6 ≤ a ∨ a + 6 ≤ x) : ∀ i, i < 129 → scV (becZ Z a b) x i = scV Z x i :=
  scV_congr (bec_Io Z (by omega)) (bec_Io Z (by omega)) (bec_Io Z (by omega)) (fun k _ => by rw [bec_Ao Z (by omega)]) (fun k _ => by rw [bec_Ao Z (by omega)]) (fun k _ => by rw [bec_Ao Z (by omega)]) (fun k _ => by rw [bec_Ao Z (by omega)]) (fun k _ => by rw [bec_Ao Z (by omega)])
/-- the scenes kept: which one stands at a place, each at one place alone -/
def keptIs (Z : xZ) (kp : Nat → Nat) : Prop := (∀ i, i < 6 → kp i < 6 ∧ Z.2.2.2.1 7 i = some (8 + 6 * kp i)) ∧ ∀ i j, i < j → j < 6 → kp i ≠ kp j
/-- what a call that leaves a STATE does first: st of them before -/
def LV (st : Nat) (Z Y : xZ) : Prop := (∀ a j, (0 < a ∧ a < 8) ∨ 44 ≤ a → Y.1 a j = Z.1 a j) ∧ (∀ a, a < 8 ∨ 44 ≤ a → Y.2.1 a = Z.2.1 a) ∧ Y.2.2.1 = Z.2.2.1 ∧ Y.2.2.2.2 = Z.2.2.2.2 ∧ Y.1 0 2 = nI (if st < 5 then st + 1 else 5) ∧
  ∀ kp, keptIs Z kp → ∃ kp', keptIs Y kp' ∧ (st < 5 → (∀ j, j < st → ∀ i, i < 129 → scV Y (8 + 6 * kp' j) i = scV Z (8 + 6 * kp j) i) ∧ ∀ i, i < 129 → scV Y (8 + 6 * kp' st) i = scV Z 1 i) ∧
    (¬ st < 5 → (∀ j, j < 4 → ∀ i, i < 129 → scV Y (8 + 6 * kp' j) i = scV Z (8 + 6 * kp (j + 1)) i) ∧ ∀ i, i < 129 → scV Y (8 + 6 * kp' 4) i = scV Z 1 i)
/-- the row of scenes turned by one -/
def rotF (f : Nat → Option Nat) (k0 k1 k2 k3 k4 k5 : Nat) : Nat → Option Nat := va_up (va_up (va_up (va_up (va_up (va_up f 0 (some k1)) 1 (some k2)) 2 (some k3)) 3 (some k4)) 4 (some k5)) 5 (some k0)
theorem LV_1 {Z : xZ} {st : Nat} (st5 : st < 5) {kp : Nat → Nat} (hk : keptIs Z kp) : LV st Z (sI (becZ Z (8 + 6 * kp st) 1) 0 2 (nI (st + 1))) := by
  have h6 := (hk.1 st (by omega)).1
  refine ⟨fun a j h => ?_, fun a h => ?_, rfl, rfl, ?_, fun kq hq => ⟨kq, ⟨hq.1, hq.2⟩, fun _ => ⟨fun j hj i hi => ?_, fun i hi => ?_⟩, fun h => absurd st5 h⟩⟩
  · rw [sI_2 _ _ (by omega), bec_Io Z (by omega)]
  · show (becZ Z (8 + 6 * kp st) 1).2.1 a = _
    rw [bec_Ao Z (by omega)]
  · rw [sI_1, if_pos st5]
  · have e : ∀ x, x < 6 → kq x = kp x := fun x hx => by have h1 := (hq.1 x hx).2; rw [(hk.1 x hx).2] at h1; injection h1 with h1; omega
    have hne : kq j ≠ kp st := by rw [← e st (by omega)]; exact hq.2 j st hj (by omega)
    have : scV (sI (becZ Z (8 + 6 * kp st) 1) 0 2 (nI (st + 1))) (8 + 6 * kq j) i = scV (becZ Z (8 + 6 * kp st) 1) (8 + 6 * kq j) i := scV_congr (sI_2 _ _ (by omega)) (sI_2 _ _ (by omega)) (sI_2 _ _ (by omega)) (fun _ _ => rfl) (fun _ _ => rfl) (fun _ _ => rfl) (fun _ _ => rfl) (fun _ _ => rfl) i hi
    rw [this, bec_other Z (by omega) i hi]
  · have e : kq st = kp st := by have h1 := (hq.1 st (by omega)).2; rw [(hk.1 st (by omega)).2] at h1; injection h1 with h1; omega
    rw [e]
    have : scV (sI (becZ Z (8 + 6 * kp st) 1) 0 2 (nI (st + 1))) (8 + 6 * kp st) i = scV (becZ Z (8 + 6 * kp st) 1) (8 + 6 * kp st) i := scV_congr (sI_2 _ _ (by omega)) (sI_2 _ _ (by omega)) (sI_2 _ _ (by omega)) (fun _ _ => rfl) (fun _ _ => rfl) (fun _ _ => rfl) (fun _ _ => rfl) (fun _ _ => rfl) i hi
    rw [this, bec_self Z _ _ i hi]
theorem LV_2 {Z : xZ} (hst : Z.1 0 2 = nI 5) {kp : Nat → Nat} (hk : keptIs Z kp) : LV 5 Z (sR (becZ Z (8 + 6 * kp 5) 1) 7 (rotF (Z.2.2.2.1 7) (8 + 6 * kp 0) (8 + 6 * kp 1) (8 + 6 * kp 2) (8 + 6 * kp 3) (8 + 6 * kp 4) (8 + 6 * kp 5))) := by
  have h6 := (hk.1 5 (by omega)).1
  have same : ∀ x i, scV (sR (becZ Z (8 + 6 * kp 5) 1) 7 (rotF (Z.2.2.2.1 7) (8 + 6 * kp 0) (8 + 6 * kp 1) (8 + 6 * kp 2) (8 + 6 * kp 3) (8 + 6 * kp 4) (8 + 6 * kp 5))) x i = scV (becZ Z (8 + 6 * kp 5) 1) x i := fun _ _ => rfl
  refine ⟨fun a j h => ?_, fun a h => ?_, rfl, rfl, ?_, fun kq hq => ⟨fun j => if j < 5 then kp (j + 1) else kp 0, ⟨fun i hi => ?_, fun i j hij hj => ?_⟩, fun h => absurd h (by omega), fun _ => ⟨fun j hj i hi => ?_, fun i hi => ?_⟩⟩⟩
  · show (becZ Z (8 + 6 * kp 5) 1).1 a j = _
    rw [bec_Io Z (by omega)]
  · show (becZ Z (8 + 6 * kp 5) 1).2.1 a = _
    rw [bec_Ao Z (by omega)]
  · show (becZ Z (8 + 6 * kp 5) 1).1 0 2 = _
    rw [bec_Io Z (by omega), hst]; rfl
  · refine ⟨?_, ?_⟩
    · dsimp only; split
      · exact (hk.1 _ (by omega)).1
      · exact (hk.1 0 (by omega)).1
    · match i, hi with
      | 0, _ => rfl
      | 1, _ => rfl
      | 2, _ => rfl
      | 3, _ => rfl
      | 4, _ => rfl
      | 5, _ => rfl
      | n + 6, h => omega
  · dsimp only
    by_cases h1 : j < 5
    · rw [if_pos (by omega), if_pos h1]; exact hk.2 _ _ (by omega) (by omega)
    · rw [if_pos (by omega), if_neg h1]; exact fun q => hk.2 0 (i + 1) (by omega) (by omega) q.symm
  · have e : kq (j + 1) = kp (j + 1) := by have h1 := (hq.1 (j + 1) (by omega)).2; rw [(hk.1 (j + 1) (by omega)).2] at h1; injection h1 with h1; omega
    have hne := hk.2 (j + 1) 5 (by omega) (by omega)
    dsimp only
    rw [if_pos (by omega), same, bec_other Z (by omega) i hi, e]
  · dsimp only
    rw [if_pos (by omega), same, bec_self Z _ _ i hi]
