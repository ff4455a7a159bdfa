/-! The heap as a function of its contents: ints of objects, int arrays, float arrays, the array of references, the one long-/
abbrev xZ : Type := (Nat → Nat → Int32) × (Nat → Nat → Int32) × (Nat → Nat → UInt32) × (Nat → Nat → Option Nat) × Int64
def up2 (f : Nat → Nat → Int32) (a j : Nat) (v : Int32) : Nat → Nat → Int32 := fun x y => if x = a then (if y = j then v else f x y) else f x y
def sI (Z : xZ) (a j : Nat) (v : Int32) : xZ := (up2 Z.1 a j v, Z.2)
def sA (Z : xZ) (a : Nat) (f : Nat → Int32) : xZ := (Z.1, va_up Z.2.1 a f, Z.2.2)
def sF (Z : xZ) (a : Nat) (f : Nat → UInt32) : xZ := (Z.1, Z.2.1, va_up Z.2.2.1 a f, Z.2.2.2)
def sR (Z : xZ) (a : Nat) (f : Nat → Option Nat) : xZ := (Z.1, Z.2.1, Z.2.2.1, va_up Z.2.2.2.1 a f, Z.2.2.2.2)
def sJ (Z : xZ) (x : Int64) : xZ := (Z.1, Z.2.1, Z.2.2.1, Z.2.2.2.1, x)
def HP (Z : xZ) : xH := [
  .inr (3, [.ref 1, .ref 7, .int (Z.1 0 2), .ref 44, .ref 45, .ref 50]),
  .inr (1, [.int (Z.1 1 0), .ref 2, .ref 3, .ref 4, .ref 5, .int (Z.1 1 5), .ref 6, .int (Z.1 1 7)]),
  .inl (60, .inl (Z.2.1 2)),
  .inl (3, .inl (Z.2.1 3)),
  .inl (52, .inl (Z.2.1 4)),
  .inl (3, .inl (Z.2.1 5)),
  .inl (8, .inl (Z.2.1 6)),
  .inl (6, .inr (.inr (.inr (.inr (Z.2.2.2.1 7))))),
  .inr (1, [.int (Z.1 8 0), .ref 9, .ref 10, .ref 11, .ref 12, .int (Z.1 8 5), .ref 13, .int (Z.1 8 7)]),
  .inl (60, .inl (Z.2.1 9)),
  .inl (3, .inl (Z.2.1 10)),
  .inl (52, .inl (Z.2.1 11)),
  .inl (3, .inl (Z.2.1 12)),
  .inl (8, .inl (Z.2.1 13)),
  .inr (1, [.int (Z.1 14 0), .ref 15, .ref 16, .ref 17, .ref 18, .int (Z.1 14 5), .ref 19, .int (Z.1 14 7)]),
  .inl (60, .inl (Z.2.1 15)),
  .inl (3, .inl (Z.2.1 16)),
  .inl (52, .inl (Z.2.1 17)),
  .inl (3, .inl (Z.2.1 18)),
  .inl (8, .inl (Z.2.1 19)),
  .inr (1, [.int (Z.1 20 0), .ref 21, .ref 22, .ref 23, .ref 24, .int (Z.1 20 5), .ref 25, .int (Z.1 20 7)]),
  .inl (60, .inl (Z.2.1 21)),
  .inl (3, .inl (Z.2.1 22)),
  .inl (52, .inl (Z.2.1 23)),
  .inl (3, .inl (Z.2.1 24)),
  .inl (8, .inl (Z.2.1 25)),
  .inr (1, [.int (Z.1 26 0), .ref 27, .ref 28, .ref 29, .ref 30, .int (Z.1 26 5), .ref 31, .int (Z.1 26 7)]),
  .inl (60, .inl (Z.2.1 27)),
  .inl (3, .inl (Z.2.1 28)),
  .inl (52, .inl (Z.2.1 29)),
  .inl (3, .inl (Z.2.1 30)),
  .inl (8, .inl (Z.2.1 31)),
  .inr (1, [.int (Z.1 32 0), .ref 33, .ref 34, .ref 35, .ref 36, .int (Z.1 32 5), .ref 37, .int (Z.1 32 7)]),
  .inl (60, .inl (Z.2.1 33)),
  .inl (3, .inl (Z.2.1 34)),
  .inl (52, .inl (Z.2.1 35)),
  .inl (3, .inl (Z.2.1 36)),
  .inl (8, .inl (Z.2.1 37)),
  .inr (1, [.int (Z.1 38 0), .ref 39, .ref 40, .ref 41, .ref 42, .int (Z.1 38 5), .ref 43, .int (Z.1 38 7)]),
  .inl (60, .inl (Z.2.1 39)),
  .inl (3, .inl (Z.2.1 40)),
  .inl (52, .inl (Z.2.1 41)),
  .inl (3, .inl (Z.2.1 42)),
  .inl (8, .inl (Z.2.1 43)),
  .inl (3, .inl (Z.2.1 44)),
  .inr (2, [.ref 46, .int (Z.1 45 1), .int (Z.1 45 2), .int (Z.1 45 3), .ref 47, .ref 48, .ref 49]),
  .inl (120, .inl (Z.2.1 46)),
  .inl (60, .inl (Z.2.1 47)),
  .inl (60, .inl (Z.2.1 48)),
  .inl (60, .inl (Z.2.1 49)),
  .inr (0, [.ref 51, .ref 52]),
  .inl (400, .inr (.inr (.inl (Z.2.2.1 51)))),
  .inl (4, .inl (Z.2.1 52)),
  .inr (4, [.ref 54, .ref 55, .ref 56, .int (Z.1 53 3), .ref 57, .ref 58, .int (Z.1 53 6), .ref 59, .int (Z.1 53 8), .ref 60, .ref 61, .ref 62, .int (Z.1 53 12), .int (Z.1 53 13), .int (Z.1 53 14), .long Z.2.2.2.2]),
  .inl (129, .inl (Z.2.1 54)),
  .inl (129, .inl (Z.2.1 55)),
  .inl (645, .inl (Z.2.1 56)),
  .inl (3, .inl (Z.2.1 57)),
  .inl (120, .inl (Z.2.1 58)),
  .inl (400, .inr (.inr (.inl (Z.2.2.1 59)))),
  .inl (8, .inl (Z.2.1 60)),
  .inl (60, .inl (Z.2.1 61)),
  .inl (120, .inl (Z.2.1 62))]
def b2i (b : Bool) : Int32 := bif b then 1 else 0
theorem b2i_0 {b : Bool} : b2i b = 0 ↔ b = false := by cases b <;> decide
theorem b2i_1 {b : Bool} : b2i b = 1 ↔ b = true := by cases b <;> decide
theorem xnar_b (b : Bool) : xnar (some .boolean) (some (.int (b2i b))) := by cases b <;> rfl
theorem na {a b : Int32} {m n : Nat} (h1 : a = nI m) (h2 : b = nI n) : a + b = nI (m + n) := by rw [h1, h2, nI_add]
theorem nm {a b : Int32} {m n : Nat} (h1 : a = nI m) (h2 : b = nI n) : a * b = nI (m * n) := by rw [h1, h2, pk_mul]
theorem ns {a b : Int32} {m n : Nat} (h1 : a = nI m) (h2 : b = nI n) (h : n ≤ m) : a - b = nI (m - n) := by rw [h1, h2, pk_sub h]
section XRowsN
variable {M : xM} {d mc ms pc : Nat} {L : xL} {st : List Value} {h : xH} {Post : Option Value → xH → Prop}
theorem XW.if_eqB (t f : Nat) {b : Bool} {off : Int} (hd : decode M.2.1 pc = .ok (.ifCond .eq off, 3)) (ht : (pc : Int) + off = (t : Int)) (hp : pc + 3 = f) (kt : b = false → XW M d mc ms t L st h Post) (kf : b = true → XW M d mc ms f L st h Post) : XW M d mc ms pc L (.int (b2i b) :: st) h Post :=
  XW.if_eq t f hd ht hp (fun c => kt (b2i_0.mp c)) (fun c => kf (by cases b with | false => exact absurd rfl c | true => rfl))
theorem XW.if_neB (t f : Nat) {b : Bool} {off : Int} (hd : decode M.2.1 pc = .ok (.ifCond .ne off, 3)) (ht : (pc : Int) + off = (t : Int)) (hp : pc + 3 = f) (kt : b = true → XW M d mc ms t L st h Post) (kf : b = false → XW M d mc ms f L st h Post) : XW M d mc ms pc L (.int (b2i b) :: st) h Post :=
  XW.if_ne t f hd ht hp (fun c => kt (by cases b with | false => exact absurd rfl c | true => rfl)) (fun c => kf (b2i_0.mp c))
theorem XW.icmp_geN (t f : Nat) (a b : Nat) {x y : Int32} {off : Int} (hd : decode M.2.1 pc = .ok (.if_icmp .ge off, 3)) (ht : (pc : Int) + off = (t : Int)) (hp : pc + 3 = f) (hx : x = nI a) (hy : y = nI b) (ha : a < 2 ^ 31) (hb : b < 2 ^ 31) (kt : b ≤ a → XW M d mc ms t L st h Post) (kf : a < b → XW M d mc ms f L st h Post) : XW M d mc ms pc L (.int y :: .int x :: st) h Post := by
  subst hx; subst hy
  exact XW.icmp_ge t f hd ht hp (fun c => kt ((nI_leI hb ha).mp c)) (fun c => kf (Nat.lt_of_not_le (fun q => c ((nI_leI hb ha).mpr q))))
theorem XW.icmp_gtN (t f : Nat) (a b : Nat) {x y : Int32} {off : Int} (hd : decode M.2.1 pc = .ok (.if_icmp .gt off, 3)) (ht : (pc : Int) + off = (t : Int)) (hp : pc + 3 = f) (hx : x = nI a) (hy : y = nI b) (ha : a < 2 ^ 31) (hb : b < 2 ^ 31) (kt : b < a → XW M d mc ms t L st h Post) (kf : a ≤ b → XW M d mc ms f L st h Post) : XW M d mc ms pc L (.int y :: .int x :: st) h Post := by
  subst hx; subst hy
  exact XW.icmp_gt t f hd ht hp (fun c => kt ((nI_ltI hb ha).mp c)) (fun c => kf (Nat.le_of_not_lt (fun q => c ((nI_ltI hb ha).mpr q))))
theorem XW.icmp_ltN (t f : Nat) (a b : Nat) {x y : Int32} {off : Int} (hd : decode M.2.1 pc = .ok (.if_icmp .lt off, 3)) (ht : (pc : Int) + off = (t : Int)) (hp : pc + 3 = f) (hx : x = nI a) (hy : y = nI b) (ha : a < 2 ^ 31) (hb : b < 2 ^ 31) (kt : a < b → XW M d mc ms t L st h Post) (kf : b ≤ a → XW M d mc ms f L st h Post) : XW M d mc ms pc L (.int y :: .int x :: st) h Post := by
  subst hx; subst hy
  exact XW.icmp_lt t f hd ht hp (fun c => kt ((nI_ltI ha hb).mp c)) (fun c => kf (Nat.le_of_not_lt (fun q => c ((nI_ltI ha hb).mpr q))))
theorem XW.icmp_leN (t f : Nat) (a b : Nat) {x y : Int32} {off : Int} (hd : decode M.2.1 pc = .ok (.if_icmp .le off, 3)) (ht : (pc : Int) + off = (t : Int)) (hp : pc + 3 = f) (hx : x = nI a) (hy : y = nI b) (ha : a < 2 ^ 31) (hb : b < 2 ^ 31) (kt : a ≤ b → XW M d mc ms t L st h Post) (kf : b < a → XW M d mc ms f L st h Post) : XW M d mc ms pc L (.int y :: .int x :: st) h Post := by
  subst hx; subst hy
  exact XW.icmp_le t f hd ht hp (fun c => kt ((nI_leI ha hb).mp c)) (fun c => kf (Nat.lt_of_not_le (fun q => c ((nI_leI ha hb).mpr q))))
theorem XW.icmp_eqN (t f : Nat) (a b : Nat) {x y : Int32} {off : Int} (hd : decode M.2.1 pc = .ok (.if_icmp .eq off, 3)) (ht : (pc : Int) + off = (t : Int)) (hp : pc + 3 = f) (hx : x = nI a) (hy : y = nI b) (ha : a < 2 ^ 31) (hb : b < 2 ^ 31) (kt : a = b → XW M d mc ms t L st h Post) (kf : ¬ a = b → XW M d mc ms f L st h Post) : XW M d mc ms pc L (.int y :: .int x :: st) h Post := by
  subst hx; subst hy
  exact XW.icmp_eq t f hd ht hp (fun c => kt ((nI_eq ha hb).mp c)) (fun c => kf (fun q => c ((nI_eq ha hb).mpr q)))
theorem XW.icmp_neN (t f : Nat) (a b : Nat) {x y : Int32} {off : Int} (hd : decode M.2.1 pc = .ok (.if_icmp .ne off, 3)) (ht : (pc : Int) + off = (t : Int)) (hp : pc + 3 = f) (hx : x = nI a) (hy : y = nI b) (ha : a < 2 ^ 31) (hb : b < 2 ^ 31) (kt : ¬ a = b → XW M d mc ms t L st h Post) (kf : a = b → XW M d mc ms f L st h Post) : XW M d mc ms pc L (.int y :: .int x :: st) h Post := by
  subst hx; subst hy
  exact XW.icmp_ne t f hd ht hp (fun c => kt (fun q => c ((nI_eq ha hb).mpr q))) (fun c => kf ((nI_eq ha hb).mp c))
end XRowsN
