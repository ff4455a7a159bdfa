/-! The reference: far, least, nearest -/
def nR (N : Nat → Int32) : Nat → Int32 := fun k => if k < 60 then N (1 + k) else 0
def nE (N : Nat → Int32) : Nat → Int32 := fun k => if k < 52 then N (62 + k) else 0
def nL (N : Nat → Int32) : Nat → Int32 := fun k => if k < 3 then N (114 + k) else 0
def nG (N : Nat → Int32) : Nat → Int32 := fun k => if k < 3 then N (117 + k) else 0
section Cut
variable {N : Nat → Int32}
theorem nR_eq {k : Nat} (h : k < 60) : nR N k = mR N k := if_pos h
theorem nE_eq {k : Nat} (h : k < 52) : nE N k = mE N k := if_pos h
theorem nL_eq {k : Nat} (h : k < 3) : nL N k = mL N k := if_pos h
theorem nG_eq {k : Nat} (h : k < 3) : nG N k = mG N k := if_pos h
theorem ok_cut (ok : okS (mR N) (mG N) (mE N) (mL N)) : okS (nR N) (nG N) (nE N) (nL N) := by
  obtain ⟨h1, h2, h3, h4, h5, h6⟩ := ok
  refine ⟨fun k hk => by rw [nR_eq hk]; exact h1 k hk, fun k hk => by rw [nG_eq hk]; exact h2 k hk, fun e k he hk => by rw [nE_eq (by omega)]; exact h3 e k he hk, fun e k he hk => by rw [nE_eq (by omega)]; exact h4 e k he hk, fun e he => by rw [nE_eq (by omega)]; exact h5 e he, fun k hk => by rw [nL_eq hk]; exact h6 k hk⟩
theorem light_cut {i : Nat} (hi : i < 20) : lightC (mR N) (3 * i) = lightC (nR N) (3 * i) := by
  unfold lightC; rw [nR_eq (by omega), nR_eq (by omega), nR_eq (by omega)]
theorem ground_cut : lightC (mG N) 0 = lightC (nG N) 0 := rfl
theorem fit_cut {i : Nat} (hi : i < 20) : fitC (mR N) (mG N) (mL N) i = fitC (nR N) (nG N) (nL N) i := by
  unfold fitC; rw [light_cut hi]; rfl
theorem saw_cut {e i k : Nat} (he : e < 4) (hi : i < 20) (hk : k < 3) : sawF (mE N) (mR N) e i k = sawF (nE N) (nR N) e i k := by
  unfold sawF
  rw [nE_eq (by omega), nE_eq (by omega), nE_eq (by omega), nR_eq (by omega), nR_eq (by omega), nR_eq (by omega)]
theorem dist_cut {e i j : Nat} (he : e < 4) (hi : i < 20) (hj : j < 20) : distF (mE N) (mR N) e i j = distF (nE N) (nR N) e i j := by
  unfold distF
  rw [nE_eq (by omega), nE_eq (by omega), nE_eq (by omega), saw_cut he hi (by omega), saw_cut he hi (by omega), saw_cut he hi (by omega), saw_cut he hj (by omega), saw_cut he hj (by omega), saw_cut he hj (by omega)]
theorem apS_0 {ey rgb : Nat → Int32} {i j : Nat} : apS ey rgb i j 0 = (FP.fconst0, false) := rfl
theorem apS_cut {i j : Nat} (hi : i < 20) (hj : j < 20) (e : Nat) : e ≤ 4 → apS (mE N) (mR N) i j e = apS (nE N) (nR N) i j e := by
  induction e with
  | zero => intro _; rw [apS_0, apS_0]
  | succ e ih =>
    intro h
    have ih := ih (by omega)
    have e1 : nE N (13 * e + 12) = mE N (13 * e + 12) := nE_eq (by omega)
    by_cases q : mE N (13 * e + 12) = 1
    · rw [apS_y q, apS_y (by rw [e1]; exact q), ih, dist_cut (by omega) hi hj]
    · rw [apS_n q, apS_n (by rw [e1]; exact q), ih]
theorem apart_cut {i j : Nat} (hi : i < 20) (hj : j < 20) : apartF (mE N) (mR N) i j = apartF (nE N) (nR N) i j := by
  unfold apartF; rw [apS_cut hi hj 4 (by omega)]
theorem counts_cut : cbF (mE N) 4 = cbF (nE N) 4 := rfl
theorem ftM_s {rgb gr lm : Nat → Int32} {c : Nat} : ftM rgb gr lm (c + 1) = ftM rgb gr lm c + b2i (fitC rgb gr lm c) := rfl
theorem ftM_0 {rgb gr lm : Nat → Int32} : ftM rgb gr lm 0 = 0 := rfl
theorem ftM_cut (c : Nat) : c ≤ 20 → ftM (mR N) (mG N) (mL N) c = ftM (nR N) (nG N) (nL N) c := by
  induction c with
  | zero => intro _; rw [ftM_0, ftM_0]
  | succ c ih => intro h; rw [ftM_s, ftM_s, ih (by omega), fit_cut (by omega)]
/-- the row of numbers with another palette -/
def rwN (N : Nat → Int32) (R : Nat → Int32) (l : Nat) : Nat → Int32 := fun i => if i = 120 then nI l else if 121 ≤ i then R (i - 121) else N i
variable {R : Nat → Int32} {l c : Nat}
theorem rwN_lt {i : Nat} (h : i < 120) : rwN N R l i = N i := by unfold rwN; rw [if_neg (by omega), if_neg (by omega)]
theorem rwN_P : mP (rwN N R l) = R := by
  funext k; show rwN N R l (121 + k) = R k
  unfold rwN; rw [if_neg (by omega), if_pos (by omega), Nat.add_sub_cancel_left]
theorem rwN_R : nR (rwN N R l) = nR N := by
  funext k; unfold nR; split
  · exact rwN_lt (by omega)
  · rfl
theorem rwN_E : nE (rwN N R l) = nE N := by
  funext k; unfold nE; split
  · exact rwN_lt (by omega)
  · rfl
theorem rwN_L : nL (rwN N R l) = nL N := by
  funext k; unfold nL; split
  · exact rwN_lt (by omega)
  · rfl
theorem rwN_G : nG (rwN N R l) = nG N := by
  funext k; unfold nG; split
  · exact rwN_lt (by omega)
  · rfl
theorem rwN_self (h : N 120 = nI l) : rwN N (mP N) l = N := by
  funext i; unfold rwN; split
  · rename_i e; rw [e, h]
  · split
    · show N (121 + (i - 121)) = N i; rw [show 121 + (i - 121) = i by omega]
    · rfl
theorem rwN_rw {R' : Nat → Int32} {l' : Nat} : rwN (rwN N R l) R' l' = rwN N R' l' := by
  funext i; unfold rwN; split
  · rfl
  · split <;> rfl
theorem rwN_put {v : Int32} : upd (upd (rwN N R l) (121 + l) v) 120 (nI (l + 1)) = rwN N (upd R l v) (l + 1) := by
  funext i
  show (if i = 120 then nI (l + 1) else if i = 121 + l then v else if i = 120 then nI l else if 121 ≤ i then R (i - 121) else N i) = if i = 120 then nI (l + 1) else if 121 ≤ i then (if i - 121 = l then v else R (i - 121)) else N i
  by_cases e : i = 120
  · rw [if_pos e, if_pos e]
  · simp only [if_neg e]
    by_cases e2 : i = 121 + l
    · rw [if_pos e2, if_pos (show 121 ≤ i by omega), if_pos (show i - 121 = l by omega)]
    · rw [if_neg e2]
      by_cases e3 : 121 ≤ i
      · rw [if_pos e3, if_pos e3, if_neg (by omega)]
      · rw [if_neg e3, if_neg e3]
theorem rwN_set {v : Int32} {k : Nat} : upd (rwN N R l) (121 + k) v = rwN N (upd R k v) l := by
  funext i
  show (if i = 121 + k then v else if i = 120 then nI l else if 121 ≤ i then R (i - 121) else N i) = if i = 120 then nI l else if 121 ≤ i then (if i - 121 = k then v else R (i - 121)) else N i
  by_cases e2 : i = 121 + k
  · rw [if_pos e2, if_neg (show ¬ i = 120 by omega), if_pos (show 121 ≤ i by omega), if_pos (show i - 121 = k by omega)]
  · rw [if_neg e2]
    by_cases e : i = 120
    · rw [if_pos e, if_pos e]
    · rw [if_neg e, if_neg e]
      by_cases e3 : 121 ≤ i
      · rw [if_pos e3, if_pos e3, if_neg (by omega)]
      · rw [if_neg e3, if_neg e3]
theorem MI.rw' {l' : Nat} (mi : MI N c l) (h8 : l' ≤ 8) (h1 : rowOK R l' c) (h2 : rowDI R l') : MI (rwN N R l') c l' := by
  obtain ⟨hc, c20, hl, l8, ok, hf, hdi, hfb⟩ := mi
  refine ⟨by rw [rwN_lt (by omega)]; exact hc, c20, if_pos rfl, h8, ?_, by rw [rwN_P]; exact h1, by rw [rwN_P]; exact h2, by rw [rwN_lt (by omega)]; exact hfb⟩
  obtain ⟨g1, g2, g3, g4, g5, g6⟩ := ok
  refine ⟨fun k hk => ?_, fun k hk => ?_, fun e k he hk => ?_, fun e k he hk => ?_, fun e he => ?_, fun k hk => ?_⟩
  · show isP (rwN N R l' (1 + k)); rw [rwN_lt (by omega)]; exact g1 k hk
  · show isP (rwN N R l' (117 + k)); rw [rwN_lt (by omega)]; exact g2 k hk
  · show isT (rwN N R l' (62 + (13 * e + k))); rw [rwN_lt (by omega)]; exact g3 e k he hk
  · show isW (rwN N R l' (62 + (13 * e + 9 + k))); rw [rwN_lt (by omega)]; exact g4 e k he hk
  · show rwN N R l' (62 + (13 * e + 12)) = 0 ∨ rwN N R l' (62 + (13 * e + 12)) = 1; rw [rwN_lt (by omega)]; exact g5 e he
  · show isP (rwN N R l' (114 + k)); rw [rwN_lt (by omega)]; exact g6 k hk
end Cut
theorem k_isFitting2 {Z : xZ} {c l : Nat} (mi : MI (Z.2.1 54) c l) {x : Int32} {i : Nat} (hx : x = nI i) (hi : i < 20) : XC mX4_isFitting 1 0 0 [.ref 53, .int x] (HP Z) (fun r h' => r = some (.int (b2i (fitC (nR (Z.2.1 54)) (nG (Z.2.1 54)) (nL (Z.2.1 54)) i))) ∧ h' = HP Z) := by rw [← fit_cut hi]; exact k_isFitting mi hx hi
theorem k_apartOf2 {Z : xZ} {c l : Nat} (mi : MI (Z.2.1 54) c l) {xi xj : Int32} {i j : Nat} (hi : xi = nI i) (hj : xj = nI j) (i20 : i < 20) (j20 : j < 20) : XC mX4_apartOf 3 0 0 [.ref 53, .int xi, .int xj] (HP Z) (fun r h' => r = some (.float (apartF (nE (Z.2.1 54)) (nR (Z.2.1 54)) i j)) ∧ h' = HP Z) := by rw [← apart_cut i20 j20]; exact k_apartOf mi hi hj i20 j20
theorem k_farFor2 {Z : xZ} {c l : Nat} (mi : MI (Z.2.1 54) c l) {xe xi xj : Int32} {e i j : Nat} (he : xe = nI e) (hi : xi = nI i) (hj : xj = nI j) (e4 : e < 4) (i20 : i < 20) (j20 : j < 20) : XC mX4_farFor 2 0 0 [.ref 53, .int xe, .int xi, .int xj] (HP Z) (fun r h' => r = some (.float (distF (nE (Z.2.1 54)) (nR (Z.2.1 54)) e i j)) ∧ h' = HP Z) := by rw [← dist_cut e4 i20 j20]; exact k_farFor mi he hi hj e4 i20 j20
theorem k_shine2 {Z : xZ} {c l : Nat} (mi : MI (Z.2.1 54) c l) {x : Int32} {i : Nat} (hx : x = nI (1 + 3 * i)) (hi : i < 20) : XC mX4_shineAt 0 0 0 [.ref 53, .int x] (HP Z) (fun r h' => r = some (.float (lightC (nR (Z.2.1 54)) (3 * i))) ∧ h' = HP Z) := by rw [← light_cut hi]; exact k_shineAt hx (by omega) (ok_light mi.2.2.2.2.1 (by omega)).1
set_option maxHeartbeats 400000 in
set_option maxRecDepth 100000 in
theorem l_kfar_i {Z : xZ} {c l : Nat} (mi : MI (Z.2.1 54) c l) {i : Nat} (ic : i < c) (KK : ∀ G : Nat → UInt32, (∀ a b, b < a → a < i + 1 → G (20 * a + b) = apartF (nE (Z.2.1 54)) (nR (Z.2.1 54)) a b ∧ G (20 * b + a) = apartF (nE (Z.2.1 54)) (nR (Z.2.1 54)) a b) → XW mX4_laysFar 4 0 0 7 [some (.ref 53), some (.int (nI (i + 1))), none] [] (HP (sF (sI Z 53 8 (fbF (nR (Z.2.1 54)) (nG (Z.2.1 54)) (nL (Z.2.1 54)) (i + 1))) 59 G)) (fun r h' => r = none ∧ ∃ G, gapOK G (nE (Z.2.1 54)) (nR (Z.2.1 54)) c ∧ h' = HP (sF (sI Z 53 8 (fbF (nR (Z.2.1 54)) (nG (Z.2.1 54)) (nL (Z.2.1 54)) c)) 59 G))) : ∀ (n : Nat) (j : Nat) (G : Nat → UInt32), j ≤ i → i < j + n → (∀ a b, b < a → (a < i ∨ (a = i ∧ b < j)) → G (20 * a + b) = apartF (nE (Z.2.1 54)) (nR (Z.2.1 54)) a b ∧ G (20 * b + a) = apartF (nE (Z.2.1 54)) (nR (Z.2.1 54)) a b) → XW mX4_laysFar 4 0 0 43 [some (.ref 53), some (.int (nI i)), some (.int (nI j))] [] (HP (sF (sI Z 53 8 (fbF (nR (Z.2.1 54)) (nG (Z.2.1 54)) (nL (Z.2.1 54)) (i + 1))) 59 G)) (fun r h' => r = none ∧ ∃ G, gapOK G (nE (Z.2.1 54)) (nR (Z.2.1 54)) c ∧ h' = HP (sF (sI Z 53 8 (fbF (nR (Z.2.1 54)) (nG (Z.2.1 54)) (nL (Z.2.1 54)) c)) 59 G)) := by
  intro n
  induction n with
  | zero => intro j G g0 g1 g2; omega
  | succ n ih =>
    intro j G g0 g1 g2
    obtain ⟨hc, c20, hl, l8, ok, hf, hdi, hfb⟩ := id mi
    refine XW.iload_n 44 dX4_laysFar_43 rfl rfl ?_
    refine XW.iload_n 45 dX4_laysFar_44 rfl rfl ?_
    refine XW.icmp_geN 93 48 j i dX4_laysFar_45 (by decide) rfl rfl rfl (by omega) (by omega) (fun c_45 => ?_) (fun c_45 => ?_)
    · refine XW.iinc 96 (y := nI (i + 1)) (L' := [some (.ref 53), some (.int (nI (i + 1))), some (.int (nI j))]) dX4_laysFar_93 rfl (na rfl rfl) (by decide) rfl rfl rfl ?_
      refine XW.goto 7 dX4_laysFar_96 (by decide) ?_
      refine XW.weak [true, true, false] (L' := [some (.ref 53), some (.int (nI (i + 1))), none]) rfl ?_
      exact KK G (fun a b h1 h2 => g2 a b h1 (by omega))
    · refine XW.aload_n 49 dX4_laysFar_48 rfl rfl ?_
      refine XW.getf 52 (v := .ref 59) f4_25 dX4_laysFar_49 rfl rfl rfl ?_
      refine XW.bipush 54 dX4_laysFar_52 (v := 20) (by decide) rfl ?_
      refine XW.iload_n 55 dX4_laysFar_54 rfl rfl ?_
      refine XW.imul 56 dX4_laysFar_55 rfl ?_
      refine XW.iload_n 57 dX4_laysFar_56 rfl rfl ?_
      refine XW.iadd 58 dX4_laysFar_57 rfl ?_
      refine XW.aload_n 59 dX4_laysFar_58 rfl rfl ?_
      refine XW.iload_n 60 dX4_laysFar_59 rfl rfl ?_
      refine XW.iload_n 61 dX4_laysFar_60 rfl rfl ?_
      refine XW.callV 64 (vs := [.int (nI i), .int (nI j)]) (rest := [.int ((20 * (nI i)) + (nI j)), .ref 59]) (mcr := 0) (msr := 0) c4_129 dX4_laysFar_61 rfl rfl (by decide) (Nat.le_of_ble_eq_true rfl) rfl rfl (Nat.le_of_ble_eq_true rfl) rfl (k_apartOf2 (Z := sF (sI Z 53 8 (fbF (nR (Z.2.1 54)) (nG (Z.2.1 54)) (nL (Z.2.1 54)) (i + 1))) 59 G) mi (i := i) (j := j) rfl rfl (by omega) (by omega)) (fun r h1 hq => ?_)
      obtain ⟨rfl, rfl⟩ := hq
      refine XW.eqs (st' := [.float (apartF (nE (Z.2.1 54)) (nR (Z.2.1 54)) i j), .int ((20 * (nI i)) + (nI j)), .ref 59]) rfl rfl rfl ?_
      refine XW.fast 65 (h' := HP (sF (sF (sI Z 53 8 (fbF (nR (Z.2.1 54)) (nG (Z.2.1 54)) (nL (Z.2.1 54)) (i + 1))) 59 G) 59 (vf_upd G ((20 * i) + j) (apartF (nE (Z.2.1 54)) (nR (Z.2.1 54)) i j)))) ((20 * i) + j) dX4_laysFar_64 rfl (na (nm rfl rfl) rfl) (by omega) (by decide) rfl rfl ?_
      refine XW.aload_n 66 dX4_laysFar_65 rfl rfl ?_
      refine XW.getf 69 (v := .ref 59) f4_25 dX4_laysFar_66 rfl rfl rfl ?_
      refine XW.bipush 71 dX4_laysFar_69 (v := 20) (by decide) rfl ?_
      refine XW.iload_n 72 dX4_laysFar_71 rfl rfl ?_
      refine XW.imul 73 dX4_laysFar_72 rfl ?_
      refine XW.iload_n 74 dX4_laysFar_73 rfl rfl ?_
      refine XW.iadd 75 dX4_laysFar_74 rfl ?_
      refine XW.aload_n 76 dX4_laysFar_75 rfl rfl ?_
      refine XW.getf 79 (v := .ref 59) f4_25 dX4_laysFar_76 rfl rfl rfl ?_
      refine XW.bipush 81 dX4_laysFar_79 (v := 20) (by decide) rfl ?_
      refine XW.iload_n 82 dX4_laysFar_81 rfl rfl ?_
      refine XW.imul 83 dX4_laysFar_82 rfl ?_
      refine XW.iload_n 84 dX4_laysFar_83 rfl rfl ?_
      refine XW.iadd 85 dX4_laysFar_84 rfl ?_
      refine XW.fald 86 ((20 * i) + j) dX4_laysFar_85 rfl (na (nm rfl rfl) rfl) (by omega) (by decide) rfl ?_
      refine XW.eqs (st' := [.float (apartF (nE (Z.2.1 54)) (nR (Z.2.1 54)) i j), .int ((20 * (nI j)) + (nI i)), .ref 59]) rfl (by show [Value.float (vf_upd G (20 * i + j) _ (20 * i + j)), _, _] = _; unfold vf_upd; rw [if_pos rfl]) rfl ?_
      refine XW.fast 87 (h' := HP (sF (sF (sF (sI Z 53 8 (fbF (nR (Z.2.1 54)) (nG (Z.2.1 54)) (nL (Z.2.1 54)) (i + 1))) 59 G) 59 (vf_upd G ((20 * i) + j) (apartF (nE (Z.2.1 54)) (nR (Z.2.1 54)) i j))) 59 (vf_upd (vf_upd G ((20 * i) + j) (apartF (nE (Z.2.1 54)) (nR (Z.2.1 54)) i j)) ((20 * j) + i) (apartF (nE (Z.2.1 54)) (nR (Z.2.1 54)) i j)))) ((20 * j) + i) dX4_laysFar_86 rfl (na (nm rfl rfl) rfl) (by omega) (by decide) rfl rfl ?_
      refine XW.iinc 90 (y := nI (j + 1)) (L' := [some (.ref 53), some (.int (nI i)), some (.int (nI (j + 1)))]) dX4_laysFar_87 rfl (na rfl rfl) (by decide) rfl rfl rfl ?_
      refine XW.goto 43 dX4_laysFar_90 (by decide) ?_
      exact ih (j + 1) _ (by omega) (by omega) (ms_step (by omega) (by omega) g2)
theorem or0 {x : Int32} : x ||| 0 = x := by apply b_ext; intro i hi; rw [b_or, b_0, Bool.or_false]
set_option maxHeartbeats 400000 in
set_option maxRecDepth 100000 in
theorem l_kfar_o {Z : xZ} {c l : Nat} (mi : MI (Z.2.1 54) c l)  : ∀ (n : Nat) (i : Nat) (G : Nat → UInt32), i ≤ c → c < i + n → (∀ a b, b < a → a < i → G (20 * a + b) = apartF (nE (Z.2.1 54)) (nR (Z.2.1 54)) a b ∧ G (20 * b + a) = apartF (nE (Z.2.1 54)) (nR (Z.2.1 54)) a b) → XW mX4_laysFar 4 0 0 7 [some (.ref 53), some (.int (nI i)), none] [] (HP (sF (sI Z 53 8 (fbF (nR (Z.2.1 54)) (nG (Z.2.1 54)) (nL (Z.2.1 54)) i)) 59 G)) (fun r h' => r = none ∧ ∃ G, gapOK G (nE (Z.2.1 54)) (nR (Z.2.1 54)) c ∧ h' = HP (sF (sI Z 53 8 (fbF (nR (Z.2.1 54)) (nG (Z.2.1 54)) (nL (Z.2.1 54)) c)) 59 G)) := by
  intro n
  induction n with
  | zero => intro i G g0 g1 g2; omega
  | succ n ih =>
    intro i G g0 g1 g2
    obtain ⟨hc, c20, hl, l8, ok, hf, hdi, hfb⟩ := id mi
    refine XW.iload_n 8 dX4_laysFar_7 rfl rfl ?_
    refine XW.aload_n 9 dX4_laysFar_8 rfl rfl ?_
    refine XW.getf 12 (v := .ref 54) f4_7 dX4_laysFar_9 rfl rfl rfl ?_
    refine XW.iconst 13 dX4_laysFar_12 (v := 0) (by decide) rfl ?_
    refine XW.iald 14 0 dX4_laysFar_13 rfl rfl (by omega) (by decide) rfl ?_
    refine XW.icmp_geN 99 17 i c dX4_laysFar_14 (by decide) rfl rfl hc (by omega) (by omega) (fun c_14 => ?_) (fun c_14 => ?_)
    · exact XW.vret dX4_laysFar_99 trivial (⟨rfl, G, fun a b h1 h2 h3 => by
            rcases Nat.lt_or_gt_of_ne h3 with q | q
            · rw [apG_gt q]; exact (g2 b a q (by omega)).2
            · rw [apG_lt q]; exact (g2 a b q (by omega)).1, by rw [show i = c by omega]⟩)
    · refine XW.aload_n 18 dX4_laysFar_17 rfl rfl ?_
      refine XW.dup 19 dX4_laysFar_18 rfl rfl ?_
      refine XW.getf 22 (v := .int (fbF (nR (Z.2.1 54)) (nG (Z.2.1 54)) (nL (Z.2.1 54)) i)) f4_133 dX4_laysFar_19 rfl rfl rfl ?_
      refine XW.aload_n 23 dX4_laysFar_22 rfl rfl ?_
      refine XW.iload_n 24 dX4_laysFar_23 rfl rfl ?_
      refine XW.callV 27 (vs := [.int (nI i)]) (rest := [.int (fbF (nR (Z.2.1 54)) (nG (Z.2.1 54)) (nL (Z.2.1 54)) i), .ref 53]) (mcr := 0) (msr := 0) c4_108 dX4_laysFar_24 rfl rfl (by decide) (Nat.le_of_ble_eq_true rfl) rfl rfl (Nat.le_of_ble_eq_true rfl) rfl (k_isFitting2 (Z := sF (sI Z 53 8 (fbF (nR (Z.2.1 54)) (nG (Z.2.1 54)) (nL (Z.2.1 54)) i)) 59 G) mi (i := i) rfl (by omega)) (fun r h1 hq => ?_)
      obtain ⟨rfl, rfl⟩ := hq
      refine XW.eqs (st' := [.int (b2i (fitC (nR (Z.2.1 54)) (nG (Z.2.1 54)) (nL (Z.2.1 54)) i)), .int (fbF (nR (Z.2.1 54)) (nG (Z.2.1 54)) (nL (Z.2.1 54)) i), .ref 53]) rfl rfl rfl ?_
      refine XW.if_eqB 36 30 dX4_laysFar_27 (by decide) rfl (fun c_27 => ?_) (fun c_27 => ?_)
      · refine XW.iconst 37 dX4_laysFar_36 (v := 0) (by decide) rfl ?_
        refine XW.ior 38 dX4_laysFar_37 rfl ?_
        refine XW.putf 41 (h' := HP (sI (sF (sI Z 53 8 (fbF (nR (Z.2.1 54)) (nG (Z.2.1 54)) (nL (Z.2.1 54)) i)) 59 G) 53 8 ((fbF (nR (Z.2.1 54)) (nG (Z.2.1 54)) (nL (Z.2.1 54)) i) ||| 0))) (p4_133 _) dX4_laysFar_38 rfl (Nat.le_of_ble_eq_true rfl) (xfit_i _) rfl rfl ?_
        refine XW.iconst 42 dX4_laysFar_41 (v := 0) (by decide) rfl ?_
        refine XW.istore_n 43 (L' := [some (.ref 53), some (.int (nI i)), some (.int 0)]) dX4_laysFar_42 (by decide) rfl rfl rfl ?_
        refine XW.eqs (L' := [some (.ref 53), some (.int (nI i)), some (.int (nI 0))]) (h' := HP (sF (sI Z 53 8 (fbF (nR (Z.2.1 54)) (nG (Z.2.1 54)) (nL (Z.2.1 54)) (i + 1))) 59 G)) (by rfl) rfl (by rw [fbF_f c_27, or0]; rfl) ?_
        exact l_kfar_i mi (by omega) (fun G hG => ih (i + 1) G (by omega) (by omega) hG) (i + 1) 0 G (by omega) (by omega) (fun a b h1 h2 => g2 a b h1 (by omega))
      · refine XW.iconst 31 dX4_laysFar_30 (v := 1) (by decide) rfl ?_
        refine XW.iload_n 32 dX4_laysFar_31 rfl rfl ?_
        refine XW.ishl 33 dX4_laysFar_32 rfl ?_
        refine XW.goto 37 dX4_laysFar_33 (by decide) ?_
        refine XW.ior 38 dX4_laysFar_37 rfl ?_
        refine XW.putf 41 (h' := HP (sI (sF (sI Z 53 8 (fbF (nR (Z.2.1 54)) (nG (Z.2.1 54)) (nL (Z.2.1 54)) i)) 59 G) 53 8 ((fbF (nR (Z.2.1 54)) (nG (Z.2.1 54)) (nL (Z.2.1 54)) i) ||| (1 <<< ((nI i) &&& 31))))) (p4_133 _) dX4_laysFar_38 rfl (Nat.le_of_ble_eq_true rfl) (xfit_i _) rfl rfl ?_
        refine XW.iconst 42 dX4_laysFar_41 (v := 0) (by decide) rfl ?_
        refine XW.istore_n 43 (L' := [some (.ref 53), some (.int (nI i)), some (.int 0)]) dX4_laysFar_42 (by decide) rfl rfl rfl ?_
        refine XW.eqs (L' := [some (.ref 53), some (.int (nI i)), some (.int (nI 0))]) (h' := HP (sF (sI Z 53 8 (fbF (nR (Z.2.1 54)) (nG (Z.2.1 54)) (nL (Z.2.1 54)) (i + 1))) 59 G)) (by rfl) rfl (by rw [fbF_t c_27]; rfl) ?_
        exact l_kfar_i mi (by omega) (fun G hG => ih (i + 1) G (by omega) (by omega) hG) (i + 1) 0 G (by omega) (by omega) (fun a b h1 h2 => g2 a b h1 (by omega))
set_option maxHeartbeats 400000 in
set_option maxRecDepth 100000 in
theorem k_laysFar {Z : xZ} {c l : Nat} (mi : MI (Z.2.1 54) c l)  : XC mX4_laysFar 4 0 0 [.ref 53] (HP Z) (fun r h' => r = none ∧ ∃ G, gapOK G (nE (Z.2.1 54)) (nR (Z.2.1 54)) c ∧ h' = HP (sF (sI Z 53 8 (fbF (nR (Z.2.1 54)) (nG (Z.2.1 54)) (nL (Z.2.1 54)) c)) 59 G)) := by
  show XW mX4_laysFar 4 0 0 0 [some (.ref 53), none, none] [] (HP Z) _
  obtain ⟨hc, c20, hl, l8, ok, hf, hdi, hfb⟩ := id mi
  refine XW.aload_n 1 dX4_laysFar_0 rfl rfl ?_
  refine XW.iconst 2 dX4_laysFar_1 (v := 0) (by decide) rfl ?_
  refine XW.putf 5 (h' := HP (sI Z 53 8 0)) (p4_133 _) dX4_laysFar_2 rfl (Nat.le_of_ble_eq_true rfl) (xfit_i _) rfl rfl ?_
  refine XW.iconst 6 dX4_laysFar_5 (v := 0) (by decide) rfl ?_
  refine XW.istore_n 7 (L' := [some (.ref 53), some (.int 0), none]) dX4_laysFar_6 (by decide) rfl rfl rfl ?_
  refine XW.eqs (L' := [some (.ref 53), some (.int (nI 0)), none]) (h' := HP (sF (sI Z 53 8 (fbF (nR (Z.2.1 54)) (nG (Z.2.1 54)) (nL (Z.2.1 54)) 0)) 59 (Z.2.2.1 59))) (by rfl) rfl (by rfl) ?_
  exact l_kfar_o mi (c + 1) 0 (Z.2.2.1 59) (by omega) (by omega) (fun a b h1 h2 => absurd h2 (by omega))
set_option maxHeartbeats 400000 in
set_option maxRecDepth 100000 in
theorem l_kleast_i {Z : xZ} {c l : Nat} (mi : MI (Z.2.1 54) c l) {q : Nat} {xl : Int32} (hxl : xl = nI q) (q8 : q ≤ 8) (hs : rowOK (Z.2.1 60) q c) (hsd : rowDI (Z.2.1 60) q) (hG : gapOK (Z.2.2.1 59) (nE (Z.2.1 54)) (nR (Z.2.1 54)) c) {a : Nat} (al : a < q) (KK : ∀ v an, ((an = false → v = FP.fconst0 ∧ ∀ x y, y < x → ¬ (x < a + 1)) ∧ (an = true → (∃ x y, y < x ∧ x < q ∧ v = (apG (nE (Z.2.1 54)) (nR (Z.2.1 54))) (rv (Z.2.1 60) x) (rv (Z.2.1 60) y)) ∧ ∀ x y, y < x → (x < a + 1) → v ≤ (apG (nE (Z.2.1 54)) (nR (Z.2.1 54))) (rv (Z.2.1 60) x) (rv (Z.2.1 60) y))) → XW mX4_leastOf 1 0 0 7 [some (.ref 53), some (.int xl), some (.float v), some (.int (b2i an)), some (.int (nI (a + 1))), none, none] [] (HP Z) (fun r h' => r = some (.float (lsV (apG (nE (Z.2.1 54)) (nR (Z.2.1 54))) (rv (Z.2.1 60)) q)) ∧ h' = HP Z)) : ∀ (n : Nat) (b : Nat) (v : UInt32) (an : Bool), b ≤ a → a < b + n → ((an = false → v = FP.fconst0 ∧ ∀ x y, y < x → ¬ (x < a ∨ (x = a ∧ y < b))) ∧ (an = true → (∃ x y, y < x ∧ x < q ∧ v = (apG (nE (Z.2.1 54)) (nR (Z.2.1 54))) (rv (Z.2.1 60) x) (rv (Z.2.1 60) y)) ∧ ∀ x y, y < x → (x < a ∨ (x = a ∧ y < b)) → v ≤ (apG (nE (Z.2.1 54)) (nR (Z.2.1 54))) (rv (Z.2.1 60) x) (rv (Z.2.1 60) y))) → XW mX4_leastOf 1 0 0 16 [some (.ref 53), some (.int xl), some (.float v), some (.int (b2i an)), some (.int (nI a)), some (.int (nI b)), none] [] (HP Z) (fun r h' => r = some (.float (lsV (apG (nE (Z.2.1 54)) (nR (Z.2.1 54))) (rv (Z.2.1 60)) q)) ∧ h' = HP Z) := by
  intro n
  induction n with
  | zero => intro b v an g0 g1 g2; omega
  | succ n ih =>
    intro b v an g0 g1 g2
    obtain ⟨hc, c20, hl, l8, ok, hf, hdi, hfb⟩ := id mi
    have okc := ok_cut ok
    refine XW.iload 18 dX4_leastOf_16 rfl rfl ?_
    refine XW.iload 20 dX4_leastOf_18 rfl rfl ?_
    refine XW.icmp_geN 74 23 b a dX4_leastOf_20 (by decide) rfl rfl rfl (by omega) (by omega) (fun c_20 => ?_) (fun c_20 => ?_)
    · refine XW.iinc 77 (y := nI (a + 1)) (L' := [some (.ref 53), some (.int xl), some (.float v), some (.int (b2i an)), some (.int (nI (a + 1))), some (.int (nI b)), none]) dX4_leastOf_74 rfl (na rfl rfl) (by decide) rfl rfl rfl ?_
      refine XW.goto 7 dX4_leastOf_77 (by decide) ?_
      refine XW.weak [true, true, true, true, true, false, true] (L' := [some (.ref 53), some (.int xl), some (.float v), some (.int (b2i an)), some (.int (nI (a + 1))), none, none]) rfl ?_
      exact KK v an ⟨fun h => ⟨(g2.1 h).1, fun x y p1 p2 => (g2.1 h).2 x y p1 (by omega)⟩, fun h => ⟨(g2.2 h).1, fun x y p1 p2 => (g2.2 h).2 x y p1 (by omega)⟩⟩
    · have b1 := (hs a (by omega)).2
      have b2 := (hs b (by omega)).2
      have b3 : rv (Z.2.1 60) a ≠ rv (Z.2.1 60) b := fun e => hsd b a (by omega) (by omega) e.symm
      have b4 := hG _ _ b1 b2 b3
      have b5 : NF (Z.2.2.1 59 (20 * rv (Z.2.1 60) a + rv (Z.2.1 60) b)) := by rw [b4]; exact apG_NF okc (by omega) (by omega)
      have b6 : NF v := by
        cases an with
        | false => rw [(g2.1 rfl).1]; exact NF_0
        | true => obtain ⟨⟨x, y, p1, p2, p3⟩, -⟩ := g2.2 rfl; rw [p3]; exact apG_NF okc (by have := (hs x (by omega)).2; omega) (by have := (hs y (by omega)).2; omega)
      refine XW.aload_n 24 dX4_leastOf_23 rfl rfl ?_
      refine XW.getf 27 (v := .ref 59) f4_25 dX4_leastOf_24 rfl rfl rfl ?_
      refine XW.bipush 29 dX4_leastOf_27 (v := 20) (by decide) rfl ?_
      refine XW.aload_n 30 dX4_leastOf_29 rfl rfl ?_
      refine XW.getf 33 (v := .ref 60) f4_29 dX4_leastOf_30 rfl rfl rfl ?_
      refine XW.iload 35 dX4_leastOf_33 rfl rfl ?_
      refine XW.iald 36 a dX4_leastOf_35 rfl rfl (by omega) (by decide) rfl ?_
      refine XW.imul 37 dX4_leastOf_36 rfl ?_
      refine XW.aload_n 38 dX4_leastOf_37 rfl rfl ?_
      refine XW.getf 41 (v := .ref 60) f4_29 dX4_leastOf_38 rfl rfl rfl ?_
      refine XW.iload 43 dX4_leastOf_41 rfl rfl ?_
      refine XW.iald 44 b dX4_leastOf_43 rfl rfl (by omega) (by decide) rfl ?_
      refine XW.iadd 45 dX4_leastOf_44 rfl ?_
      refine XW.fald 46 ((20 * (rv (Z.2.1 60) a)) + (rv (Z.2.1 60) b)) dX4_leastOf_45 rfl (na (nm rfl (hs _ (by omega)).1) (hs _ (by omega)).1) (by omega) (by decide) rfl ?_
      refine XW.fstore 48 (L' := [some (.ref 53), some (.int xl), some (.float v), some (.int (b2i an)), some (.int (nI a)), some (.int (nI b)), some (.float (Z.2.2.1 59 ((20 * (rv (Z.2.1 60) a)) + (rv (Z.2.1 60) b))))]) dX4_leastOf_46 (by decide) rfl rfl rfl ?_
      refine XW.iload_n 49 dX4_leastOf_48 rfl rfl ?_
      refine XW.if_eqB 59 52 dX4_leastOf_49 (by decide) rfl (fun c_49 => ?_) (fun c_49 => ?_)
      · refine XW.fload 61 dX4_leastOf_59 rfl rfl ?_
        refine XW.goto 65 dX4_leastOf_61 (by decide) ?_
        refine XW.fstore_n 66 (L' := [some (.ref 53), some (.int xl), some (.float (Z.2.2.1 59 ((20 * (rv (Z.2.1 60) a)) + (rv (Z.2.1 60) b)))), some (.int (b2i an)), some (.int (nI a)), some (.int (nI b)), some (.float (Z.2.2.1 59 ((20 * (rv (Z.2.1 60) a)) + (rv (Z.2.1 60) b))))]) dX4_leastOf_65 (by decide) rfl rfl rfl ?_
        refine XW.iconst 67 dX4_leastOf_66 (v := 1) (by decide) rfl ?_
        refine XW.istore_n 68 (L' := [some (.ref 53), some (.int xl), some (.float (Z.2.2.1 59 ((20 * (rv (Z.2.1 60) a)) + (rv (Z.2.1 60) b)))), some (.int 1), some (.int (nI a)), some (.int (nI b)), some (.float (Z.2.2.1 59 ((20 * (rv (Z.2.1 60) a)) + (rv (Z.2.1 60) b))))]) dX4_leastOf_67 (by decide) rfl rfl rfl ?_
        refine XW.iinc 71 (y := nI (b + 1)) (L' := [some (.ref 53), some (.int xl), some (.float (Z.2.2.1 59 ((20 * (rv (Z.2.1 60) a)) + (rv (Z.2.1 60) b)))), some (.int 1), some (.int (nI a)), some (.int (nI (b + 1))), some (.float (Z.2.2.1 59 ((20 * (rv (Z.2.1 60) a)) + (rv (Z.2.1 60) b))))]) dX4_leastOf_68 rfl (na rfl rfl) (by decide) rfl rfl rfl ?_
        refine XW.goto 16 dX4_leastOf_71 (by decide) ?_
        refine XW.weak [true, true, true, true, true, true, false] (L' := [some (.ref 53), some (.int xl), some (.float (Z.2.2.1 59 ((20 * (rv (Z.2.1 60) a)) + (rv (Z.2.1 60) b)))), some (.int 1), some (.int (nI a)), some (.int (nI (b + 1))), none]) rfl ?_
        refine XW.eqs (L' := [some (.ref 53), some (.int xl), some (.float (Z.2.2.1 59 ((20 * (rv (Z.2.1 60) a)) + (rv (Z.2.1 60) b)))), some (.int (b2i true)), some (.int (nI a)), some (.int (nI (b + 1))), none]) (by rfl) rfl rfl ?_
        exact ih (b + 1) _ true (by omega) (by omega) ⟨fun h => absurd h (by decide), fun _ => ⟨⟨a, b, by omega, by omega, b4⟩, fun x y p1 p2 => by
              by_cases e : x = a ∧ y = b
              · obtain ⟨rfl, rfl⟩ := e; rw [b4]; exact UInt32.le_refl _
              · first | exact absurd (show x < a ∨ (x = a ∧ y < b) by omega) ((g2.1 c_49).2 x y p1) | exact UInt32.le_of_lt (UInt32.lt_of_lt_of_le c_56 ((g2.2 c_49).2 x y p1 (by omega)))⟩⟩
      · refine XW.fload 54 dX4_leastOf_52 rfl rfl ?_
        refine XW.fload_n 55 dX4_leastOf_54 rfl rfl ?_
        refine XW.fcmpU 56 dX4_leastOf_55 b5 b6 rfl ?_
        refine XW.if_geU 64 59 dX4_leastOf_56 (by decide) rfl (fun c_56 => ?_) (fun c_56 => ?_)
        · refine XW.fload_n 65 dX4_leastOf_64 rfl rfl ?_
          refine XW.fstore_n 66 (L' := [some (.ref 53), some (.int xl), some (.float v), some (.int (b2i an)), some (.int (nI a)), some (.int (nI b)), some (.float (Z.2.2.1 59 ((20 * (rv (Z.2.1 60) a)) + (rv (Z.2.1 60) b))))]) dX4_leastOf_65 (by decide) rfl rfl rfl ?_
          refine XW.iconst 67 dX4_leastOf_66 (v := 1) (by decide) rfl ?_
          refine XW.istore_n 68 (L' := [some (.ref 53), some (.int xl), some (.float v), some (.int 1), some (.int (nI a)), some (.int (nI b)), some (.float (Z.2.2.1 59 ((20 * (rv (Z.2.1 60) a)) + (rv (Z.2.1 60) b))))]) dX4_leastOf_67 (by decide) rfl rfl rfl ?_
          refine XW.iinc 71 (y := nI (b + 1)) (L' := [some (.ref 53), some (.int xl), some (.float v), some (.int 1), some (.int (nI a)), some (.int (nI (b + 1))), some (.float (Z.2.2.1 59 ((20 * (rv (Z.2.1 60) a)) + (rv (Z.2.1 60) b))))]) dX4_leastOf_68 rfl (na rfl rfl) (by decide) rfl rfl rfl ?_
          refine XW.goto 16 dX4_leastOf_71 (by decide) ?_
          refine XW.weak [true, true, true, true, true, true, false] (L' := [some (.ref 53), some (.int xl), some (.float v), some (.int 1), some (.int (nI a)), some (.int (nI (b + 1))), none]) rfl ?_
          refine XW.eqs (L' := [some (.ref 53), some (.int xl), some (.float v), some (.int (b2i true)), some (.int (nI a)), some (.int (nI (b + 1))), none]) (by rfl) rfl rfl ?_
          exact ih (b + 1) _ true (by omega) (by omega) ⟨fun h => absurd h (by decide), fun _ => ⟨(g2.2 c_49).1, fun x y p1 p2 => by
                by_cases e : x = a ∧ y = b
                · obtain ⟨rfl, rfl⟩ := e; rw [← b4]; exact UInt32.not_lt.mp c_56
                · exact (g2.2 c_49).2 x y p1 (by omega)⟩⟩
        · refine XW.fload 61 dX4_leastOf_59 rfl rfl ?_
          refine XW.goto 65 dX4_leastOf_61 (by decide) ?_
          refine XW.fstore_n 66 (L' := [some (.ref 53), some (.int xl), some (.float (Z.2.2.1 59 ((20 * (rv (Z.2.1 60) a)) + (rv (Z.2.1 60) b)))), some (.int (b2i an)), some (.int (nI a)), some (.int (nI b)), some (.float (Z.2.2.1 59 ((20 * (rv (Z.2.1 60) a)) + (rv (Z.2.1 60) b))))]) dX4_leastOf_65 (by decide) rfl rfl rfl ?_
          refine XW.iconst 67 dX4_leastOf_66 (v := 1) (by decide) rfl ?_
          refine XW.istore_n 68 (L' := [some (.ref 53), some (.int xl), some (.float (Z.2.2.1 59 ((20 * (rv (Z.2.1 60) a)) + (rv (Z.2.1 60) b)))), some (.int 1), some (.int (nI a)), some (.int (nI b)), some (.float (Z.2.2.1 59 ((20 * (rv (Z.2.1 60) a)) + (rv (Z.2.1 60) b))))]) dX4_leastOf_67 (by decide) rfl rfl rfl ?_
          refine XW.iinc 71 (y := nI (b + 1)) (L' := [some (.ref 53), some (.int xl), some (.float (Z.2.2.1 59 ((20 * (rv (Z.2.1 60) a)) + (rv (Z.2.1 60) b)))), some (.int 1), some (.int (nI a)), some (.int (nI (b + 1))), some (.float (Z.2.2.1 59 ((20 * (rv (Z.2.1 60) a)) + (rv (Z.2.1 60) b))))]) dX4_leastOf_68 rfl (na rfl rfl) (by decide) rfl rfl rfl ?_
          refine XW.goto 16 dX4_leastOf_71 (by decide) ?_
          refine XW.weak [true, true, true, true, true, true, false] (L' := [some (.ref 53), some (.int xl), some (.float (Z.2.2.1 59 ((20 * (rv (Z.2.1 60) a)) + (rv (Z.2.1 60) b)))), some (.int 1), some (.int (nI a)), some (.int (nI (b + 1))), none]) rfl ?_
          refine XW.eqs (L' := [some (.ref 53), some (.int xl), some (.float (Z.2.2.1 59 ((20 * (rv (Z.2.1 60) a)) + (rv (Z.2.1 60) b)))), some (.int (b2i true)), some (.int (nI a)), some (.int (nI (b + 1))), none]) (by rfl) rfl rfl ?_
          exact ih (b + 1) _ true (by omega) (by omega) ⟨fun h => absurd h (by decide), fun _ => ⟨⟨a, b, by omega, by omega, b4⟩, fun x y p1 p2 => by
                by_cases e : x = a ∧ y = b
                · obtain ⟨rfl, rfl⟩ := e; rw [b4]; exact UInt32.le_refl _
                · first | exact absurd (show x < a ∨ (x = a ∧ y < b) by omega) ((g2.1 c_49).2 x y p1) | exact UInt32.le_of_lt (UInt32.lt_of_lt_of_le c_56 ((g2.2 c_49).2 x y p1 (by omega)))⟩⟩
set_option maxHeartbeats 400000 in
set_option maxRecDepth 100000 in
theorem l_kleast_o {Z : xZ} {c l : Nat} (mi : MI (Z.2.1 54) c l) {q : Nat} {xl : Int32} (hxl : xl = nI q) (q8 : q ≤ 8) (hs : rowOK (Z.2.1 60) q c) (hsd : rowDI (Z.2.1 60) q) (hG : gapOK (Z.2.2.1 59) (nE (Z.2.1 54)) (nR (Z.2.1 54)) c) : ∀ (n : Nat) (a : Nat) (v : UInt32) (an : Bool), a ≤ q → q < a + n → ((an = false → v = FP.fconst0 ∧ ∀ x y, y < x → ¬ (x < a)) ∧ (an = true → (∃ x y, y < x ∧ x < q ∧ v = (apG (nE (Z.2.1 54)) (nR (Z.2.1 54))) (rv (Z.2.1 60) x) (rv (Z.2.1 60) y)) ∧ ∀ x y, y < x → (x < a) → v ≤ (apG (nE (Z.2.1 54)) (nR (Z.2.1 54))) (rv (Z.2.1 60) x) (rv (Z.2.1 60) y))) → XW mX4_leastOf 1 0 0 7 [some (.ref 53), some (.int xl), some (.float v), some (.int (b2i an)), some (.int (nI a)), none, none] [] (HP Z) (fun r h' => r = some (.float (lsV (apG (nE (Z.2.1 54)) (nR (Z.2.1 54))) (rv (Z.2.1 60)) q)) ∧ h' = HP Z) := by
  intro n
  induction n with
  | zero => intro a v an g0 g1 g2; omega
  | succ n ih =>
    intro a v an g0 g1 g2
    obtain ⟨hc, c20, hl, l8, ok, hf, hdi, hfb⟩ := id mi
    refine XW.iload 9 dX4_leastOf_7 rfl rfl ?_
    refine XW.iload_n 10 dX4_leastOf_9 rfl rfl ?_
    refine XW.icmp_geN 80 13 a q dX4_leastOf_10 (by decide) rfl rfl hxl (by omega) (by omega) (fun c_10 => ?_) (fun c_10 => ?_)
    · refine XW.fload_n 81 dX4_leastOf_80 rfl rfl ?_
      exact XW.fret dX4_leastOf_81 trivial (⟨by
            congr 2
            apply lsV_of
            refine ⟨fun h2 => ?_, fun h2 => ?_⟩
            · cases an with
              | false => exact (g2.1 rfl).1
              | true => obtain ⟨⟨x, y, p1, p2, -⟩, -⟩ := g2.2 rfl; omega
            · cases an with
              | false => exact absurd (by omega) ((g2.1 rfl).2 1 0 (by omega))
              | true =>
                obtain ⟨⟨x, y, p1, p2, p3⟩, g⟩ := g2.2 rfl
                refine ⟨⟨y, x, p1, p2, by rw [p3]; exact apG_sym (fun e => hsd y x p1 p2 e.symm)⟩, fun y x p1 p2 => ?_⟩
                rw [apG_sym (hsd y x p1 p2)]; exact g x y p1 (by omega), rfl⟩)
    · refine XW.iconst 14 dX4_leastOf_13 (v := 0) (by decide) rfl ?_
      refine XW.istore 16 (L' := [some (.ref 53), some (.int xl), some (.float v), some (.int (b2i an)), some (.int (nI a)), some (.int 0), none]) dX4_leastOf_14 (by decide) rfl rfl rfl ?_
      exact l_kleast_i mi hxl q8 hs hsd hG (by omega) (fun v an hv => ih (a + 1) v an (by omega) (by omega) hv) (a + 1) 0 v an (by omega) (by omega) ⟨fun h => ⟨(g2.1 h).1, fun x y p1 p2 => (g2.1 h).2 x y p1 (by omega)⟩, fun h => ⟨(g2.2 h).1, fun x y p1 p2 => (g2.2 h).2 x y p1 (by omega)⟩⟩
set_option maxHeartbeats 400000 in
set_option maxRecDepth 100000 in
theorem k_leastOf {Z : xZ} {c l : Nat} (mi : MI (Z.2.1 54) c l) {q : Nat} {xl : Int32} (hxl : xl = nI q) (q8 : q ≤ 8) (hs : rowOK (Z.2.1 60) q c) (hsd : rowDI (Z.2.1 60) q) (hG : gapOK (Z.2.2.1 59) (nE (Z.2.1 54)) (nR (Z.2.1 54)) c) : XC mX4_leastOf 1 0 0 [.ref 53, .int xl] (HP Z) (fun r h' => r = some (.float (lsV (apG (nE (Z.2.1 54)) (nR (Z.2.1 54))) (rv (Z.2.1 60)) q)) ∧ h' = HP Z) := by
  show XW mX4_leastOf 1 0 0 0 [some (.ref 53), some (.int xl), none, none, none, none, none] [] (HP Z) _
  obtain ⟨hc, c20, hl, l8, ok, hf, hdi, hfb⟩ := id mi
  refine XW.fconst0 1 dX4_leastOf_0 rfl ?_
  refine XW.fstore_n 2 (L' := [some (.ref 53), some (.int xl), some (.float FP.fconst0), none, none, none, none]) dX4_leastOf_1 (by decide) rfl rfl rfl ?_
  refine XW.iconst 3 dX4_leastOf_2 (v := 0) (by decide) rfl ?_
  refine XW.istore_n 4 (L' := [some (.ref 53), some (.int xl), some (.float FP.fconst0), some (.int 0), none, none, none]) dX4_leastOf_3 (by decide) rfl rfl rfl ?_
  refine XW.iconst 5 dX4_leastOf_4 (v := 0) (by decide) rfl ?_
  refine XW.istore 7 (L' := [some (.ref 53), some (.int xl), some (.float FP.fconst0), some (.int 0), some (.int 0), none, none]) dX4_leastOf_5 (by decide) rfl rfl rfl ?_
  refine XW.eqs (L' := [some (.ref 53), some (.int xl), some (.float FP.fconst0), some (.int (b2i false)), some (.int (nI 0)), none, none]) (by rfl) rfl rfl ?_
  exact l_kleast_o mi hxl q8 hs hsd hG (q + 1) 0 FP.fconst0 false (by omega) (by omega) ⟨fun _ => ⟨rfl, fun x y _ h => absurd h (by omega)⟩, fun h => absurd h (by decide)⟩
theorem upd_le {S R : Nat → Int32} {k : Nat} (h : ∀ p, p < k → S p = R p) : ∀ p, p < k + 1 → upd S k (R k) p = R p := by
  intro p hp
  unfold upd
  by_cases e : p = k
  · rw [if_pos e, e]
  · rw [if_neg e]; exact h p (by omega)
set_option maxHeartbeats 400000 in
set_option maxRecDepth 100000 in
theorem l_ktakes {Z : xZ} {c l : Nat} (mi : MI (Z.2.1 54) c l)  : ∀ (n : Nat) (k : Nat) (S : Nat → Int32), k ≤ l → l < k + n → (∀ p, p < k → S p = (mP (Z.2.1 54)) p) → XW mX4_takesPalette 0 0 0 2 [some (.ref 53), some (.int (nI k))] [] (HP (sA Z 60 S)) (fun r h' => r = none ∧ ∃ S, (∀ p, p < l → S p = (mP (Z.2.1 54)) p) ∧ h' = HP (sA Z 60 S)) := by
  intro n
  induction n with
  | zero => intro k S g0 g1 g2; omega
  | succ n ih =>
    intro k S g0 g1 g2
    obtain ⟨hc, c20, hl, l8, ok, hf, hdi, hfb⟩ := id mi
    refine XW.iload_n 3 dX4_takesPalette_2 rfl rfl ?_
    refine XW.aload_n 4 dX4_takesPalette_3 rfl rfl ?_
    refine XW.getf 7 (v := .ref 54) f4_7 dX4_takesPalette_4 rfl rfl rfl ?_
    refine XW.bipush 9 dX4_takesPalette_7 (v := 120) (by decide) rfl ?_
    refine XW.iald 10 120 dX4_takesPalette_9 rfl rfl (by omega) (by decide) rfl ?_
    refine XW.icmp_geN 34 13 k l dX4_takesPalette_10 (by decide) rfl rfl hl (by omega) (by omega) (fun c_10 => ?_) (fun c_10 => ?_)
    · exact XW.vret dX4_takesPalette_34 trivial (⟨rfl, S, fun p hp => g2 p (by omega), rfl⟩)
    · refine XW.aload_n 14 dX4_takesPalette_13 rfl rfl ?_
      refine XW.getf 17 (v := .ref 60) f4_29 dX4_takesPalette_14 rfl rfl rfl ?_
      refine XW.iload_n 18 dX4_takesPalette_17 rfl rfl ?_
      refine XW.aload_n 19 dX4_takesPalette_18 rfl rfl ?_
      refine XW.getf 22 (v := .ref 54) f4_7 dX4_takesPalette_19 rfl rfl rfl ?_
      refine XW.bipush 24 dX4_takesPalette_22 (v := 121) (by decide) rfl ?_
      refine XW.iload_n 25 dX4_takesPalette_24 rfl rfl ?_
      refine XW.iadd 26 dX4_takesPalette_25 rfl ?_
      refine XW.iald 27 (121 + k) dX4_takesPalette_26 rfl (na rfl rfl) (by omega) (by decide) rfl ?_
      refine XW.iast 28 (h' := HP (sA (sA Z 60 S) 60 (upd S k (Z.2.1 54 (121 + k))))) k dX4_takesPalette_27 rfl rfl (by omega) (by decide) rfl rfl ?_
      refine XW.iinc 31 (y := nI (k + 1)) (L' := [some (.ref 53), some (.int (nI (k + 1)))]) dX4_takesPalette_28 rfl (na rfl rfl) (by decide) rfl rfl rfl ?_
      refine XW.goto 2 dX4_takesPalette_31 (by decide) ?_
      exact ih (k + 1) _ (by omega) (by omega) (upd_le g2)
set_option maxHeartbeats 400000 in
set_option maxRecDepth 100000 in
theorem k_takesPalette {Z : xZ} {c l : Nat} (mi : MI (Z.2.1 54) c l)  : XC mX4_takesPalette 0 0 0 [.ref 53] (HP Z) (fun r h' => r = none ∧ ∃ S, (∀ p, p < l → S p = (mP (Z.2.1 54)) p) ∧ h' = HP (sA Z 60 S)) := by
  show XW mX4_takesPalette 0 0 0 0 [some (.ref 53), none] [] (HP Z) _
  obtain ⟨hc, c20, hl, l8, ok, hf, hdi, hfb⟩ := id mi
  refine XW.iconst 1 dX4_takesPalette_0 (v := 0) (by decide) rfl ?_
  refine XW.istore_n 2 (L' := [some (.ref 53), some (.int 0)]) dX4_takesPalette_1 (by decide) rfl rfl rfl ?_
  refine XW.eqs (L' := [some (.ref 53), some (.int (nI 0))]) (h' := HP (sA Z 60 (Z.2.1 60))) (by rfl) rfl (by rfl) ?_
  exact l_ktakes mi (l + 1) 0 (Z.2.1 60) (by omega) (by omega) (fun p hp => absurd hp (by omega))
