/-! The reference: orders -/
theorem sh1_e {x k : Int32} : x >>> (k &&& 31) &&& 1 = b2i (bitB x k) := by have h := sh1_b (x := x) (k := k); injection h with h; injection h
theorem biF_s {x : Int32} {n : Nat} : biF x (n + 1) = biF x n + (x >>> (nI n &&& 31) &&& 1) := rfl
theorem bi_fxR {x : Int32} {row : Nat → Int32} : ∀ n, biF x n = nI (fxR x row n).2
  | 0 => rfl
  | n + 1 => by
    rw [biF_s, bi_fxR n, sh1_e]
    cases h : bitB x (nI n) with
    | true => rw [fxR_t h, show b2i true = nI 1 from rfl, ← nI_add]
    | false => rw [fxR_f h, show b2i false = (0 : Int32) from rfl, Int32.add_zero]
theorem fxR_top {x : Int32} {row : Nat → Int32} {c : Nat} (h : ∀ j, j < 32 → bt x j = true → j < c) : ∀ n, c + n ≤ 32 → fxR x row (c + n) = fxR x row c
  | 0, _ => rfl
  | n + 1, hn => by
    rw [show c + (n + 1) = (c + n) + 1 from rfl, fxR_f, fxR_top h n (by omega)]
    cases hb : bitB x (nI (c + n)) with
    | false => rfl
    | true => rw [bitB_bt (by omega)] at hb; have := h _ (by omega) hb; omega
theorem bi_fxR20 {x : Int32} {row : Nat → Int32} {c : Nat} (c20 : c ≤ 20) (h : ∀ j, j < 32 → bt x j = true → j < c) : biF x 20 = nI (fxR x row c).2 := by
  rw [bi_fxR (row := row) 20, ← fxR_top h (20 - c) (by omega), show c + (20 - c) = 20 by omega]
theorem fxR_le {x : Int32} {row : Nat → Int32} : ∀ n, (fxR x row n).2 ≤ n
  | 0 => Nat.le_refl 0
  | n + 1 => by
    have ih := fxR_le (x := x) (row := row) n
    cases h : bitB x (nI n) with
    | true => rw [fxR_t h]; show (fxR x row n).2 + 1 ≤ n + 1; omega
    | false => rw [fxR_f h]; omega
def cN (N : Nat → Int32) : Nat := (N 0).toNatClampNeg
def leN (N : Nat → Int32) : Nat := (N 120).toNatClampNeg
def apN (N : Nat → Int32) : Nat → Nat → UInt32 := apG (nE N) (nR N)
def fbN (N : Nat → Int32) : Int32 := fbF (nR N) (nG N) (nL N) (cN N)
def fxN (N : Nat → Int32) (i on : Int32) : Int32 := (N 61 &&& ((1 <<< (i &&& 31)) ^^^ (-1))) ||| (on <<< (i &&& 31))
def flN (N : Nat → Int32) (n : Nat) : (Nat → Int32) × Nat := fillF (apN N) (nR N) (fbN N) (N 61) (mP N) (cN N) n
def swN (N : Nat → Int32) : Nat × (Nat → Int32) := saF (apN N) (fbN N) (N 61) (leN N) (cN N) 60 0 (mP N)
/-- whether an order may be done; what it makes of the numbers -/
def okN (kd a b : Int32) (N : Nat → Int32) : Bool := if kd = 99 then decide (cN N < 20) else if kd = 102 then isC a (N 0) && inF b 0 1 else if kd = 108 then inF a 0 255 && inF b 0 255 else if kd = 112 then inF a 1 8 && decide (biF (N 61) 20 ≤ a) else true
def nxN (kd a b : Int32) (N : Nat → Int32) : Nat → Int32 := if kd = 99 then upd (up3 N (1 + 3 * cN N) (a >>> ((16 : Int32) &&& 31)) ((a >>> ((8 : Int32) &&& 31)) &&& 255) (a &&& 255)) 0 (nI (cN N + 1)) else if kd = 102 then upd N 61 (fxN N a b) else if kd = 108 then upd (upd N 114 a) 115 b else if kd = 112 then rwN N (flN N a.toNatClampNeg).1 (flN N a.toNatClampNeg).2 else rwN N (swN N).2 (leN N)
theorem MI.c {N : Nat → Int32} {c l : Nat} (mi : MI N c l) : cN N = c := by unfold cN; rw [mi.1, nI_clamp (by have := mi.2.1; omega)]
theorem MI.l {N : Nat → Int32} {c l : Nat} (mi : MI N c l) : leN N = l := by unfold leN; rw [mi.2.2.1, nI_clamp (by have := mi.2.2.2.1; omega)]
theorem MI.fx {N : Nat → Int32} {c l : Nat} (mi : MI N c l) : biF (N 61) 20 = nI (fxR (N 61) (mP N) c).2 := bi_fxR20 mi.2.1 mi.2.2.2.2.2.2.2
theorem MI.fill {N : Nat → Int32} {c l n : Nat} (mi : MI N c l) (hn : n ≤ 8) (h : biF (N 61) 20 ≤ nI n) : (fxR (N 61) (mP N) c).2 ≤ n := by
  rw [mi.fx, nI_leI (by have := fxR_le (x := N 61) (row := mP N) c; have := mi.2.1; omega) (by omega)] at h; exact h
/-- what an order may change in the heap -/
def MOD (Z V : xZ) : Prop := (∀ a j, a ≠ 53 ∨ j ≠ 8 → V.1 a j = Z.1 a j) ∧ (∀ a, a ≠ 54 → a ≠ 60 → V.2.1 a = Z.2.1 a) ∧ V.2.2.2 = Z.2.2.2
theorem MOD.rfl' {Z : xZ} : MOD Z Z := ⟨fun _ _ _ => rfl, fun _ _ _ => rfl, rfl⟩
theorem MOD.now {Z V : xZ} (h : MOD Z V) {f : Nat → Int32} : MOD Z (sA V 54 f) := ⟨h.1, fun a h1 h2 => by rw [sA_2 _ _ h1]; exact h.2.1 a h1 h2, h.2.2⟩
theorem MOD.some {Z V : xZ} (h : MOD Z V) {f : Nat → Int32} : MOD Z (sA V 60 f) := ⟨h.1, fun a h1 h2 => by rw [sA_2 _ _ h2]; exact h.2.1 a h1 h2, h.2.2⟩
theorem MOD.fit {Z V : xZ} (h : MOD Z V) {v : Int32} : MOD Z (sI V 53 8 v) := ⟨fun a j hj => by rw [sI_2 _ _ (by omega)]; exact h.1 a j hj, h.2.1, h.2.2⟩
theorem MOD.far {Z V : xZ} (h : MOD Z V) {G : Nat → UInt32} : MOD Z (sF V 59 G) := ⟨h.1, h.2.1, h.2.2⟩
theorem MOD.trans {Z V W : xZ} (h : MOD Z V) (h2 : MOD V W) : MOD Z W := ⟨fun a j hj => (h2.1 a j hj).trans (h.1 a j hj), fun a h3 h4 => (h2.2.1 a h3 h4).trans (h.2.1 a h3 h4), h2.2.2.trans h.2.2⟩
set_option maxHeartbeats 400000 in
set_option maxRecDepth 100000 in
theorem k_told_ok {Z : xZ} {c l : Nat} (mi : MI (Z.2.1 54) c l) (v : Int32) (c19 : c < 20) : XC mX4_comesTold 2 0 0 [.ref 53, .int v] (HP Z) (fun r h' => r = some (.int 1) ∧ h' = HP (sA Z 54 (upd (up3 (Z.2.1 54) (1 + 3 * c) (v >>> ((16 : Int32) &&& 31)) ((v >>> ((8 : Int32) &&& 31)) &&& 255) (v &&& 255)) 0 (nI (c + 1))))) := by
  show XW mX4_comesTold 2 0 0 0 [some (.ref 53), some (.int v)] [] (HP Z) _
  obtain ⟨hc, c20, hl, l8, ok, hf, hdi, hfb⟩ := id mi
  refine XW.aload_n 1 dX4_comesTold_0 rfl rfl ?_
  refine XW.getf 4 (v := .ref 54) f4_7 dX4_comesTold_1 rfl rfl rfl ?_
  refine XW.iconst 5 dX4_comesTold_4 (v := 0) (by decide) rfl ?_
  refine XW.iald 6 0 dX4_comesTold_5 rfl rfl (by omega) (by decide) rfl ?_
  refine XW.bipush 8 dX4_comesTold_6 (v := 20) (by decide) rfl ?_
  refine XW.icmp_geN 39 11 c 20 dX4_comesTold_8 (by decide) rfl hc rfl (by omega) (by omega) (fun c_8 => ?_) (fun c_8 => ?_)
  · omega
  · refine XW.aload_n 12 dX4_comesTold_11 rfl rfl ?_
    refine XW.iload_n 13 dX4_comesTold_12 rfl rfl ?_
    refine XW.bipush 15 dX4_comesTold_13 (v := 16) (by decide) rfl ?_
    refine XW.ishr 16 dX4_comesTold_15 rfl ?_
    refine XW.iload_n 17 dX4_comesTold_16 rfl rfl ?_
    refine XW.bipush 19 dX4_comesTold_17 (v := 8) (by decide) rfl ?_
    refine XW.ishr 20 dX4_comesTold_19 rfl ?_
    refine XW.sipush 23 dX4_comesTold_20 (v := 255) (by decide) rfl ?_
    refine XW.iand 24 dX4_comesTold_23 rfl ?_
    refine XW.iload_n 25 dX4_comesTold_24 rfl rfl ?_
    refine XW.sipush 28 dX4_comesTold_25 (v := 255) (by decide) rfl ?_
    refine XW.iand 29 dX4_comesTold_28 rfl ?_
    refine XW.callV 32 (vs := [.int (v >>> (16 &&& 31)), .int ((v >>> (8 &&& 31)) &&& 255), .int (v &&& 255)]) (rest := []) (mcr := 0) (msr := 0) c4_77 dX4_comesTold_29 rfl rfl (by decide) (Nat.le_of_ble_eq_true rfl) rfl rfl (Nat.le_of_ble_eq_true rfl) rfl (k_comes (Z := Z) (c := c) _ _ _ hc (by omega)) (fun r h1 hq => ?_)
    obtain ⟨rfl, rfl⟩ := hq
    refine XW.if_lt 39 35 dX4_comesTold_32 (by decide) rfl (fun c_32 => ?_) (fun c_32 => ?_)
    · exact absurd c_32 (by rw [show (0 : Int32) = nI 0 from rfl, nI_ltI (by omega) (by omega)]; omega)
    · refine XW.iconst 36 dX4_comesTold_35 (v := 1) (by decide) rfl ?_
      refine XW.goto 40 dX4_comesTold_36 (by decide) ?_
      exact XW.iret dX4_comesTold_40 rfl (⟨rfl, rfl⟩)
set_option maxHeartbeats 400000 in
set_option maxRecDepth 100000 in
theorem k_told_no {Z : xZ} {c l : Nat} (mi : MI (Z.2.1 54) c l) (v : Int32) (c19 : c = 20) : XC mX4_comesTold 2 0 0 [.ref 53, .int v] (HP Z) (fun r h' => r = some (.int 0) ∧ h' = HP Z) := by
  show XW mX4_comesTold 2 0 0 0 [some (.ref 53), some (.int v)] [] (HP Z) _
  obtain ⟨hc, c20, hl, l8, ok, hf, hdi, hfb⟩ := id mi
  refine XW.aload_n 1 dX4_comesTold_0 rfl rfl ?_
  refine XW.getf 4 (v := .ref 54) f4_7 dX4_comesTold_1 rfl rfl rfl ?_
  refine XW.iconst 5 dX4_comesTold_4 (v := 0) (by decide) rfl ?_
  refine XW.iald 6 0 dX4_comesTold_5 rfl rfl (by omega) (by decide) rfl ?_
  refine XW.bipush 8 dX4_comesTold_6 (v := 20) (by decide) rfl ?_
  refine XW.icmp_geN 39 11 c 20 dX4_comesTold_8 (by decide) rfl hc rfl (by omega) (by omega) (fun c_8 => ?_) (fun c_8 => ?_)
  · refine XW.iconst 40 dX4_comesTold_39 (v := 0) (by decide) rfl ?_
    exact XW.iret dX4_comesTold_40 rfl (⟨rfl, rfl⟩)
  · omega
section OkN
variable {kd a b : Int32} {N : Nat → Int32}
theorem okN_99 (h : kd = 99) : okN kd a b N = decide (cN N < 20) := if_pos h
theorem okN_102 (h : kd = 102) : okN kd a b N = (isC a (N 0) && inF b 0 1) := by subst h; rfl
theorem okN_108 (h : kd = 108) : okN kd a b N = (inF a 0 255 && inF b 0 255) := by subst h; rfl
theorem okN_112 (h : kd = 112) : okN kd a b N = (inF a 1 8 && decide (biF (N 61) 20 ≤ a)) := by subst h; rfl
theorem okN_s (h1 : ¬ kd = 99) (h2 : ¬ kd = 102) (h3 : ¬ kd = 108) (h4 : ¬ kd = 112) : okN kd a b N = true := by unfold okN; rw [if_neg h1, if_neg h2, if_neg h3, if_neg h4]
theorem nxN_99 (h : kd = 99) : nxN kd a b N = upd (up3 N (1 + 3 * cN N) (a >>> ((16 : Int32) &&& 31)) ((a >>> ((8 : Int32) &&& 31)) &&& 255) (a &&& 255)) 0 (nI (cN N + 1)) := if_pos h
theorem nxN_102 (h : kd = 102) : nxN kd a b N = upd N 61 (fxN N a b) := by unfold nxN; rw [if_neg (by rw [h]; decide), if_pos h]
theorem nxN_108 (h : kd = 108) : nxN kd a b N = upd (upd N 114 a) 115 b := by unfold nxN; rw [if_neg (by rw [h]; decide), if_neg (by rw [h]; decide), if_pos h]
theorem nxN_112 (h : kd = 112) : nxN kd a b N = rwN N (flN N a.toNatClampNeg).1 (flN N a.toNatClampNeg).2 := by unfold nxN; rw [if_neg (by rw [h]; decide), if_neg (by rw [h]; decide), if_neg (by rw [h]; decide), if_pos h]
theorem nxN_s (h1 : ¬ kd = 99) (h2 : ¬ kd = 102) (h3 : ¬ kd = 108) (h4 : ¬ kd = 112) : nxN kd a b N = rwN N (swN N).2 (leN N) := by unfold nxN; rw [if_neg h1, if_neg h2, if_neg h3, if_neg h4]
end OkN
theorem nI_nn {n : Nat} (h : n < 2 ^ 31) : ¬ nI n < 0 := by rw [show (0 : Int32) = nI 0 from rfl, nI_ltI h (by omega)]; omega
theorem biF_nn {x : Int32} : ¬ biF x 20 < 0 := by
  have h := fxR_le (x := x) (row := fun _ => 1) 20
  rw [bi_fxR (row := fun _ => 1) 20]; exact nI_nn (by omega)
theorem saF_le {ap : Nat → Nat → UInt32} {fit fx : Int32} {l c : Nat} : ∀ m k row, (saF ap fit fx l c m k row).1 ≤ k + m
  | 0, k, row => Nat.le_refl k
  | m + 1, k, row => by
    cases hb : (swR ap fit fx l c row).1 with
    | true => rw [saF_t hb]; have := saF_le (ap := ap) (fit := fit) (fx := fx) (l := l) (c := c) m (k + 1) (swR ap fit fx l c row).2; omega
    | false => rw [saF_f hb]; show k ≤ k + (m + 1); omega
set_option maxHeartbeats 400000 in
set_option maxRecDepth 100000 in
theorem k_ob_99 {Z : xZ} {c l : Nat} (mi : MI (Z.2.1 54) c l) {k : Nat} {xk : Int32} (hxk : xk = nI k) (k60 : k < 60) (hkd : Z.2.1 61 k = 99) (c19 : c < 20) : XC mX4_obeys 6 0 0 [.ref 53, .int xk] (HP Z) (fun r h' => r = some (.int (b2i (okN (Z.2.1 61 k) (Z.2.1 62 (2 * k)) (Z.2.1 62 (2 * k + 1)) (Z.2.1 54)))) ∧ ((okN (Z.2.1 61 k) (Z.2.1 62 (2 * k)) (Z.2.1 62 (2 * k + 1)) (Z.2.1 54)) = true → ∃ V, MOD Z V ∧ V.2.1 54 = (nxN (Z.2.1 61 k) (Z.2.1 62 (2 * k)) (Z.2.1 62 (2 * k + 1)) (Z.2.1 54)) ∧ h' = HP V) ∧ ((okN (Z.2.1 61 k) (Z.2.1 62 (2 * k)) (Z.2.1 62 (2 * k + 1)) (Z.2.1 54)) = false → h' = HP Z)) := by
  show XW mX4_obeys 6 0 0 0 [some (.ref 53), some (.int xk), none] [] (HP Z) _
  obtain ⟨hc, c20, hl, l8, ok, hf, hdi, hfb⟩ := id mi
  refine XW.aload_n 1 dX4_obeys_0 rfl rfl ?_
  refine XW.getf 4 (v := .ref 62) f4_35 dX4_obeys_1 rfl rfl rfl ?_
  refine XW.iconst 5 dX4_obeys_4 (v := 2) (by decide) rfl ?_
  refine XW.iload_n 6 dX4_obeys_5 rfl rfl ?_
  refine XW.imul 7 dX4_obeys_6 rfl ?_
  refine XW.iald 8 (2 * k) dX4_obeys_7 rfl (nm rfl hxk) (by omega) (by decide) rfl ?_
  refine XW.istore_n 9 (L' := [some (.ref 53), some (.int xk), some (.int (Z.2.1 62 (2 * k)))]) dX4_obeys_8 (by decide) rfl rfl rfl ?_
  refine XW.aload_n 10 dX4_obeys_9 rfl rfl ?_
  refine XW.getf 13 (v := .ref 61) f4_32 dX4_obeys_10 rfl rfl rfl ?_
  refine XW.iload_n 14 dX4_obeys_13 rfl rfl ?_
  refine XW.iald 15 k dX4_obeys_14 rfl hxk (by omega) (by decide) rfl ?_
  refine XW.lookup 56 (off := 41) dX4_obeys_15 (by decide) (by show Op.lookupswitch.offset _ _ (Z.2.1 61 k).toInt = _; rw [hkd]; decide) (by decide) ?_
  refine XW.aload_n 57 dX4_obeys_56 rfl rfl ?_
  refine XW.iload_n 58 dX4_obeys_57 rfl rfl ?_
  refine XW.callV 61 (vs := [.int (Z.2.1 62 (2 * k))]) (rest := []) (mcr := 0) (msr := 0) c4_231 dX4_obeys_58 rfl rfl (by decide) (Nat.le_of_ble_eq_true rfl) rfl rfl (Nat.le_of_ble_eq_true rfl) rfl (k_told_ok mi _ c19) (fun r h1 hq => ?_)
  obtain ⟨rfl, rfl⟩ := hq
  exact XW.iret dX4_obeys_61 rfl (by
    have e : (okN (Z.2.1 61 k) (Z.2.1 62 (2 * k)) (Z.2.1 62 (2 * k + 1)) (Z.2.1 54)) = true := by rw [okN_99 hkd, mi.c]; exact decide_eq_true c19
    exact ⟨by rw [e]; rfl, fun _ => ⟨_, MOD.rfl'.now, by rw [nxN_99 hkd, mi.c]; exact sA_1 _ _ _, rfl⟩, fun q => absurd q (by rw [e]; decide)⟩)
set_option maxHeartbeats 400000 in
set_option maxRecDepth 100000 in
theorem k_ob_99n {Z : xZ} {c l : Nat} (mi : MI (Z.2.1 54) c l) {k : Nat} {xk : Int32} (hxk : xk = nI k) (k60 : k < 60) (hkd : Z.2.1 61 k = 99) (c19 : c = 20) : XC mX4_obeys 6 0 0 [.ref 53, .int xk] (HP Z) (fun r h' => r = some (.int (b2i (okN (Z.2.1 61 k) (Z.2.1 62 (2 * k)) (Z.2.1 62 (2 * k + 1)) (Z.2.1 54)))) ∧ ((okN (Z.2.1 61 k) (Z.2.1 62 (2 * k)) (Z.2.1 62 (2 * k + 1)) (Z.2.1 54)) = true → ∃ V, MOD Z V ∧ V.2.1 54 = (nxN (Z.2.1 61 k) (Z.2.1 62 (2 * k)) (Z.2.1 62 (2 * k + 1)) (Z.2.1 54)) ∧ h' = HP V) ∧ ((okN (Z.2.1 61 k) (Z.2.1 62 (2 * k)) (Z.2.1 62 (2 * k + 1)) (Z.2.1 54)) = false → h' = HP Z)) := by
  show XW mX4_obeys 6 0 0 0 [some (.ref 53), some (.int xk), none] [] (HP Z) _
  obtain ⟨hc, c20, hl, l8, ok, hf, hdi, hfb⟩ := id mi
  refine XW.aload_n 1 dX4_obeys_0 rfl rfl ?_
  refine XW.getf 4 (v := .ref 62) f4_35 dX4_obeys_1 rfl rfl rfl ?_
  refine XW.iconst 5 dX4_obeys_4 (v := 2) (by decide) rfl ?_
  refine XW.iload_n 6 dX4_obeys_5 rfl rfl ?_
  refine XW.imul 7 dX4_obeys_6 rfl ?_
  refine XW.iald 8 (2 * k) dX4_obeys_7 rfl (nm rfl hxk) (by omega) (by decide) rfl ?_
  refine XW.istore_n 9 (L' := [some (.ref 53), some (.int xk), some (.int (Z.2.1 62 (2 * k)))]) dX4_obeys_8 (by decide) rfl rfl rfl ?_
  refine XW.aload_n 10 dX4_obeys_9 rfl rfl ?_
  refine XW.getf 13 (v := .ref 61) f4_32 dX4_obeys_10 rfl rfl rfl ?_
  refine XW.iload_n 14 dX4_obeys_13 rfl rfl ?_
  refine XW.iald 15 k dX4_obeys_14 rfl hxk (by omega) (by decide) rfl ?_
  refine XW.lookup 56 (off := 41) dX4_obeys_15 (by decide) (by show Op.lookupswitch.offset _ _ (Z.2.1 61 k).toInt = _; rw [hkd]; decide) (by decide) ?_
  refine XW.aload_n 57 dX4_obeys_56 rfl rfl ?_
  refine XW.iload_n 58 dX4_obeys_57 rfl rfl ?_
  refine XW.callV 61 (vs := [.int (Z.2.1 62 (2 * k))]) (rest := []) (mcr := 0) (msr := 0) c4_231 dX4_obeys_58 rfl rfl (by decide) (Nat.le_of_ble_eq_true rfl) rfl rfl (Nat.le_of_ble_eq_true rfl) rfl (k_told_no mi _ c19) (fun r h1 hq => ?_)
  obtain ⟨rfl, rfl⟩ := hq
  exact XW.iret dX4_obeys_61 rfl (by
    have e : (okN (Z.2.1 61 k) (Z.2.1 62 (2 * k)) (Z.2.1 62 (2 * k + 1)) (Z.2.1 54)) = false := by rw [okN_99 hkd, mi.c]; exact decide_eq_false (by omega)
    exact ⟨by rw [e]; rfl, fun q => absurd q (by rw [e]; decide), fun _ => rfl⟩)
set_option maxHeartbeats 400000 in
set_option maxRecDepth 100000 in
theorem k_ob_102 {Z : xZ} {c l : Nat} (mi : MI (Z.2.1 54) c l) {k : Nat} {xk : Int32} (hxk : xk = nI k) (k60 : k < 60) (hkd : Z.2.1 61 k = 102) : XC mX4_obeys 6 0 0 [.ref 53, .int xk] (HP Z) (fun r h' => r = some (.int (b2i (okN (Z.2.1 61 k) (Z.2.1 62 (2 * k)) (Z.2.1 62 (2 * k + 1)) (Z.2.1 54)))) ∧ ((okN (Z.2.1 61 k) (Z.2.1 62 (2 * k)) (Z.2.1 62 (2 * k + 1)) (Z.2.1 54)) = true → ∃ V, MOD Z V ∧ V.2.1 54 = (nxN (Z.2.1 61 k) (Z.2.1 62 (2 * k)) (Z.2.1 62 (2 * k + 1)) (Z.2.1 54)) ∧ h' = HP V) ∧ ((okN (Z.2.1 61 k) (Z.2.1 62 (2 * k)) (Z.2.1 62 (2 * k + 1)) (Z.2.1 54)) = false → h' = HP Z)) := by
  show XW mX4_obeys 6 0 0 0 [some (.ref 53), some (.int xk), none] [] (HP Z) _
  obtain ⟨hc, c20, hl, l8, ok, hf, hdi, hfb⟩ := id mi
  refine XW.aload_n 1 dX4_obeys_0 rfl rfl ?_
  refine XW.getf 4 (v := .ref 62) f4_35 dX4_obeys_1 rfl rfl rfl ?_
  refine XW.iconst 5 dX4_obeys_4 (v := 2) (by decide) rfl ?_
  refine XW.iload_n 6 dX4_obeys_5 rfl rfl ?_
  refine XW.imul 7 dX4_obeys_6 rfl ?_
  refine XW.iald 8 (2 * k) dX4_obeys_7 rfl (nm rfl hxk) (by omega) (by decide) rfl ?_
  refine XW.istore_n 9 (L' := [some (.ref 53), some (.int xk), some (.int (Z.2.1 62 (2 * k)))]) dX4_obeys_8 (by decide) rfl rfl rfl ?_
  refine XW.aload_n 10 dX4_obeys_9 rfl rfl ?_
  refine XW.getf 13 (v := .ref 61) f4_32 dX4_obeys_10 rfl rfl rfl ?_
  refine XW.iload_n 14 dX4_obeys_13 rfl rfl ?_
  refine XW.iald 15 k dX4_obeys_14 rfl hxk (by omega) (by decide) rfl ?_
  refine XW.lookup 62 (off := 47) dX4_obeys_15 (by decide) (by show Op.lookupswitch.offset _ _ (Z.2.1 61 k).toInt = _; rw [hkd]; decide) (by decide) ?_
  refine XW.aload_n 63 dX4_obeys_62 rfl rfl ?_
  refine XW.iload_n 64 dX4_obeys_63 rfl rfl ?_
  refine XW.callV 67 (vs := [.int (Z.2.1 62 (2 * k))]) (rest := []) (mcr := 0) (msr := 0) c4_81 dX4_obeys_64 rfl rfl (by decide) (Nat.le_of_ble_eq_true rfl) rfl rfl (Nat.le_of_ble_eq_true rfl) rfl (k_isColour mi _) (fun r h1 hq => ?_)
  obtain ⟨rfl, rfl⟩ := hq
  refine XW.if_eqB 110 70 dX4_obeys_67 (by decide) rfl (fun c_67 => ?_) (fun c_67 => ?_)
  · refine XW.iconst 111 dX4_obeys_110 (v := 0) (by decide) rfl ?_
    exact XW.iret dX4_obeys_111 rfl (by
      have e : (okN (Z.2.1 61 k) (Z.2.1 62 (2 * k)) (Z.2.1 62 (2 * k + 1)) (Z.2.1 54)) = false := by rw [okN_102 hkd]; first | rw [c_67, Bool.false_and] | rw [c_67, c_85]; rfl
      exact ⟨by rw [e]; rfl, fun q => absurd q (by rw [e]; decide), fun _ => rfl⟩)
  · refine XW.aload_n 71 dX4_obeys_70 rfl rfl ?_
    refine XW.getf 74 (v := .ref 62) f4_35 dX4_obeys_71 rfl rfl rfl ?_
    refine XW.iconst 75 dX4_obeys_74 (v := 2) (by decide) rfl ?_
    refine XW.iload_n 76 dX4_obeys_75 rfl rfl ?_
    refine XW.imul 77 dX4_obeys_76 rfl ?_
    refine XW.iconst 78 dX4_obeys_77 (v := 1) (by decide) rfl ?_
    refine XW.iadd 79 dX4_obeys_78 rfl ?_
    refine XW.iald 80 ((2 * k) + 1) dX4_obeys_79 rfl (na (nm rfl hxk) rfl) (by omega) (by decide) rfl ?_
    refine XW.iconst 81 dX4_obeys_80 (v := 0) (by decide) rfl ?_
    refine XW.iconst 82 dX4_obeys_81 (v := 1) (by decide) rfl ?_
    refine XW.callS 85 (vs := [.int (Z.2.1 62 ((2 * k) + 1)), .int 0, .int 1]) (rest := []) (mcr := 0) (msr := 0) c4_49 dX4_obeys_82 rfl (by decide) (Nat.le_of_ble_eq_true rfl) rfl rfl (Nat.le_of_ble_eq_true rfl) rfl (c_in_ _ _ _ _) (fun r h1 hq => ?_)
    obtain ⟨rfl, rfl⟩ := hq
    refine XW.if_eqB 110 88 dX4_obeys_85 (by decide) rfl (fun c_85 => ?_) (fun c_85 => ?_)
    · refine XW.iconst 111 dX4_obeys_110 (v := 0) (by decide) rfl ?_
      exact XW.iret dX4_obeys_111 rfl (by
        have e : (okN (Z.2.1 61 k) (Z.2.1 62 (2 * k)) (Z.2.1 62 (2 * k + 1)) (Z.2.1 54)) = false := by rw [okN_102 hkd]; first | rw [c_67, Bool.false_and] | rw [c_67, c_85]; rfl
        exact ⟨by rw [e]; rfl, fun q => absurd q (by rw [e]; decide), fun _ => rfl⟩)
    · refine XW.aload_n 89 dX4_obeys_88 rfl rfl ?_
      refine XW.iload_n 90 dX4_obeys_89 rfl rfl ?_
      refine XW.aload_n 91 dX4_obeys_90 rfl rfl ?_
      refine XW.getf 94 (v := .ref 62) f4_35 dX4_obeys_91 rfl rfl rfl ?_
      refine XW.iconst 95 dX4_obeys_94 (v := 2) (by decide) rfl ?_
      refine XW.iload_n 96 dX4_obeys_95 rfl rfl ?_
      refine XW.imul 97 dX4_obeys_96 rfl ?_
      refine XW.iconst 98 dX4_obeys_97 (v := 1) (by decide) rfl ?_
      refine XW.iadd 99 dX4_obeys_98 rfl ?_
      refine XW.iald 100 ((2 * k) + 1) dX4_obeys_99 rfl (na (nm rfl hxk) rfl) (by omega) (by decide) rfl ?_
      refine XW.callV 103 (vs := [.int (Z.2.1 62 (2 * k)), .int (Z.2.1 62 ((2 * k) + 1))]) (rest := []) (mcr := 0) (msr := 0) c4_98 dX4_obeys_100 rfl rfl (by decide) (Nat.le_of_ble_eq_true rfl) rfl rfl (Nat.le_of_ble_eq_true rfl) rfl (k_fixesOne (Z := Z) _ _) (fun r h1 hq => ?_)
      obtain ⟨rfl, rfl⟩ := hq
      refine XW.eqs (st' := [.int (biF (fxN (Z.2.1 54) (Z.2.1 62 (2 * k)) (Z.2.1 62 (2 * k + 1))) 20)]) rfl rfl rfl ?_
      refine XW.if_lt 110 106 dX4_obeys_103 (by decide) rfl (fun c_103 => ?_) (fun c_103 => ?_)
      · exact absurd c_103 biF_nn
      · refine XW.iconst 107 dX4_obeys_106 (v := 1) (by decide) rfl ?_
        refine XW.goto 111 dX4_obeys_107 (by decide) ?_
        exact XW.iret dX4_obeys_111 rfl (by
          have e : (okN (Z.2.1 61 k) (Z.2.1 62 (2 * k)) (Z.2.1 62 (2 * k + 1)) (Z.2.1 54)) = true := by rw [okN_102 hkd, c_67, c_85]; rfl
          exact ⟨by rw [e]; rfl, fun _ => ⟨_, MOD.rfl'.now, by rw [nxN_102 hkd]; exact sA_1 _ _ _, rfl⟩, fun q => absurd q (by rw [e]; decide)⟩)
set_option maxHeartbeats 400000 in
set_option maxRecDepth 100000 in
theorem k_ob_108 {Z : xZ} {c l : Nat} (mi : MI (Z.2.1 54) c l) {k : Nat} {xk : Int32} (hxk : xk = nI k) (k60 : k < 60) (hkd : Z.2.1 61 k = 108) : XC mX4_obeys 6 0 0 [.ref 53, .int xk] (HP Z) (fun r h' => r = some (.int (b2i (okN (Z.2.1 61 k) (Z.2.1 62 (2 * k)) (Z.2.1 62 (2 * k + 1)) (Z.2.1 54)))) ∧ ((okN (Z.2.1 61 k) (Z.2.1 62 (2 * k)) (Z.2.1 62 (2 * k + 1)) (Z.2.1 54)) = true → ∃ V, MOD Z V ∧ V.2.1 54 = (nxN (Z.2.1 61 k) (Z.2.1 62 (2 * k)) (Z.2.1 62 (2 * k + 1)) (Z.2.1 54)) ∧ h' = HP V) ∧ ((okN (Z.2.1 61 k) (Z.2.1 62 (2 * k)) (Z.2.1 62 (2 * k + 1)) (Z.2.1 54)) = false → h' = HP Z)) := by
  show XW mX4_obeys 6 0 0 0 [some (.ref 53), some (.int xk), none] [] (HP Z) _
  obtain ⟨hc, c20, hl, l8, ok, hf, hdi, hfb⟩ := id mi
  refine XW.aload_n 1 dX4_obeys_0 rfl rfl ?_
  refine XW.getf 4 (v := .ref 62) f4_35 dX4_obeys_1 rfl rfl rfl ?_
  refine XW.iconst 5 dX4_obeys_4 (v := 2) (by decide) rfl ?_
  refine XW.iload_n 6 dX4_obeys_5 rfl rfl ?_
  refine XW.imul 7 dX4_obeys_6 rfl ?_
  refine XW.iald 8 (2 * k) dX4_obeys_7 rfl (nm rfl hxk) (by omega) (by decide) rfl ?_
  refine XW.istore_n 9 (L' := [some (.ref 53), some (.int xk), some (.int (Z.2.1 62 (2 * k)))]) dX4_obeys_8 (by decide) rfl rfl rfl ?_
  refine XW.aload_n 10 dX4_obeys_9 rfl rfl ?_
  refine XW.getf 13 (v := .ref 61) f4_32 dX4_obeys_10 rfl rfl rfl ?_
  refine XW.iload_n 14 dX4_obeys_13 rfl rfl ?_
  refine XW.iald 15 k dX4_obeys_14 rfl hxk (by omega) (by decide) rfl ?_
  refine XW.lookup 112 (off := 97) dX4_obeys_15 (by decide) (by show Op.lookupswitch.offset _ _ (Z.2.1 61 k).toInt = _; rw [hkd]; decide) (by decide) ?_
  refine XW.aload_n 113 dX4_obeys_112 rfl rfl ?_
  refine XW.iload_n 114 dX4_obeys_113 rfl rfl ?_
  refine XW.aload_n 115 dX4_obeys_114 rfl rfl ?_
  refine XW.getf 118 (v := .ref 62) f4_35 dX4_obeys_115 rfl rfl rfl ?_
  refine XW.iconst 119 dX4_obeys_118 (v := 2) (by decide) rfl ?_
  refine XW.iload_n 120 dX4_obeys_119 rfl rfl ?_
  refine XW.imul 121 dX4_obeys_120 rfl ?_
  refine XW.iconst 122 dX4_obeys_121 (v := 1) (by decide) rfl ?_
  refine XW.iadd 123 dX4_obeys_122 rfl ?_
  refine XW.iald 124 ((2 * k) + 1) dX4_obeys_123 rfl (na (nm rfl hxk) rfl) (by omega) (by decide) rfl ?_
  refine XW.callV 127 (vs := [.int (Z.2.1 62 (2 * k)), .int (Z.2.1 62 ((2 * k) + 1))]) (rest := []) (mcr := 0) (msr := 0) c4_234 dX4_obeys_124 rfl rfl (by decide) (Nat.le_of_ble_eq_true rfl) rfl rfl (Nat.le_of_ble_eq_true rfl) rfl (k_limits (Z := Z) _ _) (fun r h1 hq => ?_)
  obtain ⟨rfl, ht, hf⟩ := hq
  exact XW.iret dX4_obeys_127 (xnar_b _) (by
    rw [okN_108 hkd, nxN_108 hkd]
    exact ⟨rfl, fun q => ⟨_, MOD.rfl'.now, sA_1 _ _ _, ht q⟩, hf⟩)
theorem in18 {x : Int32} (h : inF x 1 8 = true) : ∃ n, 1 ≤ n ∧ n ≤ 8 ∧ x = nI n := by
  obtain ⟨h1, h2⟩ := inF_iff.mp h
  obtain ⟨j, j1, j2⟩ := nI_of2 (x := x) (M := 8) (n := 8) (by decide) (fun q => absurd (Int32.le_trans h1 (Int32.le_of_lt q)) (by decide)) h2
  refine ⟨j, ?_, j1, j2⟩
  rcases Nat.eq_zero_or_pos j with e | e
  · subst e; rw [j2] at h1; exact absurd h1 (by decide)
  · exact e
set_option maxHeartbeats 400000 in
set_option maxRecDepth 100000 in
theorem k_ob_112 {Z : xZ} {c l : Nat} (mi : MI (Z.2.1 54) c l) {k : Nat} {xk : Int32} (hxk : xk = nI k) (k60 : k < 60) (hkd : Z.2.1 61 k = 112) : XC mX4_obeys 6 0 0 [.ref 53, .int xk] (HP Z) (fun r h' => r = some (.int (b2i (okN (Z.2.1 61 k) (Z.2.1 62 (2 * k)) (Z.2.1 62 (2 * k + 1)) (Z.2.1 54)))) ∧ ((okN (Z.2.1 61 k) (Z.2.1 62 (2 * k)) (Z.2.1 62 (2 * k + 1)) (Z.2.1 54)) = true → ∃ V, MOD Z V ∧ V.2.1 54 = (nxN (Z.2.1 61 k) (Z.2.1 62 (2 * k)) (Z.2.1 62 (2 * k + 1)) (Z.2.1 54)) ∧ h' = HP V) ∧ ((okN (Z.2.1 61 k) (Z.2.1 62 (2 * k)) (Z.2.1 62 (2 * k + 1)) (Z.2.1 54)) = false → h' = HP Z)) := by
  show XW mX4_obeys 6 0 0 0 [some (.ref 53), some (.int xk), none] [] (HP Z) _
  obtain ⟨hc, c20, hl, l8, ok, hf, hdi, hfb⟩ := id mi
  refine XW.aload_n 1 dX4_obeys_0 rfl rfl ?_
  refine XW.getf 4 (v := .ref 62) f4_35 dX4_obeys_1 rfl rfl rfl ?_
  refine XW.iconst 5 dX4_obeys_4 (v := 2) (by decide) rfl ?_
  refine XW.iload_n 6 dX4_obeys_5 rfl rfl ?_
  refine XW.imul 7 dX4_obeys_6 rfl ?_
  refine XW.iald 8 (2 * k) dX4_obeys_7 rfl (nm rfl hxk) (by omega) (by decide) rfl ?_
  refine XW.istore_n 9 (L' := [some (.ref 53), some (.int xk), some (.int (Z.2.1 62 (2 * k)))]) dX4_obeys_8 (by decide) rfl rfl rfl ?_
  refine XW.aload_n 10 dX4_obeys_9 rfl rfl ?_
  refine XW.getf 13 (v := .ref 61) f4_32 dX4_obeys_10 rfl rfl rfl ?_
  refine XW.iload_n 14 dX4_obeys_13 rfl rfl ?_
  refine XW.iald 15 k dX4_obeys_14 rfl hxk (by omega) (by decide) rfl ?_
  refine XW.lookup 128 (off := 113) dX4_obeys_15 (by decide) (by show Op.lookupswitch.offset _ _ (Z.2.1 61 k).toInt = _; rw [hkd]; decide) (by decide) ?_
  refine XW.iload_n 129 dX4_obeys_128 rfl rfl ?_
  refine XW.iconst 130 dX4_obeys_129 (v := 1) (by decide) rfl ?_
  refine XW.bipush 132 dX4_obeys_130 (v := 8) (by decide) rfl ?_
  refine XW.callS 135 (vs := [.int (Z.2.1 62 (2 * k)), .int 1, .int 8]) (rest := []) (mcr := 0) (msr := 0) c4_49 dX4_obeys_132 rfl (by decide) (Nat.le_of_ble_eq_true rfl) rfl rfl (Nat.le_of_ble_eq_true rfl) rfl (c_in_ _ _ _ _) (fun r h1 hq => ?_)
  obtain ⟨rfl, rfl⟩ := hq
  refine XW.if_eqB 158 138 dX4_obeys_135 (by decide) rfl (fun c_135 => ?_) (fun c_135 => ?_)
  · refine XW.iconst 159 dX4_obeys_158 (v := 0) (by decide) rfl ?_
    exact XW.iret dX4_obeys_159 rfl (by
      have e : (okN (Z.2.1 61 k) (Z.2.1 62 (2 * k)) (Z.2.1 62 (2 * k + 1)) (Z.2.1 54)) = false := by rw [okN_112 hkd]; first | rw [c_135, Bool.false_and] | rw [c_135, c_143]; rfl
      exact ⟨by rw [e]; rfl, fun q => absurd q (by rw [e]; decide), fun _ => rfl⟩)
  · obtain ⟨n, n1, n2, hn⟩ := in18 c_135
    refine XW.aload_n 139 dX4_obeys_138 rfl rfl ?_
    refine XW.iload_n 140 dX4_obeys_139 rfl rfl ?_
    refine XW.callV 143 (vs := [.int (Z.2.1 62 (2 * k))]) (rest := []) (mcr := 0) (msr := 0) c4_155 dX4_obeys_140 rfl rfl (by decide) (Nat.le_of_ble_eq_true rfl) rfl rfl (Nat.le_of_ble_eq_true rfl) rfl (k_canFill mi _) (fun r h1 hq => ?_)
    obtain ⟨rfl, rfl⟩ := hq
    refine XW.if_eqB 158 146 dX4_obeys_143 (by decide) rfl (fun c_143 => ?_) (fun c_143 => ?_)
    · refine XW.iconst 159 dX4_obeys_158 (v := 0) (by decide) rfl ?_
      exact XW.iret dX4_obeys_159 rfl (by
        have e : (okN (Z.2.1 61 k) (Z.2.1 62 (2 * k)) (Z.2.1 62 (2 * k + 1)) (Z.2.1 54)) = false := by rw [okN_112 hkd]; first | rw [c_135, Bool.false_and] | rw [c_135, c_143]; rfl
        exact ⟨by rw [e]; rfl, fun q => absurd q (by rw [e]; decide), fun _ => rfl⟩)
    · refine XW.aload_n 147 dX4_obeys_146 rfl rfl ?_
      refine XW.iload_n 148 dX4_obeys_147 rfl rfl ?_
      refine XW.callV 151 (vs := [.int (Z.2.1 62 (2 * k))]) (rest := []) (mcr := 0) (msr := 0) c4_158 dX4_obeys_148 rfl rfl (by decide) (Nat.le_of_ble_eq_true rfl) rfl rfl (Nat.le_of_ble_eq_true rfl) rfl (k_fillsFor (Z := Z) mi (n := n) hn (by omega) (by omega) (by have := mi.fill (n := n) (by omega) (by rw [← hn]; exact of_decide_eq_true c_143); omega)) (fun r h1 hq => ?_)
      obtain ⟨rfl, G, rfl⟩ := hq
      refine XW.eqs (st' := [.int (nI ((fillF (apN (Z.2.1 54)) (nR (Z.2.1 54)) (fbF (nR (Z.2.1 54)) (nG (Z.2.1 54)) (nL (Z.2.1 54)) c) (Z.2.1 54 61) (mP (Z.2.1 54)) c n).2))]) rfl rfl rfl ?_
      refine XW.if_lt 158 154 dX4_obeys_151 (by decide) rfl (fun c_151 => ?_) (fun c_151 => ?_)
      · exact absurd c_151 (nI_nn (by have := (fillF_ok (ap := apN (Z.2.1 54)) (rgb := nR (Z.2.1 54)) (fit := fbF (nR (Z.2.1 54)) (nG (Z.2.1 54)) (nL (Z.2.1 54)) c) (fx := Z.2.1 54 61) (row := (mP (Z.2.1 54))) (c := c) (n := n) (by omega) n2 (mi.fill (n := n) (by omega) (by rw [← hn]; exact of_decide_eq_true c_143))).2.2; omega))
      · refine XW.iconst 155 dX4_obeys_154 (v := 1) (by decide) rfl ?_
        refine XW.goto 159 dX4_obeys_155 (by decide) ?_
        exact XW.iret dX4_obeys_159 rfl (by
          have e : (okN (Z.2.1 61 k) (Z.2.1 62 (2 * k)) (Z.2.1 62 (2 * k + 1)) (Z.2.1 54)) = true := by rw [okN_112 hkd, c_135, c_143]; rfl
          refine ⟨by rw [e]; rfl, fun _ => ⟨_, MOD.rfl'.fit.far.now, ?_, rfl⟩, fun q => absurd q (by rw [e]; decide)⟩
          rw [nxN_112 hkd, sA_1]; unfold flN fbN apN; rw [mi.c, hn, nI_clamp (by omega)])
set_option maxHeartbeats 400000 in
set_option maxRecDepth 100000 in
theorem k_ob_s {Z : xZ} {c l : Nat} (mi : MI (Z.2.1 54) c l) {k : Nat} {xk : Int32} (hxk : xk = nI k) (k60 : k < 60) (h1 : ¬ Z.2.1 61 k = 99) (h2 : ¬ Z.2.1 61 k = 102) (h3 : ¬ Z.2.1 61 k = 108) (h4 : ¬ Z.2.1 61 k = 112) : XC mX4_obeys 6 0 0 [.ref 53, .int xk] (HP Z) (fun r h' => r = some (.int (b2i (okN (Z.2.1 61 k) (Z.2.1 62 (2 * k)) (Z.2.1 62 (2 * k + 1)) (Z.2.1 54)))) ∧ ((okN (Z.2.1 61 k) (Z.2.1 62 (2 * k)) (Z.2.1 62 (2 * k + 1)) (Z.2.1 54)) = true → ∃ V, MOD Z V ∧ V.2.1 54 = (nxN (Z.2.1 61 k) (Z.2.1 62 (2 * k)) (Z.2.1 62 (2 * k + 1)) (Z.2.1 54)) ∧ h' = HP V) ∧ ((okN (Z.2.1 61 k) (Z.2.1 62 (2 * k)) (Z.2.1 62 (2 * k + 1)) (Z.2.1 54)) = false → h' = HP Z)) := by
  show XW mX4_obeys 6 0 0 0 [some (.ref 53), some (.int xk), none] [] (HP Z) _
  obtain ⟨hc, c20, hl, l8, ok, hf, hdi, hfb⟩ := id mi
  refine XW.aload_n 1 dX4_obeys_0 rfl rfl ?_
  refine XW.getf 4 (v := .ref 62) f4_35 dX4_obeys_1 rfl rfl rfl ?_
  refine XW.iconst 5 dX4_obeys_4 (v := 2) (by decide) rfl ?_
  refine XW.iload_n 6 dX4_obeys_5 rfl rfl ?_
  refine XW.imul 7 dX4_obeys_6 rfl ?_
  refine XW.iald 8 (2 * k) dX4_obeys_7 rfl (nm rfl hxk) (by omega) (by decide) rfl ?_
  refine XW.istore_n 9 (L' := [some (.ref 53), some (.int xk), some (.int (Z.2.1 62 (2 * k)))]) dX4_obeys_8 (by decide) rfl rfl rfl ?_
  refine XW.aload_n 10 dX4_obeys_9 rfl rfl ?_
  refine XW.getf 13 (v := .ref 61) f4_32 dX4_obeys_10 rfl rfl rfl ?_
  refine XW.iload_n 14 dX4_obeys_13 rfl rfl ?_
  refine XW.iald 15 k dX4_obeys_14 rfl hxk (by omega) (by decide) rfl ?_
  refine XW.lookup 160 (off := 145) dX4_obeys_15 (by decide) ((if_neg (i32_ne (by decide) h1)).trans ((if_neg (i32_ne (by decide) h2)).trans ((if_neg (i32_ne (by decide) h3)).trans ((if_neg (i32_ne (by decide) h4)).trans rfl)))) (by decide) ?_
  refine XW.aload_n 161 dX4_obeys_160 rfl rfl ?_
  refine XW.callV 164 (vs := []) (rest := []) (mcr := 0) (msr := 0) c4_171 dX4_obeys_161 rfl rfl (by decide) (Nat.le_of_ble_eq_true rfl) rfl rfl (Nat.le_of_ble_eq_true rfl) rfl (k_swapsAll (Z := Z) mi) (fun r h1 hq => ?_)
  obtain ⟨rfl, G, S, rfl⟩ := hq
  refine XW.eqs (st' := [.int (nI ((saF (apN (Z.2.1 54)) (fbF (nR (Z.2.1 54)) (nG (Z.2.1 54)) (nL (Z.2.1 54)) c) (Z.2.1 54 61) l c 60 0 (mP (Z.2.1 54))).1))]) rfl rfl rfl ?_
  refine XW.if_lt 171 167 dX4_obeys_164 (by decide) rfl (fun c_164 => ?_) (fun c_164 => ?_)
  · exact absurd c_164 (nI_nn (by have := saF_le (ap := apN (Z.2.1 54)) (fit := fbF (nR (Z.2.1 54)) (nG (Z.2.1 54)) (nL (Z.2.1 54)) c) (fx := Z.2.1 54 61) (l := l) (c := c) 60 0 (mP (Z.2.1 54)); omega))
  · refine XW.iconst 168 dX4_obeys_167 (v := 1) (by decide) rfl ?_
    refine XW.goto 172 dX4_obeys_168 (by decide) ?_
    exact XW.iret dX4_obeys_172 rfl (by
      have e : (okN (Z.2.1 61 k) (Z.2.1 62 (2 * k)) (Z.2.1 62 (2 * k + 1)) (Z.2.1 54)) = true := okN_s h1 h2 h3 h4
      refine ⟨by rw [e]; rfl, fun _ => ⟨_, MOD.rfl'.fit.far.some.now, ?_, rfl⟩, fun q => absurd q (by rw [e]; decide)⟩
      rw [nxN_s h1 h2 h3 h4, sA_1]; unfold swN fbN apN; rw [mi.c, mi.l])
theorem k_obeys {Z : xZ} {c l : Nat} (mi : MI (Z.2.1 54) c l) {k : Nat} {xk : Int32} (hxk : xk = nI k) (k60 : k < 60) : XC mX4_obeys 6 0 0 [.ref 53, .int xk] (HP Z) (fun r h' => r = some (.int (b2i (okN (Z.2.1 61 k) (Z.2.1 62 (2 * k)) (Z.2.1 62 (2 * k + 1)) (Z.2.1 54)))) ∧ ((okN (Z.2.1 61 k) (Z.2.1 62 (2 * k)) (Z.2.1 62 (2 * k + 1)) (Z.2.1 54)) = true → ∃ V, MOD Z V ∧ V.2.1 54 = (nxN (Z.2.1 61 k) (Z.2.1 62 (2 * k)) (Z.2.1 62 (2 * k + 1)) (Z.2.1 54)) ∧ h' = HP V) ∧ ((okN (Z.2.1 61 k) (Z.2.1 62 (2 * k)) (Z.2.1 62 (2 * k + 1)) (Z.2.1 54)) = false → h' = HP Z)) := by
  by_cases h1 : Z.2.1 61 k = 99
  · by_cases hc : c < 20
    · exact k_ob_99 mi hxk k60 h1 hc
    · exact k_ob_99n mi hxk k60 h1 (by have := mi.2.1; omega)
  · by_cases h2 : Z.2.1 61 k = 102
    · exact k_ob_102 mi hxk k60 h2
    · by_cases h3 : Z.2.1 61 k = 108
      · exact k_ob_108 mi hxk k60 h3
      · by_cases h4 : Z.2.1 61 k = 112
        · exact k_ob_112 mi hxk k60 h4
        · exact k_ob_s mi hxk k60 h1 h2 h3 h4
