/-! The class: the chooser, on -/
def minU (a v : UInt32) : UInt32 := if v < a then v else a
theorem minU_t {a v : UInt32} (h : v < a) : minU a v = v := if_pos h
theorem minU_f {a v : UInt32} (h : ¬ v < a) : minU a v = a := if_neg h
theorem minU_le1 (a v : UInt32) : minU a v ≤ a := by unfold minU; split; exact UInt32.le_of_lt ‹_›; exact UInt32.le_refl _
theorem minU_le2 (a v : UInt32) : minU a v ≤ v := by unfold minU; split; exact UInt32.le_refl _; exact UInt32.not_lt.mp ‹_›
theorem minU_or (a v : UInt32) : minU a v = a ∨ minU a v = v := by unfold minU; split; exact Or.inr rfl; exact Or.inl rfl
/-- LEAST as a number -/
def lsJ (ap : Nat → Nat → UInt32) (q : Nat → Nat) (b : Nat) (v : UInt32) : Nat → UInt32 := itF (fun a v => minU v (ap (q a) (q b))) v
def lsV (ap : Nat → Nat → UInt32) (q : Nat → Nat) (l : Nat) : UInt32 := if l < 2 then FP.fconst0 else itF (fun b v => lsJ ap q b v b) (ap (q 0) (q 1)) l
theorem lsJ_spec (ap : Nat → Nat → UInt32) (q : Nat → Nat) (b : Nat) (v : UInt32) : ∀ k, (lsJ ap q b v k ≤ v) ∧ (∀ a, a < k → lsJ ap q b v k ≤ ap (q a) (q b)) ∧ (lsJ ap q b v k = v ∨ ∃ a, a < k ∧ lsJ ap q b v k = ap (q a) (q b))
  | 0 => ⟨UInt32.le_refl _, fun a h => absurd h (by omega), Or.inl rfl⟩
  | k + 1 => by
    obtain ⟨h1, h2, h3⟩ := lsJ_spec ap q b v k
    have e : lsJ ap q b v (k + 1) = minU (lsJ ap q b v k) (ap (q k) (q b)) := rfl
    rw [e]
    refine ⟨UInt32.le_trans (minU_le1 _ _) h1, fun a ha => ?_, ?_⟩
    · by_cases hk : a = k
      · subst hk; exact minU_le2 _ _
      · exact UInt32.le_trans (minU_le1 _ _) (h2 a (by omega))
    · rcases minU_or (lsJ ap q b v k) (ap (q k) (q b)) with g | g
      · rw [g]; rcases h3 with h3 | ⟨a, ha, h3⟩
        · exact Or.inl h3
        · exact Or.inr ⟨a, by omega, h3⟩
      · exact Or.inr ⟨k, by omega, g⟩
theorem lsV_spec (ap : Nat → Nat → UInt32) (q : Nat → Nat) (l : Nat) : LEA ap q l (lsV ap q l) := by
  unfold lsV
  refine ⟨fun h => by rw [if_pos h], fun h => ?_⟩
  rw [if_neg (by omega)]
  have key : ∀ k, k ≤ l → (∃ a b, a < b ∧ b < l ∧ itF (fun b v => lsJ ap q b v b) (ap (q 0) (q 1)) k = ap (q a) (q b)) ∧ ∀ a b, a < b → b < k → itF (fun b v => lsJ ap q b v b) (ap (q 0) (q 1)) k ≤ ap (q a) (q b) := by
    intro k
    induction k with
    | zero => intro _; exact ⟨⟨0, 1, by omega, by omega, rfl⟩, fun a b _ h => absurd h (by omega)⟩
    | succ k ih =>
      intro hk
      obtain ⟨⟨a, b, q1, q2, q3⟩, g⟩ := ih (by omega)
      obtain ⟨h1, h2, h3⟩ := lsJ_spec ap q k (itF (fun b v => lsJ ap q b v b) (ap (q 0) (q 1)) k) k
      have e : itF (fun b v => lsJ ap q b v b) (ap (q 0) (q 1)) (k + 1) = lsJ ap q k (itF (fun b v => lsJ ap q b v b) (ap (q 0) (q 1)) k) k := rfl
      rw [e]
      refine ⟨?_, fun a' b' p1 p2 => ?_⟩
      · rcases h3 with h3 | ⟨a', ha', h3⟩
        · exact ⟨a, b, q1, q2, h3.trans q3⟩
        · exact ⟨a', k, ha', by omega, h3⟩
      · by_cases e2 : b' = k
        · subst e2; exact h2 a' p1
        · exact UInt32.le_trans h1 (g a' b' p1 (by omega))
  obtain ⟨g1, g2⟩ := key l (Nat.le_refl _)
  exact ⟨g1, g2⟩
theorem lsV_of {ap : Nat → Nat → UInt32} {q : Nat → Nat} {l : Nat} {v : UInt32} (h : LEA ap q l v) : v = lsV ap q l := h.one (lsV_spec ap q l)
theorem lsV_NF {ap : Nat → Nat → UInt32} {q : Nat → Nat} {l : Nat} (hn : ∀ a b, a < b → b < l → NF (ap (q a) (q b))) : NF (lsV ap q l) := (lsV_spec ap q l).NF hn
theorem rowNF {rgb gr ey lm : Nat → Int32} (ok : okS rgb gr ey lm) {f : Nat → Int32} {l c : Nat} (hf : rowOK f l c) (c20 : c ≤ 20) : ∀ a b, a < b → b < l → NF (apG ey rgb (rv f a) (rv f b)) := fun a b h1 h2 => apG_NF ok (by have := (hf a (by omega)).2; omega) (by have := (hf b h2).2; omega)
theorem v_leastOf6 {Z : xZ} {c l : Nat} {xl : Int32} (hxl : xl = nI l) (l8 : l ≤ 8) (c20 : c ≤ 20) (hf : rowOK (Z.2.1 6) l c) (hdi : rowDI (Z.2.1 6) l) (hG : gapOK (Z.2.2.1 51) (Z.2.1 4) (Z.2.1 2) c) (ok : okS (Z.2.1 2) (Z.2.1 3) (Z.2.1 4) (Z.2.1 5)) : XC mX0_leastOf 1 0 0 [.ref 50, .ref 6, .int xl] (HP Z) (fun r h' => r = some (.float (lsV (apG (Z.2.1 4) (Z.2.1 2)) (rv (Z.2.1 6)) l)) ∧ h' = HP Z) :=
  XW.post (c_leastOf6 hxl l8 c20 hf hdi hG ok) (fun r h1 hq => by
    obtain ⟨⟨v, hv, hs⟩, hh⟩ := hq
    rw [hv, lsV_of hs]; exact ⟨rfl, hh⟩)
theorem v_leastOf52 {Z : xZ} {c l : Nat} {xl : Int32} (hxl : xl = nI l) (l8 : l ≤ 4) (c20 : c ≤ 20) (hf : rowOK (Z.2.1 52) l c) (hdi : rowDI (Z.2.1 52) l) (hG : gapOK (Z.2.2.1 51) (Z.2.1 4) (Z.2.1 2) c) (ok : okS (Z.2.1 2) (Z.2.1 3) (Z.2.1 4) (Z.2.1 5)) : XC mX0_leastOf 1 0 0 [.ref 50, .ref 52, .int xl] (HP Z) (fun r h' => r = some (.float (lsV (apG (Z.2.1 4) (Z.2.1 2)) (rv (Z.2.1 52)) l)) ∧ h' = HP Z) :=
  XW.post (c_leastOf52 hxl l8 c20 hf hdi hG ok) (fun r h1 hq => by
    obtain ⟨⟨v, hv, hs⟩, hh⟩ := hq
    rw [hv, lsV_of hs]; exact ⟨rfl, hh⟩)
/-- the two nearest: found, and how near, behind so many of an inner row, of the outer ones -/
def npI (ap : Nat → Nat → UInt32) (q : Nat → Nat) (i : Nat) (s : Int32 × UInt32) : Nat → Int32 × UInt32 := itF (fun t s => if s.1 = -1 ∨ ap (q i) (q (i + 1 + t)) < s.2 then (10 * nI i + nI (i + 1 + t), ap (q i) (q (i + 1 + t))) else s) s
def npO (ap : Nat → Nat → UInt32) (q : Nat → Nat) (l : Nat) : Nat → Int32 × UInt32 := itF (fun i s => npI ap q i s (l - (i + 1))) (-1, FP.fconst0)
theorem npI_t {ap : Nat → Nat → UInt32} {q : Nat → Nat} {i t : Nat} {s : Int32 × UInt32} (h : (npI ap q i s t).1 = -1 ∨ ap (q i) (q (i + 1 + t)) < (npI ap q i s t).2) : npI ap q i s (t + 1) = (10 * nI i + nI (i + 1 + t), ap (q i) (q (i + 1 + t))) := if_pos h
theorem npI_f {ap : Nat → Nat → UInt32} {q : Nat → Nat} {i t : Nat} {s : Int32 × UInt32} (h1 : ¬ (npI ap q i s t).1 = -1) (h2 : ¬ ap (q i) (q (i + 1 + t)) < (npI ap q i s t).2) : npI ap q i s (t + 1) = npI ap q i s t := by show (if _ then _ else _) = _; rw [if_neg (by rintro (q | q); exact h1 q; exact h2 q)]; rfl
theorem npI_NF {ap : Nat → Nat → UInt32} {q : Nat → Nat} {i : Nat} {s : Int32 × UInt32} (hs : NF s.2) : ∀ t, (∀ k, k < t → NF (ap (q i) (q (i + 1 + k)))) → NF (npI ap q i s t).2
  | 0, _ => hs
  | t + 1, h => by
    have ih := npI_NF hs t (fun k hk => h k (by omega))
    by_cases c : (npI ap q i s t).1 = -1 ∨ ap (q i) (q (i + 1 + t)) < (npI ap q i s t).2
    · rw [npI_t c]; exact h t (by omega)
    · rw [npI_f (fun q => c (Or.inl q)) (fun q => c (Or.inr q))]; exact ih
theorem npO_NF {ap : Nat → Nat → UInt32} {q : Nat → Nat} {l : Nat} (h : ∀ a b, a < b → b < l → NF (ap (q a) (q b))) : ∀ i, i ≤ l → NF (npO ap q l i).2
  | 0, _ => NF_0
  | i + 1, hi => npI_NF (npO_NF h i (by omega)) _ (fun k hk => h i (i + 1 + k) (by omega) (by omega))
set_option maxHeartbeats 4000000 in
set_option maxRecDepth 100000 in
theorem l_nearest_i {Z : xZ} {c l : Nat} (hl : Z.1 1 7 = nI l) (l8 : l ≤ 8) (c20 : c ≤ 20) (hf : rowOK (Z.2.1 6) l c) (hdi : rowDI (Z.2.1 6) l) (hG : gapOK (Z.2.2.1 51) (Z.2.1 4) (Z.2.1 2) c) (ok : okS (Z.2.1 2) (Z.2.1 3) (Z.2.1 4) (Z.2.1 5)) {i : Nat} (il : i < l) (KK : XW mX0_nearestPlaces 1 0 0 7 [some (.ref 50), some (.ref 1), some (.int ((npO (apG (Z.2.1 4) (Z.2.1 2)) (rv (Z.2.1 6)) l (i + 1)).1)), some (.float ((npO (apG (Z.2.1 4) (Z.2.1 2)) (rv (Z.2.1 6)) l (i + 1)).2)), some (.int (nI (i + 1))), none, none] [] (HP Z) (fun r h' => r = some (.int (npO (apG (Z.2.1 4) (Z.2.1 2)) (rv (Z.2.1 6)) l l).1) ∧ h' = HP Z)) : ∀ (n : Nat) (t : Nat), i + 1 + t ≤ l → l < i + 1 + t + n → XW mX0_nearestPlaces 1 0 0 22 [some (.ref 50), some (.ref 1), some (.int ((npI (apG (Z.2.1 4) (Z.2.1 2)) (rv (Z.2.1 6)) i (npO (apG (Z.2.1 4) (Z.2.1 2)) (rv (Z.2.1 6)) l i) t).1)), some (.float ((npI (apG (Z.2.1 4) (Z.2.1 2)) (rv (Z.2.1 6)) i (npO (apG (Z.2.1 4) (Z.2.1 2)) (rv (Z.2.1 6)) l i) t).2)), some (.int (nI i)), some (.int (nI (i + 1 + t))), none] [] (HP Z) (fun r h' => r = some (.int (npO (apG (Z.2.1 4) (Z.2.1 2)) (rv (Z.2.1 6)) l l).1) ∧ h' = HP Z) := by
  intro n
  induction n with
  | zero => intro t g0 g1; omega
  | succ n ih =>
    intro t g0 g1
    refine XW.iload 24 dX0_nearestPlaces_22 rfl rfl ?_
    refine XW.aload_n 25 dX0_nearestPlaces_24 rfl rfl ?_
    refine XW.getf 28 (v := .int (Z.1 1 7)) f0_32 dX0_nearestPlaces_25 rfl rfl rfl ?_
    refine XW.icmp_geN 81 31 (i + 1 + t) l dX0_nearestPlaces_28 (by decide) rfl rfl hl (by omega) (by omega) (fun c_28 => ?_) (fun c_28 => ?_)
    · refine XW.iinc 84 (y := nI (i + 1)) (L' := [some (.ref 50), some (.ref 1), some (.int ((npI (apG (Z.2.1 4) (Z.2.1 2)) (rv (Z.2.1 6)) i (npO (apG (Z.2.1 4) (Z.2.1 2)) (rv (Z.2.1 6)) l i) t).1)), some (.float ((npI (apG (Z.2.1 4) (Z.2.1 2)) (rv (Z.2.1 6)) i (npO (apG (Z.2.1 4) (Z.2.1 2)) (rv (Z.2.1 6)) l i) t).2)), some (.int (nI (i + 1))), some (.int (nI (i + 1 + t))), none]) dX0_nearestPlaces_81 rfl (na rfl rfl) (by decide) rfl rfl rfl ?_
      refine XW.goto 7 dX0_nearestPlaces_84 (by decide) ?_
      refine XW.weak [true, true, true, true, true, false, true] (L' := [some (.ref 50), some (.ref 1), some (.int ((npI (apG (Z.2.1 4) (Z.2.1 2)) (rv (Z.2.1 6)) i (npO (apG (Z.2.1 4) (Z.2.1 2)) (rv (Z.2.1 6)) l i) t).1)), some (.float ((npI (apG (Z.2.1 4) (Z.2.1 2)) (rv (Z.2.1 6)) i (npO (apG (Z.2.1 4) (Z.2.1 2)) (rv (Z.2.1 6)) l i) t).2)), some (.int (nI (i + 1))), none, none]) rfl ?_
      refine XW.eqs (L' := [some (.ref 50), some (.ref 1), some (.int ((npO (apG (Z.2.1 4) (Z.2.1 2)) (rv (Z.2.1 6)) l (i + 1)).1)), some (.float ((npO (apG (Z.2.1 4) (Z.2.1 2)) (rv (Z.2.1 6)) l (i + 1)).2)), some (.int (nI (i + 1))), none, none]) (by rw [show npO (apG (Z.2.1 4) (Z.2.1 2)) (rv (Z.2.1 6)) l (i + 1) = npI (apG (Z.2.1 4) (Z.2.1 2)) (rv (Z.2.1 6)) i (npO (apG (Z.2.1 4) (Z.2.1 2)) (rv (Z.2.1 6)) l i) (l - (i + 1)) from rfl, show l - (i + 1) = t by omega]) rfl rfl ?_
      exact KK
    · have b1 := (hf (i) (by omega)).2
      have b2 := (hf (i + 1 + t) (by omega)).2
      have b3 := hdi (i) (i + 1 + t) (by omega) (by omega)
      have b4 := hG _ _ b1 b2 b3
      have b5 : NF (Z.2.2.1 51 (20 * rv (Z.2.1 6) (i) + rv (Z.2.1 6) (i + 1 + t))) := by rw [b4]; exact apG_NF ok (by omega) (by omega)
      refine XW.aload_n 32 dX0_nearestPlaces_31 rfl rfl ?_
      refine XW.aload_n 33 dX0_nearestPlaces_32 rfl rfl ?_
      refine XW.getf 36 (v := .ref 6) f0_35 dX0_nearestPlaces_33 rfl rfl rfl ?_
      refine XW.iload 38 dX0_nearestPlaces_36 rfl rfl ?_
      refine XW.iald 39 i dX0_nearestPlaces_38 rfl rfl (by omega) (by decide) rfl ?_
      refine XW.aload_n 40 dX0_nearestPlaces_39 rfl rfl ?_
      refine XW.getf 43 (v := .ref 6) f0_35 dX0_nearestPlaces_40 rfl rfl rfl ?_
      refine XW.iload 45 dX0_nearestPlaces_43 rfl rfl ?_
      refine XW.iald 46 (i + 1 + t) dX0_nearestPlaces_45 rfl rfl (by omega) (by decide) rfl ?_
      refine XW.callV 49 (vs := [.int (Z.2.1 6 i), .int (Z.2.1 6 (i + 1 + t))]) (rest := []) (mcr := 0) (msr := 0) c0_29 dX0_nearestPlaces_46 rfl rfl (by decide) (Nat.le_of_ble_eq_true rfl) rfl rfl (Nat.le_of_ble_eq_true rfl) rfl (c_gap (i := rv (Z.2.1 6) i) (j := rv (Z.2.1 6) (i + 1 + t)) (hf _ (by omega)).1 (hf _ (by omega)).1 (by omega) (by omega)) (fun r h1 hq => ?_)
      obtain ⟨rfl, rfl⟩ := hq
      refine XW.fstore 51 (L' := [some (.ref 50), some (.ref 1), some (.int ((npI (apG (Z.2.1 4) (Z.2.1 2)) (rv (Z.2.1 6)) i (npO (apG (Z.2.1 4) (Z.2.1 2)) (rv (Z.2.1 6)) l i) t).1)), some (.float ((npI (apG (Z.2.1 4) (Z.2.1 2)) (rv (Z.2.1 6)) i (npO (apG (Z.2.1 4) (Z.2.1 2)) (rv (Z.2.1 6)) l i) t).2)), some (.int (nI i)), some (.int (nI (i + 1 + t))), some (.float (Z.2.2.1 51 (20 * (rv (Z.2.1 6) i) + (rv (Z.2.1 6) (i + 1 + t)))))]) dX0_nearestPlaces_49 (by decide) rfl rfl rfl ?_
      refine XW.iload_n 52 dX0_nearestPlaces_51 rfl rfl ?_
      refine XW.iconst 53 dX0_nearestPlaces_52 (v := -1) (by decide) rfl ?_
      refine XW.icmp_eq 63 56 dX0_nearestPlaces_53 (by decide) rfl (fun c_53 => ?_) (fun c_53 => ?_)
      · refine XW.bipush 65 dX0_nearestPlaces_63 (v := 10) (by decide) rfl ?_
        refine XW.iload 67 dX0_nearestPlaces_65 rfl rfl ?_
        refine XW.imul 68 dX0_nearestPlaces_67 rfl ?_
        refine XW.iload 70 dX0_nearestPlaces_68 rfl rfl ?_
        refine XW.iadd 71 dX0_nearestPlaces_70 rfl ?_
        refine XW.istore_n 72 (L' := [some (.ref 50), some (.ref 1), some (.int ((10 * (nI i)) + (nI (i + 1 + t)))), some (.float ((npI (apG (Z.2.1 4) (Z.2.1 2)) (rv (Z.2.1 6)) i (npO (apG (Z.2.1 4) (Z.2.1 2)) (rv (Z.2.1 6)) l i) t).2)), some (.int (nI i)), some (.int (nI (i + 1 + t))), some (.float (Z.2.2.1 51 (20 * (rv (Z.2.1 6) i) + (rv (Z.2.1 6) (i + 1 + t)))))]) dX0_nearestPlaces_71 (by decide) rfl rfl rfl ?_
        refine XW.fload 74 dX0_nearestPlaces_72 rfl rfl ?_
        refine XW.fstore_n 75 (L' := [some (.ref 50), some (.ref 1), some (.int ((10 * (nI i)) + (nI (i + 1 + t)))), some (.float (Z.2.2.1 51 (20 * (rv (Z.2.1 6) i) + (rv (Z.2.1 6) (i + 1 + t))))), some (.int (nI i)), some (.int (nI (i + 1 + t))), some (.float (Z.2.2.1 51 (20 * (rv (Z.2.1 6) i) + (rv (Z.2.1 6) (i + 1 + t)))))]) dX0_nearestPlaces_74 (by decide) rfl rfl rfl ?_
        refine XW.iinc 78 (y := nI (i + 1 + t + 1)) (L' := [some (.ref 50), some (.ref 1), some (.int ((10 * (nI i)) + (nI (i + 1 + t)))), some (.float (Z.2.2.1 51 (20 * (rv (Z.2.1 6) i) + (rv (Z.2.1 6) (i + 1 + t))))), some (.int (nI i)), some (.int (nI (i + 1 + t + 1))), some (.float (Z.2.2.1 51 (20 * (rv (Z.2.1 6) i) + (rv (Z.2.1 6) (i + 1 + t)))))]) dX0_nearestPlaces_75 rfl (na rfl rfl) (by decide) rfl rfl rfl ?_
        refine XW.goto 22 dX0_nearestPlaces_78 (by decide) ?_
        refine XW.weak [true, true, true, true, true, true, false] (L' := [some (.ref 50), some (.ref 1), some (.int ((10 * (nI i)) + (nI (i + 1 + t)))), some (.float (Z.2.2.1 51 (20 * (rv (Z.2.1 6) i) + (rv (Z.2.1 6) (i + 1 + t))))), some (.int (nI i)), some (.int (nI (i + 1 + t + 1))), none]) rfl ?_
        refine XW.eqs (L' := [some (.ref 50), some (.ref 1), some (.int ((npI (apG (Z.2.1 4) (Z.2.1 2)) (rv (Z.2.1 6)) i (npO (apG (Z.2.1 4) (Z.2.1 2)) (rv (Z.2.1 6)) l i) (t + 1)).1)), some (.float ((npI (apG (Z.2.1 4) (Z.2.1 2)) (rv (Z.2.1 6)) i (npO (apG (Z.2.1 4) (Z.2.1 2)) (rv (Z.2.1 6)) l i) (t + 1)).2)), some (.int (nI i)), some (.int (nI (i + 1 + (t + 1)))), none]) (by rw [npI_t (by first | exact Or.inl c_53 | exact Or.inr (b4 ▸ c_60)), ← b4]; rfl) rfl rfl ?_
        exact ih (t + 1) (by omega) (by omega)
      · refine XW.fload 58 dX0_nearestPlaces_56 rfl rfl ?_
        refine XW.fload_n 59 dX0_nearestPlaces_58 rfl rfl ?_
        refine XW.fcmpU 60 dX0_nearestPlaces_59 b5 (npI_NF (npO_NF (rowNF ok hf c20) i (by omega)) _ (fun k hk => rowNF ok hf c20 i (i + 1 + k) (by omega) (by omega))) rfl ?_
        refine XW.if_geU 75 63 dX0_nearestPlaces_60 (by decide) rfl (fun c_60 => ?_) (fun c_60 => ?_)
        · refine XW.iinc 78 (y := nI (i + 1 + t + 1)) (L' := [some (.ref 50), some (.ref 1), some (.int ((npI (apG (Z.2.1 4) (Z.2.1 2)) (rv (Z.2.1 6)) i (npO (apG (Z.2.1 4) (Z.2.1 2)) (rv (Z.2.1 6)) l i) t).1)), some (.float ((npI (apG (Z.2.1 4) (Z.2.1 2)) (rv (Z.2.1 6)) i (npO (apG (Z.2.1 4) (Z.2.1 2)) (rv (Z.2.1 6)) l i) t).2)), some (.int (nI i)), some (.int (nI (i + 1 + t + 1))), some (.float (Z.2.2.1 51 (20 * (rv (Z.2.1 6) i) + (rv (Z.2.1 6) (i + 1 + t)))))]) dX0_nearestPlaces_75 rfl (na rfl rfl) (by decide) rfl rfl rfl ?_
          refine XW.goto 22 dX0_nearestPlaces_78 (by decide) ?_
          refine XW.weak [true, true, true, true, true, true, false] (L' := [some (.ref 50), some (.ref 1), some (.int ((npI (apG (Z.2.1 4) (Z.2.1 2)) (rv (Z.2.1 6)) i (npO (apG (Z.2.1 4) (Z.2.1 2)) (rv (Z.2.1 6)) l i) t).1)), some (.float ((npI (apG (Z.2.1 4) (Z.2.1 2)) (rv (Z.2.1 6)) i (npO (apG (Z.2.1 4) (Z.2.1 2)) (rv (Z.2.1 6)) l i) t).2)), some (.int (nI i)), some (.int (nI (i + 1 + t + 1))), none]) rfl ?_
          refine XW.eqs (L' := [some (.ref 50), some (.ref 1), some (.int ((npI (apG (Z.2.1 4) (Z.2.1 2)) (rv (Z.2.1 6)) i (npO (apG (Z.2.1 4) (Z.2.1 2)) (rv (Z.2.1 6)) l i) (t + 1)).1)), some (.float ((npI (apG (Z.2.1 4) (Z.2.1 2)) (rv (Z.2.1 6)) i (npO (apG (Z.2.1 4) (Z.2.1 2)) (rv (Z.2.1 6)) l i) (t + 1)).2)), some (.int (nI i)), some (.int (nI (i + 1 + (t + 1)))), none]) (by rw [npI_f c_53 (b4 ▸ c_60)]; rfl) rfl rfl ?_
          exact ih (t + 1) (by omega) (by omega)
        · refine XW.bipush 65 dX0_nearestPlaces_63 (v := 10) (by decide) rfl ?_
          refine XW.iload 67 dX0_nearestPlaces_65 rfl rfl ?_
          refine XW.imul 68 dX0_nearestPlaces_67 rfl ?_
          refine XW.iload 70 dX0_nearestPlaces_68 rfl rfl ?_
          refine XW.iadd 71 dX0_nearestPlaces_70 rfl ?_
          refine XW.istore_n 72 (L' := [some (.ref 50), some (.ref 1), some (.int ((10 * (nI i)) + (nI (i + 1 + t)))), some (.float ((npI (apG (Z.2.1 4) (Z.2.1 2)) (rv (Z.2.1 6)) i (npO (apG (Z.2.1 4) (Z.2.1 2)) (rv (Z.2.1 6)) l i) t).2)), some (.int (nI i)), some (.int (nI (i + 1 + t))), some (.float (Z.2.2.1 51 (20 * (rv (Z.2.1 6) i) + (rv (Z.2.1 6) (i + 1 + t)))))]) dX0_nearestPlaces_71 (by decide) rfl rfl rfl ?_
          refine XW.fload 74 dX0_nearestPlaces_72 rfl rfl ?_
          refine XW.fstore_n 75 (L' := [some (.ref 50), some (.ref 1), some (.int ((10 * (nI i)) + (nI (i + 1 + t)))), some (.float (Z.2.2.1 51 (20 * (rv (Z.2.1 6) i) + (rv (Z.2.1 6) (i + 1 + t))))), some (.int (nI i)), some (.int (nI (i + 1 + t))), some (.float (Z.2.2.1 51 (20 * (rv (Z.2.1 6) i) + (rv (Z.2.1 6) (i + 1 + t)))))]) dX0_nearestPlaces_74 (by decide) rfl rfl rfl ?_
          refine XW.iinc 78 (y := nI (i + 1 + t + 1)) (L' := [some (.ref 50), some (.ref 1), some (.int ((10 * (nI i)) + (nI (i + 1 + t)))), some (.float (Z.2.2.1 51 (20 * (rv (Z.2.1 6) i) + (rv (Z.2.1 6) (i + 1 + t))))), some (.int (nI i)), some (.int (nI (i + 1 + t + 1))), some (.float (Z.2.2.1 51 (20 * (rv (Z.2.1 6) i) + (rv (Z.2.1 6) (i + 1 + t)))))]) dX0_nearestPlaces_75 rfl (na rfl rfl) (by decide) rfl rfl rfl ?_
          refine XW.goto 22 dX0_nearestPlaces_78 (by decide) ?_
          refine XW.weak [true, true, true, true, true, true, false] (L' := [some (.ref 50), some (.ref 1), some (.int ((10 * (nI i)) + (nI (i + 1 + t)))), some (.float (Z.2.2.1 51 (20 * (rv (Z.2.1 6) i) + (rv (Z.2.1 6) (i + 1 + t))))), some (.int (nI i)), some (.int (nI (i + 1 + t + 1))), none]) rfl ?_
          refine XW.eqs (L' := [some (.ref 50), some (.ref 1), some (.int ((npI (apG (Z.2.1 4) (Z.2.1 2)) (rv (Z.2.1 6)) i (npO (apG (Z.2.1 4) (Z.2.1 2)) (rv (Z.2.1 6)) l i) (t + 1)).1)), some (.float ((npI (apG (Z.2.1 4) (Z.2.1 2)) (rv (Z.2.1 6)) i (npO (apG (Z.2.1 4) (Z.2.1 2)) (rv (Z.2.1 6)) l i) (t + 1)).2)), some (.int (nI i)), some (.int (nI (i + 1 + (t + 1)))), none]) (by rw [npI_t (by first | exact Or.inl c_53 | exact Or.inr (b4 ▸ c_60)), ← b4]; rfl) rfl rfl ?_
          exact ih (t + 1) (by omega) (by omega)
set_option maxHeartbeats 4000000 in
set_option maxRecDepth 100000 in
theorem l_nearest_o {Z : xZ} {c l : Nat} (hl : Z.1 1 7 = nI l) (l8 : l ≤ 8) (c20 : c ≤ 20) (hf : rowOK (Z.2.1 6) l c) (hdi : rowDI (Z.2.1 6) l) (hG : gapOK (Z.2.2.1 51) (Z.2.1 4) (Z.2.1 2) c) (ok : okS (Z.2.1 2) (Z.2.1 3) (Z.2.1 4) (Z.2.1 5)) : ∀ (n : Nat) (i : Nat), i ≤ l → l < i + n → XW mX0_nearestPlaces 1 0 0 7 [some (.ref 50), some (.ref 1), some (.int ((npO (apG (Z.2.1 4) (Z.2.1 2)) (rv (Z.2.1 6)) l i).1)), some (.float ((npO (apG (Z.2.1 4) (Z.2.1 2)) (rv (Z.2.1 6)) l i).2)), some (.int (nI i)), none, none] [] (HP Z) (fun r h' => r = some (.int (npO (apG (Z.2.1 4) (Z.2.1 2)) (rv (Z.2.1 6)) l l).1) ∧ h' = HP Z) := by
  intro n
  induction n with
  | zero => intro i g0 g1; omega
  | succ n ih =>
    intro i g0 g1
    refine XW.iload 9 dX0_nearestPlaces_7 rfl rfl ?_
    refine XW.aload_n 10 dX0_nearestPlaces_9 rfl rfl ?_
    refine XW.getf 13 (v := .int (Z.1 1 7)) f0_32 dX0_nearestPlaces_10 rfl rfl rfl ?_
    refine XW.icmp_geN 87 16 i l dX0_nearestPlaces_13 (by decide) rfl rfl hl (by omega) (by omega) (fun c_13 => ?_) (fun c_13 => ?_)
    · refine XW.iload_n 88 dX0_nearestPlaces_87 rfl rfl ?_
      exact XW.iret dX0_nearestPlaces_88 rfl (⟨by rw [show i = l by omega], rfl⟩)
    · refine XW.iload 18 dX0_nearestPlaces_16 rfl rfl ?_
      refine XW.iconst 19 dX0_nearestPlaces_18 (v := 1) (by decide) rfl ?_
      refine XW.iadd 20 dX0_nearestPlaces_19 rfl ?_
      refine XW.istore 22 (L' := [some (.ref 50), some (.ref 1), some (.int ((npO (apG (Z.2.1 4) (Z.2.1 2)) (rv (Z.2.1 6)) l i).1)), some (.float ((npO (apG (Z.2.1 4) (Z.2.1 2)) (rv (Z.2.1 6)) l i).2)), some (.int (nI i)), some (.int ((nI i) + 1)), none]) dX0_nearestPlaces_20 (by decide) rfl rfl rfl ?_
      refine XW.eqs (L' := [some (.ref 50), some (.ref 1), some (.int ((npI (apG (Z.2.1 4) (Z.2.1 2)) (rv (Z.2.1 6)) i (npO (apG (Z.2.1 4) (Z.2.1 2)) (rv (Z.2.1 6)) l i) 0).1)), some (.float ((npI (apG (Z.2.1 4) (Z.2.1 2)) (rv (Z.2.1 6)) i (npO (apG (Z.2.1 4) (Z.2.1 2)) (rv (Z.2.1 6)) l i) 0).2)), some (.int (nI i)), some (.int (nI (i + 1 + 0))), none]) (by rw [nI_1]; rfl) rfl rfl ?_
      exact l_nearest_i hl l8 c20 hf hdi hG ok (by omega) (ih (i + 1) (by omega) (by omega)) (l + 1) 0 (by omega) (by omega)
set_option maxHeartbeats 4000000 in
set_option maxRecDepth 100000 in
theorem c_nearest {Z : xZ} {c l : Nat} (hl : Z.1 1 7 = nI l) (l8 : l ≤ 8) (c20 : c ≤ 20) (hf : rowOK (Z.2.1 6) l c) (hdi : rowDI (Z.2.1 6) l) (hG : gapOK (Z.2.2.1 51) (Z.2.1 4) (Z.2.1 2) c) (ok : okS (Z.2.1 2) (Z.2.1 3) (Z.2.1 4) (Z.2.1 5)) : XC mX0_nearestPlaces 1 0 0 [.ref 50, .ref 1] (HP Z) (fun r h' => r = some (.int (npO (apG (Z.2.1 4) (Z.2.1 2)) (rv (Z.2.1 6)) l l).1) ∧ h' = HP Z) := by
  show XW mX0_nearestPlaces 1 0 0 0 [some (.ref 50), some (.ref 1), none, none, none, none, none] [] (HP Z) _
  refine XW.iconst 1 dX0_nearestPlaces_0 (v := -1) (by decide) rfl ?_
  refine XW.istore_n 2 (L' := [some (.ref 50), some (.ref 1), some (.int (-1)), none, none, none, none]) dX0_nearestPlaces_1 (by decide) rfl rfl rfl ?_
  refine XW.fconst0 3 dX0_nearestPlaces_2 rfl ?_
  refine XW.fstore_n 4 (L' := [some (.ref 50), some (.ref 1), some (.int (-1)), some (.float FP.fconst0), none, none, none]) dX0_nearestPlaces_3 (by decide) rfl rfl rfl ?_
  refine XW.iconst 5 dX0_nearestPlaces_4 (v := 0) (by decide) rfl ?_
  refine XW.istore 7 (L' := [some (.ref 50), some (.ref 1), some (.int (-1)), some (.float FP.fconst0), some (.int 0), none, none]) dX0_nearestPlaces_5 (by decide) rfl rfl rfl ?_
  refine XW.eqs (L' := [some (.ref 50), some (.ref 1), some (.int ((npO (apG (Z.2.1 4) (Z.2.1 2)) (rv (Z.2.1 6)) l 0).1)), some (.float ((npO (apG (Z.2.1 4) (Z.2.1 2)) (rv (Z.2.1 6)) l 0).2)), some (.int (nI 0)), none, none]) (by rfl) rfl rfl ?_
  exact l_nearest_o hl l8 c20 hf hdi hG ok (l + 1) 0 (by omega) (by omega)
/-- the least APART of one and those in the row -/
def grF (ap : Nat → Nat → UInt32) (q : Nat → Nat) (x : Nat) : Nat → UInt32 := itF (fun t a => minU a (ap x (q (t + 1)))) (ap x (q 0))
theorem grF_NF {ap : Nat → Nat → UInt32} {q : Nat → Nat} {x : Nat} : ∀ t, (∀ k, k < t + 1 → NF (ap x (q k))) → NF (grF ap q x t)
  | 0, h => h 0 (by omega)
  | t + 1, h => by
    have ih := grF_NF t (fun k hk => h k (by omega))
    show NF (minU (grF ap q x t) (ap x (q (t + 1))))
    rcases minU_or (grF ap q x t) (ap x (q (t + 1))) with e | e
    · rw [e]; exact ih
    · rw [e]; exact h (t + 1) (by omega)
set_option maxHeartbeats 4000000 in
set_option maxRecDepth 100000 in
theorem l_gapToRow {Z : xZ} {c l : Nat} {x : Int32} {i : Nat} (hx : x = nI i) (ic : i < c) (hni : ∀ p, p < l → i ≠ rv (Z.2.1 6) p) (l1 : 1 ≤ l) (hl : Z.1 1 7 = nI l) (l8 : l ≤ 8) (c20 : c ≤ 20) (hf : rowOK (Z.2.1 6) l c) (hG : gapOK (Z.2.2.1 51) (Z.2.1 4) (Z.2.1 2) c) (ok : okS (Z.2.1 2) (Z.2.1 3) (Z.2.1 4) (Z.2.1 5)) : ∀ (n : Nat) (t : Nat), t + 1 ≤ l → l < t + 1 + n → XW mX0_gapToRow 1 0 0 15 [some (.ref 50), some (.ref 1), some (.int x), some (.float (grF (apG (Z.2.1 4) (Z.2.1 2)) (rv (Z.2.1 6)) i t)), some (.int (nI (t + 1))), none] [] (HP Z) (fun r h' => r = some (.float (grF (apG (Z.2.1 4) (Z.2.1 2)) (rv (Z.2.1 6)) i (l - 1))) ∧ h' = HP Z) := by
  intro n
  induction n with
  | zero => intro t g0 g1; omega
  | succ n ih =>
    intro t g0 g1
    refine XW.iload 17 dX0_gapToRow_15 rfl rfl ?_
    refine XW.aload_n 18 dX0_gapToRow_17 rfl rfl ?_
    refine XW.getf 21 (v := .int (Z.1 1 7)) f0_32 dX0_gapToRow_18 rfl rfl rfl ?_
    refine XW.icmp_geN 58 24 (t + 1) l dX0_gapToRow_21 (by decide) rfl rfl hl (by omega) (by omega) (fun c_21 => ?_) (fun c_21 => ?_)
    · refine XW.fload_n 59 dX0_gapToRow_58 rfl rfl ?_
      exact XW.fret dX0_gapToRow_59 trivial (⟨by rw [show l - 1 = t by omega], rfl⟩)
    · have b1 := (hf (t + 1) (by omega)).2
      have b4 := hG _ _ ic b1 (hni (t + 1) (by omega))
      have b5 : NF (Z.2.2.1 51 (20 * i + rv (Z.2.1 6) (t + 1))) := by rw [b4]; exact apG_NF ok (by omega) (by omega)
      refine XW.aload_n 25 dX0_gapToRow_24 rfl rfl ?_
      refine XW.iload_n 26 dX0_gapToRow_25 rfl rfl ?_
      refine XW.aload_n 27 dX0_gapToRow_26 rfl rfl ?_
      refine XW.getf 30 (v := .ref 6) f0_35 dX0_gapToRow_27 rfl rfl rfl ?_
      refine XW.iload 32 dX0_gapToRow_30 rfl rfl ?_
      refine XW.iald 33 (t + 1) dX0_gapToRow_32 rfl rfl (by omega) (by decide) rfl ?_
      refine XW.callV 36 (vs := [.int x, .int (Z.2.1 6 (t + 1))]) (rest := []) (mcr := 0) (msr := 0) c0_29 dX0_gapToRow_33 rfl rfl (by decide) (Nat.le_of_ble_eq_true rfl) rfl rfl (Nat.le_of_ble_eq_true rfl) rfl (c_gap (i := i) (j := rv (Z.2.1 6) (t + 1)) hx (hf _ (by omega)).1 (by omega) (by omega)) (fun r h1 hq => ?_)
      obtain ⟨rfl, rfl⟩ := hq
      refine XW.fstore 38 (L' := [some (.ref 50), some (.ref 1), some (.int x), some (.float (grF (apG (Z.2.1 4) (Z.2.1 2)) (rv (Z.2.1 6)) i t)), some (.int (nI (t + 1))), some (.float (Z.2.2.1 51 (20 * i + (rv (Z.2.1 6) (t + 1)))))]) dX0_gapToRow_36 (by decide) rfl rfl rfl ?_
      refine XW.fload 40 dX0_gapToRow_38 rfl rfl ?_
      refine XW.fload_n 41 dX0_gapToRow_40 rfl rfl ?_
      refine XW.fcmpU 42 dX0_gapToRow_41 b5 (grF_NF t (fun k hk => apG_NF ok (by omega) (by have := (hf k (by omega)).2; omega))) rfl ?_
      refine XW.if_geU 50 45 dX0_gapToRow_42 (by decide) rfl (fun c_42 => ?_) (fun c_42 => ?_)
      · refine XW.fload_n 51 dX0_gapToRow_50 rfl rfl ?_
        refine XW.fstore_n 52 (L' := [some (.ref 50), some (.ref 1), some (.int x), some (.float (grF (apG (Z.2.1 4) (Z.2.1 2)) (rv (Z.2.1 6)) i t)), some (.int (nI (t + 1))), some (.float (Z.2.2.1 51 (20 * i + (rv (Z.2.1 6) (t + 1)))))]) dX0_gapToRow_51 (by decide) rfl rfl rfl ?_
        refine XW.iinc 55 (y := nI (t + 1 + 1)) (L' := [some (.ref 50), some (.ref 1), some (.int x), some (.float (grF (apG (Z.2.1 4) (Z.2.1 2)) (rv (Z.2.1 6)) i t)), some (.int (nI (t + 1 + 1))), some (.float (Z.2.2.1 51 (20 * i + (rv (Z.2.1 6) (t + 1)))))]) dX0_gapToRow_52 rfl (na rfl rfl) (by decide) rfl rfl rfl ?_
        refine XW.goto 15 dX0_gapToRow_55 (by decide) ?_
        refine XW.weak [true, true, true, true, true, false] (L' := [some (.ref 50), some (.ref 1), some (.int x), some (.float (grF (apG (Z.2.1 4) (Z.2.1 2)) (rv (Z.2.1 6)) i t)), some (.int (nI (t + 1 + 1))), none]) rfl ?_
        refine XW.eqs (L' := [some (.ref 50), some (.ref 1), some (.int x), some (.float (grF (apG (Z.2.1 4) (Z.2.1 2)) (rv (Z.2.1 6)) i (t + 1))), some (.int (nI ((t + 1) + 1))), none]) (by rw [show grF (apG (Z.2.1 4) (Z.2.1 2)) (rv (Z.2.1 6)) i (t + 1) = minU (grF (apG (Z.2.1 4) (Z.2.1 2)) (rv (Z.2.1 6)) i t) ((apG (Z.2.1 4) (Z.2.1 2)) i (rv (Z.2.1 6) (t + 1))) from rfl, minU_f (b4 ▸ c_42)]) rfl rfl ?_
        exact ih (t + 1) (by omega) (by omega)
      · refine XW.fload 47 dX0_gapToRow_45 rfl rfl ?_
        refine XW.goto 51 dX0_gapToRow_47 (by decide) ?_
        refine XW.fstore_n 52 (L' := [some (.ref 50), some (.ref 1), some (.int x), some (.float (Z.2.2.1 51 (20 * i + (rv (Z.2.1 6) (t + 1))))), some (.int (nI (t + 1))), some (.float (Z.2.2.1 51 (20 * i + (rv (Z.2.1 6) (t + 1)))))]) dX0_gapToRow_51 (by decide) rfl rfl rfl ?_
        refine XW.iinc 55 (y := nI (t + 1 + 1)) (L' := [some (.ref 50), some (.ref 1), some (.int x), some (.float (Z.2.2.1 51 (20 * i + (rv (Z.2.1 6) (t + 1))))), some (.int (nI (t + 1 + 1))), some (.float (Z.2.2.1 51 (20 * i + (rv (Z.2.1 6) (t + 1)))))]) dX0_gapToRow_52 rfl (na rfl rfl) (by decide) rfl rfl rfl ?_
        refine XW.goto 15 dX0_gapToRow_55 (by decide) ?_
        refine XW.weak [true, true, true, true, true, false] (L' := [some (.ref 50), some (.ref 1), some (.int x), some (.float (Z.2.2.1 51 (20 * i + (rv (Z.2.1 6) (t + 1))))), some (.int (nI (t + 1 + 1))), none]) rfl ?_
        refine XW.eqs (L' := [some (.ref 50), some (.ref 1), some (.int x), some (.float (grF (apG (Z.2.1 4) (Z.2.1 2)) (rv (Z.2.1 6)) i (t + 1))), some (.int (nI ((t + 1) + 1))), none]) (by rw [show grF (apG (Z.2.1 4) (Z.2.1 2)) (rv (Z.2.1 6)) i (t + 1) = minU (grF (apG (Z.2.1 4) (Z.2.1 2)) (rv (Z.2.1 6)) i t) ((apG (Z.2.1 4) (Z.2.1 2)) i (rv (Z.2.1 6) (t + 1))) from rfl, minU_t (b4 ▸ c_42), ← b4]) rfl rfl ?_
        exact ih (t + 1) (by omega) (by omega)
set_option maxHeartbeats 4000000 in
set_option maxRecDepth 100000 in
theorem c_gapToRow {Z : xZ} {c l : Nat} {x : Int32} {i : Nat} (hx : x = nI i) (ic : i < c) (hni : ∀ p, p < l → i ≠ rv (Z.2.1 6) p) (l1 : 1 ≤ l) (hl : Z.1 1 7 = nI l) (l8 : l ≤ 8) (c20 : c ≤ 20) (hf : rowOK (Z.2.1 6) l c) (hG : gapOK (Z.2.2.1 51) (Z.2.1 4) (Z.2.1 2) c) (ok : okS (Z.2.1 2) (Z.2.1 3) (Z.2.1 4) (Z.2.1 5)) : XC mX0_gapToRow 1 0 0 [.ref 50, .ref 1, .int x] (HP Z) (fun r h' => r = some (.float (grF (apG (Z.2.1 4) (Z.2.1 2)) (rv (Z.2.1 6)) i (l - 1))) ∧ h' = HP Z) := by
  show XW mX0_gapToRow 1 0 0 0 [some (.ref 50), some (.ref 1), some (.int x), none, none, none] [] (HP Z) _
  have b1 := (hf (0) (by omega)).2
  have b4 := hG _ _ ic b1 (hni (0) (by omega))
  have b5 : NF (Z.2.2.1 51 (20 * i + rv (Z.2.1 6) (0))) := by rw [b4]; exact apG_NF ok (by omega) (by omega)
  refine XW.aload_n 1 dX0_gapToRow_0 rfl rfl ?_
  refine XW.iload_n 2 dX0_gapToRow_1 rfl rfl ?_
  refine XW.aload_n 3 dX0_gapToRow_2 rfl rfl ?_
  refine XW.getf 6 (v := .ref 6) f0_35 dX0_gapToRow_3 rfl rfl rfl ?_
  refine XW.iconst 7 dX0_gapToRow_6 (v := 0) (by decide) rfl ?_
  refine XW.iald 8 0 dX0_gapToRow_7 rfl rfl (by omega) (by decide) rfl ?_
  refine XW.callV 11 (vs := [.int x, .int (Z.2.1 6 0)]) (rest := []) (mcr := 0) (msr := 0) c0_29 dX0_gapToRow_8 rfl rfl (by decide) (Nat.le_of_ble_eq_true rfl) rfl rfl (Nat.le_of_ble_eq_true rfl) rfl (c_gap (i := i) (j := rv (Z.2.1 6) 0) hx (hf _ (by omega)).1 (by omega) (by omega)) (fun r h1 hq => ?_)
  obtain ⟨rfl, rfl⟩ := hq
  refine XW.fstore_n 12 (L' := [some (.ref 50), some (.ref 1), some (.int x), some (.float (Z.2.2.1 51 (20 * i + (rv (Z.2.1 6) 0)))), none, none]) dX0_gapToRow_11 (by decide) rfl rfl rfl ?_
  refine XW.iconst 13 dX0_gapToRow_12 (v := 1) (by decide) rfl ?_
  refine XW.istore 15 (L' := [some (.ref 50), some (.ref 1), some (.int x), some (.float (Z.2.2.1 51 (20 * i + (rv (Z.2.1 6) 0)))), some (.int 1), none]) dX0_gapToRow_13 (by decide) rfl rfl rfl ?_
  refine XW.eqs (L' := [some (.ref 50), some (.ref 1), some (.int x), some (.float (grF (apG (Z.2.1 4) (Z.2.1 2)) (rv (Z.2.1 6)) i 0)), some (.int (nI (0 + 1))), none]) (by rw [b4]; rfl) rfl rfl ?_
  exact l_gapToRow hx ic hni l1 hl l8 c20 hf hG ok (l + 1) 0 (by omega) (by omega)
/-- of those that may, the one with the greatest rank, the first of like ones; and its rank -/
def nxF (may : Nat → Bool) (rank : Nat → UInt32) : Nat → Int32 × UInt32 := itF (fun i s => if may i = true ∧ (s.1 = -1 ∨ s.2 < rank i) then (nI i, rank i) else s) (-1, FP.fconst0)
theorem nxF_t {may : Nat → Bool} {rank : Nat → UInt32} {i : Nat} (h : may i = true) (h2 : (nxF may rank i).1 = -1 ∨ (nxF may rank i).2 < rank i) : nxF may rank (i + 1) = (nI i, rank i) := by show (if _ then _ else _) = _; rw [if_pos ⟨h, h2⟩]
theorem nxF_n {may : Nat → Bool} {rank : Nat → UInt32} {i : Nat} (h : ¬ may i = true) : nxF may rank (i + 1) = nxF may rank i := by show (if _ then _ else _) = _; rw [if_neg (fun q => h q.1)]; rfl
theorem nxF_f {may : Nat → Bool} {rank : Nat → UInt32} {i : Nat} (h1 : ¬ (nxF may rank i).1 = -1) (h2 : ¬ (nxF may rank i).2 < rank i) : nxF may rank (i + 1) = nxF may rank i := by show (if _ then _ else _) = _; rw [if_neg (fun q => q.2.elim h1 h2)]; rfl
theorem nxF_NF {may : Nat → Bool} {rank : Nat → UInt32} : ∀ i, (∀ k, k < i → may k = true → NF (rank k)) → NF (nxF may rank i).2
  | 0, _ => NF_0
  | i + 1, h => by
    have ih := nxF_NF (may := may) (rank := rank) i (fun k hk => h k (by omega))
    by_cases c : may i = true ∧ ((nxF may rank i).1 = -1 ∨ (nxF may rank i).2 < rank i)
    · rw [nxF_t c.1 c.2]; exact h i (by omega) c.1
    · by_cases c1 : may i = true
      · rw [nxF_f (fun q => c ⟨c1, Or.inl q⟩) (fun q => c ⟨c1, Or.inr q⟩)]; exact ih
      · rw [nxF_n c1]; exact ih
/-- what comes next into a row -/
def rkF (ap : Nat → Nat → UInt32) (rgb : Nat → Int32) (q : Nat → Nat) (l : Nat) (i : Nat) : UInt32 := if l = 0 then lightC rgb (3 * i) else grF ap q i (l - 1)
theorem rkF_NF {rgb gr ey lm : Nat → Int32} (ok : okS rgb gr ey lm) {f : Nat → Int32} {l c : Nat} (hf : rowOK f l c) (c20 : c ≤ 20) {k : Nat} (hk : k < 20) : NF (rkF (apG ey rgb) rgb (rv f) l k) := by
  unfold rkF; split
  · exact (ok_light ok (by omega)).2
  · exact grF_NF _ (fun p hp => apG_NF ok hk (by have := (hf p (by omega)).2; omega))
set_option maxHeartbeats 4000000 in
set_option maxRecDepth 100000 in
theorem l_nextOne {Z : xZ} {c l : Nat} {am : Int32} (hni : ∀ i, i < c → bitB am (nI i) = true → ∀ p, p < l → i ≠ rv (Z.2.1 6) p) (hc : Z.1 1 0 = nI c) (c20 : c ≤ 20) (hl : Z.1 1 7 = nI l) (l8 : l ≤ 8) (hf : rowOK (Z.2.1 6) l c) (hG : gapOK (Z.2.2.1 51) (Z.2.1 4) (Z.2.1 2) c) (ok : okS (Z.2.1 2) (Z.2.1 3) (Z.2.1 4) (Z.2.1 5)) : ∀ (n : Nat) (i : Nat), i ≤ c → c < i + n → XW mX0_nextOne 2 0 0 8 [some (.ref 50), some (.ref 1), some (.int am), some (.int ((nxF (fun i => bitB am (nI i)) (rkF (apG (Z.2.1 4) (Z.2.1 2)) (Z.2.1 2) (rv (Z.2.1 6)) l) i).1)), some (.float ((nxF (fun i => bitB am (nI i)) (rkF (apG (Z.2.1 4) (Z.2.1 2)) (Z.2.1 2) (rv (Z.2.1 6)) l) i).2)), some (.int (nI i)), none] [] (HP Z) (fun r h' => r = some (.int (nxF (fun i => bitB am (nI i)) (rkF (apG (Z.2.1 4) (Z.2.1 2)) (Z.2.1 2) (rv (Z.2.1 6)) l) c).1) ∧ h' = HP Z) := by
  intro n
  induction n with
  | zero => intro i g0 g1; omega
  | succ n ih =>
    intro i g0 g1
    refine XW.iload 10 dX0_nextOne_8 rfl rfl ?_
    refine XW.aload_n 11 dX0_nextOne_10 rfl rfl ?_
    refine XW.getf 14 (v := .int (Z.1 1 0)) f0_19 dX0_nextOne_11 rfl rfl rfl ?_
    refine XW.icmp_geN 78 17 i c dX0_nextOne_14 (by decide) rfl rfl hc (by omega) (by omega) (fun c_14 => ?_) (fun c_14 => ?_)
    · refine XW.iload_n 79 dX0_nextOne_78 rfl rfl ?_
      exact XW.iret dX0_nextOne_79 rfl (⟨by rw [show i = c by omega], rfl⟩)
    · refine XW.iload_n 18 dX0_nextOne_17 rfl rfl ?_
      refine XW.iload 20 dX0_nextOne_18 rfl rfl ?_
      refine XW.ishr 21 dX0_nextOne_20 rfl ?_
      refine XW.iconst 22 dX0_nextOne_21 (v := 1) (by decide) rfl ?_
      refine XW.iand 23 dX0_nextOne_22 rfl ?_
      refine XW.iconst 24 dX0_nextOne_23 (v := 1) (by decide) rfl ?_
      refine XW.icmp_ne 72 27 dX0_nextOne_24 (by decide) rfl (fun c_24 => ?_) (fun c_24 => ?_)
      · have c0 : ¬ (fun i => bitB am (nI i)) i = true := by simp [bitB, c_24]
        refine XW.iinc 75 (y := nI (i + 1)) (L' := [some (.ref 50), some (.ref 1), some (.int am), some (.int ((nxF (fun i => bitB am (nI i)) (rkF (apG (Z.2.1 4) (Z.2.1 2)) (Z.2.1 2) (rv (Z.2.1 6)) l) i).1)), some (.float ((nxF (fun i => bitB am (nI i)) (rkF (apG (Z.2.1 4) (Z.2.1 2)) (Z.2.1 2) (rv (Z.2.1 6)) l) i).2)), some (.int (nI (i + 1))), none]) dX0_nextOne_72 rfl (na rfl rfl) (by decide) rfl rfl rfl ?_
        refine XW.goto 8 dX0_nextOne_75 (by decide) ?_
        refine XW.eqs (L' := [some (.ref 50), some (.ref 1), some (.int am), some (.int ((nxF (fun i => bitB am (nI i)) (rkF (apG (Z.2.1 4) (Z.2.1 2)) (Z.2.1 2) (rv (Z.2.1 6)) l) (i + 1)).1)), some (.float ((nxF (fun i => bitB am (nI i)) (rkF (apG (Z.2.1 4) (Z.2.1 2)) (Z.2.1 2) (rv (Z.2.1 6)) l) (i + 1)).2)), some (.int (nI (i + 1))), none]) (by rw [nxF_n (may := (fun i => bitB am (nI i))) c0]) rfl rfl ?_
        exact ih (i + 1) (by omega) (by omega)
      · have c0 : (fun i => bitB am (nI i)) i = true := by simp [bitB, c_24]
        refine XW.aload_n 28 dX0_nextOne_27 rfl rfl ?_
        refine XW.getf 31 (v := .int (Z.1 1 7)) f0_32 dX0_nextOne_28 rfl rfl rfl ?_
        refine XW.if_ne 43 34 dX0_nextOne_31 (by decide) rfl (fun c_31 => ?_) (fun c_31 => ?_)
        · have l0 : ¬ l = 0 := fun q => c_31 (by rw [hl, q]; rfl)
          have er : rkF (apG (Z.2.1 4) (Z.2.1 2)) (Z.2.1 2) (rv (Z.2.1 6)) l i = grF (apG (Z.2.1 4) (Z.2.1 2)) (rv (Z.2.1 6)) i (l - 1) := if_neg l0
          refine XW.aload_n 44 dX0_nextOne_43 rfl rfl ?_
          refine XW.aload_n 45 dX0_nextOne_44 rfl rfl ?_
          refine XW.iload 47 dX0_nextOne_45 rfl rfl ?_
          refine XW.callV 50 (vs := [.ref 1, .int (nI i)]) (rest := []) (mcr := 0) (msr := 0) c0_65 dX0_nextOne_47 rfl rfl (by decide) (Nat.le_of_ble_eq_true rfl) rfl rfl (Nat.le_of_ble_eq_true rfl) rfl (c_gapToRow (i := i) rfl (by omega) (hni i (by omega) c0) (by omega) hl l8 c20 hf hG ok) (fun r h1 hq => ?_)
          obtain ⟨rfl, rfl⟩ := hq
          refine XW.fstore 52 (L' := [some (.ref 50), some (.ref 1), some (.int am), some (.int ((nxF (fun i => bitB am (nI i)) (rkF (apG (Z.2.1 4) (Z.2.1 2)) (Z.2.1 2) (rv (Z.2.1 6)) l) i).1)), some (.float ((nxF (fun i => bitB am (nI i)) (rkF (apG (Z.2.1 4) (Z.2.1 2)) (Z.2.1 2) (rv (Z.2.1 6)) l) i).2)), some (.int (nI i)), some (.float (grF (apG (Z.2.1 4) (Z.2.1 2)) (rv (Z.2.1 6)) i (l - 1)))]) dX0_nextOne_50 (by decide) rfl rfl rfl ?_
          refine XW.iload_n 53 dX0_nextOne_52 rfl rfl ?_
          refine XW.iconst 54 dX0_nextOne_53 (v := -1) (by decide) rfl ?_
          refine XW.icmp_eq 65 57 dX0_nextOne_54 (by decide) rfl (fun c_54 => ?_) (fun c_54 => ?_)
          · refine XW.iload 67 dX0_nextOne_65 rfl rfl ?_
            refine XW.istore_n 68 (L' := [some (.ref 50), some (.ref 1), some (.int am), some (.int (nI i)), some (.float ((nxF (fun i => bitB am (nI i)) (rkF (apG (Z.2.1 4) (Z.2.1 2)) (Z.2.1 2) (rv (Z.2.1 6)) l) i).2)), some (.int (nI i)), some (.float (grF (apG (Z.2.1 4) (Z.2.1 2)) (rv (Z.2.1 6)) i (l - 1)))]) dX0_nextOne_67 (by decide) rfl rfl rfl ?_
            refine XW.fload 70 dX0_nextOne_68 rfl rfl ?_
            refine XW.fstore 72 (L' := [some (.ref 50), some (.ref 1), some (.int am), some (.int (nI i)), some (.float (grF (apG (Z.2.1 4) (Z.2.1 2)) (rv (Z.2.1 6)) i (l - 1))), some (.int (nI i)), some (.float (grF (apG (Z.2.1 4) (Z.2.1 2)) (rv (Z.2.1 6)) i (l - 1)))]) dX0_nextOne_70 (by decide) rfl rfl rfl ?_
            refine XW.iinc 75 (y := nI (i + 1)) (L' := [some (.ref 50), some (.ref 1), some (.int am), some (.int (nI i)), some (.float (grF (apG (Z.2.1 4) (Z.2.1 2)) (rv (Z.2.1 6)) i (l - 1))), some (.int (nI (i + 1))), some (.float (grF (apG (Z.2.1 4) (Z.2.1 2)) (rv (Z.2.1 6)) i (l - 1)))]) dX0_nextOne_72 rfl (na rfl rfl) (by decide) rfl rfl rfl ?_
            refine XW.goto 8 dX0_nextOne_75 (by decide) ?_
            refine XW.weak [true, true, true, true, true, true, false] (L' := [some (.ref 50), some (.ref 1), some (.int am), some (.int (nI i)), some (.float (grF (apG (Z.2.1 4) (Z.2.1 2)) (rv (Z.2.1 6)) i (l - 1))), some (.int (nI (i + 1))), none]) rfl ?_
            refine XW.eqs (L' := [some (.ref 50), some (.ref 1), some (.int am), some (.int ((nxF (fun i => bitB am (nI i)) (rkF (apG (Z.2.1 4) (Z.2.1 2)) (Z.2.1 2) (rv (Z.2.1 6)) l) (i + 1)).1)), some (.float ((nxF (fun i => bitB am (nI i)) (rkF (apG (Z.2.1 4) (Z.2.1 2)) (Z.2.1 2) (rv (Z.2.1 6)) l) (i + 1)).2)), some (.int (nI (i + 1))), none]) (by rw [nxF_t (may := (fun i => bitB am (nI i))) c0 (by first | exact Or.inl c_54 | exact Or.inr (er ▸ c_62)), er]) rfl rfl ?_
            exact ih (i + 1) (by omega) (by omega)
          · refine XW.fload 59 dX0_nextOne_57 rfl rfl ?_
            refine XW.fload 61 dX0_nextOne_59 rfl rfl ?_
            refine XW.fcmpU 62 dX0_nextOne_61 (er ▸ rkF_NF ok hf c20 (by omega)) (nxF_NF i (fun k hk _ => rkF_NF ok hf c20 (by omega))) rfl ?_
            refine XW.if_leU 72 65 dX0_nextOne_62 (by decide) rfl (fun c_62 => ?_) (fun c_62 => ?_)
            · refine XW.iinc 75 (y := nI (i + 1)) (L' := [some (.ref 50), some (.ref 1), some (.int am), some (.int ((nxF (fun i => bitB am (nI i)) (rkF (apG (Z.2.1 4) (Z.2.1 2)) (Z.2.1 2) (rv (Z.2.1 6)) l) i).1)), some (.float ((nxF (fun i => bitB am (nI i)) (rkF (apG (Z.2.1 4) (Z.2.1 2)) (Z.2.1 2) (rv (Z.2.1 6)) l) i).2)), some (.int (nI (i + 1))), some (.float (grF (apG (Z.2.1 4) (Z.2.1 2)) (rv (Z.2.1 6)) i (l - 1)))]) dX0_nextOne_72 rfl (na rfl rfl) (by decide) rfl rfl rfl ?_
              refine XW.goto 8 dX0_nextOne_75 (by decide) ?_
              refine XW.weak [true, true, true, true, true, true, false] (L' := [some (.ref 50), some (.ref 1), some (.int am), some (.int ((nxF (fun i => bitB am (nI i)) (rkF (apG (Z.2.1 4) (Z.2.1 2)) (Z.2.1 2) (rv (Z.2.1 6)) l) i).1)), some (.float ((nxF (fun i => bitB am (nI i)) (rkF (apG (Z.2.1 4) (Z.2.1 2)) (Z.2.1 2) (rv (Z.2.1 6)) l) i).2)), some (.int (nI (i + 1))), none]) rfl ?_
              refine XW.eqs (L' := [some (.ref 50), some (.ref 1), some (.int am), some (.int ((nxF (fun i => bitB am (nI i)) (rkF (apG (Z.2.1 4) (Z.2.1 2)) (Z.2.1 2) (rv (Z.2.1 6)) l) (i + 1)).1)), some (.float ((nxF (fun i => bitB am (nI i)) (rkF (apG (Z.2.1 4) (Z.2.1 2)) (Z.2.1 2) (rv (Z.2.1 6)) l) (i + 1)).2)), some (.int (nI (i + 1))), none]) (by rw [nxF_f (may := (fun i => bitB am (nI i))) c_54 (er ▸ c_62)]) rfl rfl ?_
              exact ih (i + 1) (by omega) (by omega)
            · refine XW.iload 67 dX0_nextOne_65 rfl rfl ?_
              refine XW.istore_n 68 (L' := [some (.ref 50), some (.ref 1), some (.int am), some (.int (nI i)), some (.float ((nxF (fun i => bitB am (nI i)) (rkF (apG (Z.2.1 4) (Z.2.1 2)) (Z.2.1 2) (rv (Z.2.1 6)) l) i).2)), some (.int (nI i)), some (.float (grF (apG (Z.2.1 4) (Z.2.1 2)) (rv (Z.2.1 6)) i (l - 1)))]) dX0_nextOne_67 (by decide) rfl rfl rfl ?_
              refine XW.fload 70 dX0_nextOne_68 rfl rfl ?_
              refine XW.fstore 72 (L' := [some (.ref 50), some (.ref 1), some (.int am), some (.int (nI i)), some (.float (grF (apG (Z.2.1 4) (Z.2.1 2)) (rv (Z.2.1 6)) i (l - 1))), some (.int (nI i)), some (.float (grF (apG (Z.2.1 4) (Z.2.1 2)) (rv (Z.2.1 6)) i (l - 1)))]) dX0_nextOne_70 (by decide) rfl rfl rfl ?_
              refine XW.iinc 75 (y := nI (i + 1)) (L' := [some (.ref 50), some (.ref 1), some (.int am), some (.int (nI i)), some (.float (grF (apG (Z.2.1 4) (Z.2.1 2)) (rv (Z.2.1 6)) i (l - 1))), some (.int (nI (i + 1))), some (.float (grF (apG (Z.2.1 4) (Z.2.1 2)) (rv (Z.2.1 6)) i (l - 1)))]) dX0_nextOne_72 rfl (na rfl rfl) (by decide) rfl rfl rfl ?_
              refine XW.goto 8 dX0_nextOne_75 (by decide) ?_
              refine XW.weak [true, true, true, true, true, true, false] (L' := [some (.ref 50), some (.ref 1), some (.int am), some (.int (nI i)), some (.float (grF (apG (Z.2.1 4) (Z.2.1 2)) (rv (Z.2.1 6)) i (l - 1))), some (.int (nI (i + 1))), none]) rfl ?_
              refine XW.eqs (L' := [some (.ref 50), some (.ref 1), some (.int am), some (.int ((nxF (fun i => bitB am (nI i)) (rkF (apG (Z.2.1 4) (Z.2.1 2)) (Z.2.1 2) (rv (Z.2.1 6)) l) (i + 1)).1)), some (.float ((nxF (fun i => bitB am (nI i)) (rkF (apG (Z.2.1 4) (Z.2.1 2)) (Z.2.1 2) (rv (Z.2.1 6)) l) (i + 1)).2)), some (.int (nI (i + 1))), none]) (by rw [nxF_t (may := (fun i => bitB am (nI i))) c0 (by first | exact Or.inl c_54 | exact Or.inr (er ▸ c_62)), er]) rfl rfl ?_
              exact ih (i + 1) (by omega) (by omega)
        · have l0 : l = 0 := by rw [hl] at c_31; exact (nI_eq (by omega) (by omega)).mp c_31
          have er : rkF (apG (Z.2.1 4) (Z.2.1 2)) (Z.2.1 2) (rv (Z.2.1 6)) l i = lightC (Z.2.1 2) (3 * i) := if_pos l0
          refine XW.aload_n 35 dX0_nextOne_34 rfl rfl ?_
          refine XW.iload 37 dX0_nextOne_35 rfl rfl ?_
          refine XW.callV 40 (vs := [.int (nI i)]) (rest := []) (mcr := 0) (msr := 0) c0_61 dX0_nextOne_37 rfl rfl (by decide) (Nat.le_of_ble_eq_true rfl) rfl rfl (Nat.le_of_ble_eq_true rfl) rfl (c_lightOf (i := i) rfl (by omega) ok) (fun r h1 hq => ?_)
          obtain ⟨rfl, rfl⟩ := hq
          refine XW.goto 50 dX0_nextOne_40 (by decide) ?_
          refine XW.fstore 52 (L' := [some (.ref 50), some (.ref 1), some (.int am), some (.int ((nxF (fun i => bitB am (nI i)) (rkF (apG (Z.2.1 4) (Z.2.1 2)) (Z.2.1 2) (rv (Z.2.1 6)) l) i).1)), some (.float ((nxF (fun i => bitB am (nI i)) (rkF (apG (Z.2.1 4) (Z.2.1 2)) (Z.2.1 2) (rv (Z.2.1 6)) l) i).2)), some (.int (nI i)), some (.float (lightC (Z.2.1 2) (3 * i)))]) dX0_nextOne_50 (by decide) rfl rfl rfl ?_
          refine XW.iload_n 53 dX0_nextOne_52 rfl rfl ?_
          refine XW.iconst 54 dX0_nextOne_53 (v := -1) (by decide) rfl ?_
          refine XW.icmp_eq 65 57 dX0_nextOne_54 (by decide) rfl (fun c_54 => ?_) (fun c_54 => ?_)
          · refine XW.iload 67 dX0_nextOne_65 rfl rfl ?_
            refine XW.istore_n 68 (L' := [some (.ref 50), some (.ref 1), some (.int am), some (.int (nI i)), some (.float ((nxF (fun i => bitB am (nI i)) (rkF (apG (Z.2.1 4) (Z.2.1 2)) (Z.2.1 2) (rv (Z.2.1 6)) l) i).2)), some (.int (nI i)), some (.float (lightC (Z.2.1 2) (3 * i)))]) dX0_nextOne_67 (by decide) rfl rfl rfl ?_
            refine XW.fload 70 dX0_nextOne_68 rfl rfl ?_
            refine XW.fstore 72 (L' := [some (.ref 50), some (.ref 1), some (.int am), some (.int (nI i)), some (.float (lightC (Z.2.1 2) (3 * i))), some (.int (nI i)), some (.float (lightC (Z.2.1 2) (3 * i)))]) dX0_nextOne_70 (by decide) rfl rfl rfl ?_
            refine XW.iinc 75 (y := nI (i + 1)) (L' := [some (.ref 50), some (.ref 1), some (.int am), some (.int (nI i)), some (.float (lightC (Z.2.1 2) (3 * i))), some (.int (nI (i + 1))), some (.float (lightC (Z.2.1 2) (3 * i)))]) dX0_nextOne_72 rfl (na rfl rfl) (by decide) rfl rfl rfl ?_
            refine XW.goto 8 dX0_nextOne_75 (by decide) ?_
            refine XW.weak [true, true, true, true, true, true, false] (L' := [some (.ref 50), some (.ref 1), some (.int am), some (.int (nI i)), some (.float (lightC (Z.2.1 2) (3 * i))), some (.int (nI (i + 1))), none]) rfl ?_
            refine XW.eqs (L' := [some (.ref 50), some (.ref 1), some (.int am), some (.int ((nxF (fun i => bitB am (nI i)) (rkF (apG (Z.2.1 4) (Z.2.1 2)) (Z.2.1 2) (rv (Z.2.1 6)) l) (i + 1)).1)), some (.float ((nxF (fun i => bitB am (nI i)) (rkF (apG (Z.2.1 4) (Z.2.1 2)) (Z.2.1 2) (rv (Z.2.1 6)) l) (i + 1)).2)), some (.int (nI (i + 1))), none]) (by rw [nxF_t (may := (fun i => bitB am (nI i))) c0 (by first | exact Or.inl c_54 | exact Or.inr (er ▸ c_62)), er]) rfl rfl ?_
            exact ih (i + 1) (by omega) (by omega)
          · refine XW.fload 59 dX0_nextOne_57 rfl rfl ?_
            refine XW.fload 61 dX0_nextOne_59 rfl rfl ?_
            refine XW.fcmpU 62 dX0_nextOne_61 (er ▸ rkF_NF ok hf c20 (by omega)) (nxF_NF i (fun k hk _ => rkF_NF ok hf c20 (by omega))) rfl ?_
            refine XW.if_leU 72 65 dX0_nextOne_62 (by decide) rfl (fun c_62 => ?_) (fun c_62 => ?_)
            · refine XW.iinc 75 (y := nI (i + 1)) (L' := [some (.ref 50), some (.ref 1), some (.int am), some (.int ((nxF (fun i => bitB am (nI i)) (rkF (apG (Z.2.1 4) (Z.2.1 2)) (Z.2.1 2) (rv (Z.2.1 6)) l) i).1)), some (.float ((nxF (fun i => bitB am (nI i)) (rkF (apG (Z.2.1 4) (Z.2.1 2)) (Z.2.1 2) (rv (Z.2.1 6)) l) i).2)), some (.int (nI (i + 1))), some (.float (lightC (Z.2.1 2) (3 * i)))]) dX0_nextOne_72 rfl (na rfl rfl) (by decide) rfl rfl rfl ?_
              refine XW.goto 8 dX0_nextOne_75 (by decide) ?_
              refine XW.weak [true, true, true, true, true, true, false] (L' := [some (.ref 50), some (.ref 1), some (.int am), some (.int ((nxF (fun i => bitB am (nI i)) (rkF (apG (Z.2.1 4) (Z.2.1 2)) (Z.2.1 2) (rv (Z.2.1 6)) l) i).1)), some (.float ((nxF (fun i => bitB am (nI i)) (rkF (apG (Z.2.1 4) (Z.2.1 2)) (Z.2.1 2) (rv (Z.2.1 6)) l) i).2)), some (.int (nI (i + 1))), none]) rfl ?_
              refine XW.eqs (L' := [some (.ref 50), some (.ref 1), some (.int am), some (.int ((nxF (fun i => bitB am (nI i)) (rkF (apG (Z.2.1 4) (Z.2.1 2)) (Z.2.1 2) (rv (Z.2.1 6)) l) (i + 1)).1)), some (.float ((nxF (fun i => bitB am (nI i)) (rkF (apG (Z.2.1 4) (Z.2.1 2)) (Z.2.1 2) (rv (Z.2.1 6)) l) (i + 1)).2)), some (.int (nI (i + 1))), none]) (by rw [nxF_f (may := (fun i => bitB am (nI i))) c_54 (er ▸ c_62)]) rfl rfl ?_
              exact ih (i + 1) (by omega) (by omega)
            · refine XW.iload 67 dX0_nextOne_65 rfl rfl ?_
              refine XW.istore_n 68 (L' := [some (.ref 50), some (.ref 1), some (.int am), some (.int (nI i)), some (.float ((nxF (fun i => bitB am (nI i)) (rkF (apG (Z.2.1 4) (Z.2.1 2)) (Z.2.1 2) (rv (Z.2.1 6)) l) i).2)), some (.int (nI i)), some (.float (lightC (Z.2.1 2) (3 * i)))]) dX0_nextOne_67 (by decide) rfl rfl rfl ?_
              refine XW.fload 70 dX0_nextOne_68 rfl rfl ?_
              refine XW.fstore 72 (L' := [some (.ref 50), some (.ref 1), some (.int am), some (.int (nI i)), some (.float (lightC (Z.2.1 2) (3 * i))), some (.int (nI i)), some (.float (lightC (Z.2.1 2) (3 * i)))]) dX0_nextOne_70 (by decide) rfl rfl rfl ?_
              refine XW.iinc 75 (y := nI (i + 1)) (L' := [some (.ref 50), some (.ref 1), some (.int am), some (.int (nI i)), some (.float (lightC (Z.2.1 2) (3 * i))), some (.int (nI (i + 1))), some (.float (lightC (Z.2.1 2) (3 * i)))]) dX0_nextOne_72 rfl (na rfl rfl) (by decide) rfl rfl rfl ?_
              refine XW.goto 8 dX0_nextOne_75 (by decide) ?_
              refine XW.weak [true, true, true, true, true, true, false] (L' := [some (.ref 50), some (.ref 1), some (.int am), some (.int (nI i)), some (.float (lightC (Z.2.1 2) (3 * i))), some (.int (nI (i + 1))), none]) rfl ?_
              refine XW.eqs (L' := [some (.ref 50), some (.ref 1), some (.int am), some (.int ((nxF (fun i => bitB am (nI i)) (rkF (apG (Z.2.1 4) (Z.2.1 2)) (Z.2.1 2) (rv (Z.2.1 6)) l) (i + 1)).1)), some (.float ((nxF (fun i => bitB am (nI i)) (rkF (apG (Z.2.1 4) (Z.2.1 2)) (Z.2.1 2) (rv (Z.2.1 6)) l) (i + 1)).2)), some (.int (nI (i + 1))), none]) (by rw [nxF_t (may := (fun i => bitB am (nI i))) c0 (by first | exact Or.inl c_54 | exact Or.inr (er ▸ c_62)), er]) rfl rfl ?_
              exact ih (i + 1) (by omega) (by omega)
set_option maxHeartbeats 4000000 in
set_option maxRecDepth 100000 in
theorem c_nextOne {Z : xZ} {c l : Nat} {am : Int32} (hni : ∀ i, i < c → bitB am (nI i) = true → ∀ p, p < l → i ≠ rv (Z.2.1 6) p) (hc : Z.1 1 0 = nI c) (c20 : c ≤ 20) (hl : Z.1 1 7 = nI l) (l8 : l ≤ 8) (hf : rowOK (Z.2.1 6) l c) (hG : gapOK (Z.2.2.1 51) (Z.2.1 4) (Z.2.1 2) c) (ok : okS (Z.2.1 2) (Z.2.1 3) (Z.2.1 4) (Z.2.1 5)) : XC mX0_nextOne 2 0 0 [.ref 50, .ref 1, .int am] (HP Z) (fun r h' => r = some (.int (nxF (fun i => bitB am (nI i)) (rkF (apG (Z.2.1 4) (Z.2.1 2)) (Z.2.1 2) (rv (Z.2.1 6)) l) c).1) ∧ h' = HP Z) := by
  show XW mX0_nextOne 2 0 0 0 [some (.ref 50), some (.ref 1), some (.int am), none, none, none, none] [] (HP Z) _
  refine XW.iconst 1 dX0_nextOne_0 (v := -1) (by decide) rfl ?_
  refine XW.istore_n 2 (L' := [some (.ref 50), some (.ref 1), some (.int am), some (.int (-1)), none, none, none]) dX0_nextOne_1 (by decide) rfl rfl rfl ?_
  refine XW.fconst0 3 dX0_nextOne_2 rfl ?_
  refine XW.fstore 5 (L' := [some (.ref 50), some (.ref 1), some (.int am), some (.int (-1)), some (.float FP.fconst0), none, none]) dX0_nextOne_3 (by decide) rfl rfl rfl ?_
  refine XW.iconst 6 dX0_nextOne_5 (v := 0) (by decide) rfl ?_
  refine XW.istore 8 (L' := [some (.ref 50), some (.ref 1), some (.int am), some (.int (-1)), some (.float FP.fconst0), some (.int 0), none]) dX0_nextOne_6 (by decide) rfl rfl rfl ?_
  refine XW.eqs (L' := [some (.ref 50), some (.ref 1), some (.int am), some (.int ((nxF (fun i => bitB am (nI i)) (rkF (apG (Z.2.1 4) (Z.2.1 2)) (Z.2.1 2) (rv (Z.2.1 6)) l) 0).1)), some (.float ((nxF (fun i => bitB am (nI i)) (rkF (apG (Z.2.1 4) (Z.2.1 2)) (Z.2.1 2) (rv (Z.2.1 6)) l) 0).2)), some (.int (nI 0)), none]) (by rfl) rfl rfl ?_
  exact l_nextOne hni hc c20 hl l8 hf hG ok (c + 1) 0 (by omega) (by omega)
