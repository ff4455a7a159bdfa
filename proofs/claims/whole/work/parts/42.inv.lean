/-! What each change keeps of the invariant -/
theorem okS.rgb' {rgb gr ey lm rgb2 : Nat → Int32} (h : okS rgb gr ey lm) (h2 : ∀ k, k < 60 → isP (rgb2 k)) : okS rgb2 gr ey lm := ⟨h2, h.2⟩
theorem okS.gr' {rgb gr ey lm gr2 : Nat → Int32} (h : okS rgb gr ey lm) (h2 : ∀ k, k < 3 → isP (gr2 k)) : okS rgb gr2 ey lm := ⟨h.1, h2, h.2.2⟩
theorem okS.lm' {rgb gr ey lm lm2 : Nat → Int32} (h : okS rgb gr ey lm) (h2 : ∀ k, k < 3 → isP (lm2 k)) : okS rgb gr ey lm2 := ⟨h.1, h.2.1, h.2.2.1, h.2.2.2.1, h.2.2.2.2.1, h2⟩
theorem rgbF_p {x y z : Int32} (h : rgbF x y z = true) : isP x ∧ isP y ∧ isP z := by
  unfold rgbF at h; simp only [Bool.and_eq_true] at h; exact ⟨h.1.1, h.1.2, h.2⟩
theorem up3_p {f : Nat → Int32} {k n : Nat} {x y z : Int32} (h : rgbF x y z = true) (hf : ∀ k, k < n → isP (f k)) : ∀ j, j < n → isP (up3 f k x y z j) := by
  obtain ⟨h1, h2, h3⟩ := rgbF_p h
  intro j hj
  unfold up3 upd
  split
  · exact h3
  · split
    · exact h2
    · split
      · exact h1
      · exact hf j hj
theorem rowOK.more {f : Nat → Int32} {l c c' : Nat} (h : rowOK f l c) (hc : c ≤ c') : rowOK f l c' := fun p hp => ⟨(h p hp).1, Nat.lt_of_lt_of_le (h p hp).2 hc⟩
section CIk
variable {Y : xZ} {c l st len : Nat} {kp : Nat → Nat}
theorem keptIs.of {Z Y : xZ} {kp : Nat → Nat} (h : keptIs Z kp) (e : Y.2.2.2.1 = Z.2.2.2.1) : keptIs Y kp := ⟨fun i hi => by rw [e]; exact h.1 i hi, h.2⟩
theorem CI_add {x y z : Int32} (ci : CI Y c l st len kp) (c19 : c < 20) (e : rgbF x y z = true) : CI (sI (sA Y 2 (up3 (Y.2.1 2) (3 * c) x y z)) 1 0 (nI (c + 1))) (c + 1) l st len kp := by
  obtain ⟨hc, c20, hl, l8, ok, hf, hdi, hfb, hst, st5, hk, hlen, l120⟩ := ci
  refine ⟨by rw [sI_1], by omega, by rw [sI_2 _ _ (by omega)]; exact hl, l8, ?_, hf.more (by omega), hdi, ?_, by rw [sI_2 _ _ (by omega)]; exact hst, st5, hk.of rfl, by rw [sI_2 _ _ (by omega)]; exact hlen, l120⟩
  · exact ok.rgb' (up3_p e ok.1)
  · rw [sI_2 _ _ (by omega)]; exact fun j h1 h2 => Nat.lt_succ_of_lt (hfb j h1 h2)
theorem CI_paint {x y z : Int32} {k : Nat} (ci : CI Y c l st len kp) (e : rgbF x y z = true) : CI (sA Y 2 (up3 (Y.2.1 2) k x y z)) c l st len kp := by
  obtain ⟨hc, c20, hl, l8, ok, hf, hdi, hfb, hst, st5, hk, hlen, l120⟩ := ci
  exact ⟨hc, c20, hl, l8, ok.rgb' (up3_p e ok.1), hf, hdi, hfb, hst, st5, hk.of rfl, hlen, l120⟩
theorem CI_ground {x y z : Int32} (ci : CI Y c l st len kp) (e : rgbF x y z = true) : CI (sA Y 3 (up3 (Y.2.1 3) 0 x y z)) c l st len kp := by
  obtain ⟨hc, c20, hl, l8, ok, hf, hdi, hfb, hst, st5, hk, hlen, l120⟩ := ci
  exact ⟨hc, c20, hl, l8, ok.gr' (up3_p e ok.2.1), hf, hdi, hfb, hst, st5, hk.of rfl, hlen, l120⟩
theorem CI_lim {v : Int32} {k : Nat} (ci : CI Y c l st len kp) (e : isP v) : CI (sA Y 5 (upd (Y.2.1 5) k v)) c l st len kp := by
  obtain ⟨hc, c20, hl, l8, ok, hf, hdi, hfb, hst, st5, hk, hlen, l120⟩ := ci
  refine ⟨hc, c20, hl, l8, ok.lm' (fun j hj => ?_), hf, hdi, hfb, hst, st5, hk.of rfl, hlen, l120⟩
  show isP (upd (Y.2.1 5) k v j)
  unfold upd; split
  · exact e
  · exact ok.2.2.2.2.2 j hj
/-- an eye's number -/
theorem CI_eye {v : Int32} {e k : Nat} (ci : CI Y c l st len kp) (e4 : e < 4) (k13 : k < 13) (ev : eyeNumF (nI k) v = true) : CI (sA Y 4 (upd (Y.2.1 4) (13 * e + k) v)) c l st len kp := by
  obtain ⟨hc, c20, hl, l8, ok, hf, hdi, hfb, hst, st5, hk, hlen, l120⟩ := ci
  have hin : inF (nI k) 0 12 = true := inF_iff.mpr ⟨nI_pos' (by omega), by rw [show (12 : Int32) = nI 12 from rfl, nI_leI (by omega) (by omega)]; omega⟩
  rw [eyeNumF_t hin] at ev
  have k12 : nI k = 12 ↔ k = 12 := by rw [show (12 : Int32) = nI 12 from rfl, nI_eq (by omega) (by omega)]
  have k9 : 9 ≤ nI k ↔ 9 ≤ k := by rw [show (9 : Int32) = nI 9 from rfl, nI_leI (by omega) (by omega)]
  obtain ⟨o1, o2, o3, o4, o5, o6⟩ := ok
  refine ⟨hc, c20, hl, l8, ⟨o1, o2, fun e' k' he hk' => ?_, fun e' k' he hk' => ?_, fun e' he => ?_, o6⟩, hf, hdi, hfb, hst, st5, hk.of rfl, hlen, l120⟩
  · show isT (upd (Y.2.1 4) (13 * e + k) v (13 * e' + k'))
    unfold upd; split
    · rename_i q
      rw [if_neg (fun z => by have := k12.mp z; omega), if_neg (fun z => by have := k9.mp z; omega)] at ev
      exact ev
    · exact o3 e' k' he hk'
  · show isW (upd (Y.2.1 4) (13 * e + k) v (13 * e' + 9 + k'))
    unfold upd; split
    · rename_i q
      rw [if_neg (fun z => by have := k12.mp z; omega), if_pos (k9.mpr (by omega))] at ev
      exact ev
    · exact o4 e' k' he hk'
  · show upd (Y.2.1 4) (13 * e + k) v (13 * e' + 12) = 0 ∨ upd (Y.2.1 4) (13 * e + k) v (13 * e' + 12) = 1
    unfold upd; split
    · rename_i q
      rw [if_pos (k12.mpr (by omega))] at ev
      obtain ⟨g1, g2⟩ := inF_iff.mp ev
      obtain ⟨j, j1, j2⟩ := nI_of2 (x := v) (M := 1) (n := 1) (by decide) (Int32.not_lt.mpr g1) g2
      rcases (show j = 0 ∨ j = 1 by omega) with rfl | rfl
      · exact Or.inl j2
      · exact Or.inr j2
    · exact o5 e' he
/-- FIXED ones stay COLOURS -/
theorem fx_bt {f : Int32} {i on : Int32} {k j : Nat} (hi : i = nI k) (hk : k < 32) (hj : j < 32) : bt (fxF f i on) j = (if on = 1 then (bt f j || decide (k = j)) else (bt f j && !decide (k = j))) := by
  subst hi
  unfold fxF
  split
  · rw [b_or, bt_bit hk hj]
  · rw [b_and, bt_not hj, bt_bit hk hj]
theorem CI_fix {x on : Int32} {k : Nat} (ci : CI Y c l st len kp) (hx : x = nI k) (kc : k < c) : CI (sI Y 1 5 (fxF (Y.1 1 5) x on)) c l st len kp := by
  obtain ⟨hc, c20, hl, l8, ok, hf, hdi, hfb, hst, st5, hk, hlen, l120⟩ := ci
  refine ⟨by rw [sI_2 _ _ (by omega)]; exact hc, c20, by rw [sI_2 _ _ (by omega)]; exact hl, l8, ok, hf, hdi, fun j h1 h2 => ?_, by rw [sI_2 _ _ (by omega)]; exact hst, st5, hk.of rfl, by rw [sI_2 _ _ (by omega)]; exact hlen, l120⟩
  rw [sI_1, fx_bt hx (by omega) h1] at h2
  split at h2
  · rw [Bool.or_eq_true, decide_eq_true_eq] at h2
    rcases h2 with h2 | h2
    · exact hfb j h1 h2
    · omega
  · rw [Bool.and_eq_true] at h2
    exact hfb j h1 h2.1
theorem flF_ok {ap : Nat → Nat → UInt32} {rgb : Nat → Int32} {fit : Int32} {c : Nat} (hc : c ≤ 32) : ∀ m (s : (Nat → Int32) × Nat), rowOK s.1 s.2 c → rowDI s.1 s.2 → rowOK (flF ap rgb fit c m s).1 (flF ap rgb fit c m s).2 c ∧ rowDI (flF ap rgb fit c m s).1 (flF ap rgb fit c m s).2 ∧ (flF ap rgb fit c m s).2 ≤ s.2 + m
  | 0, s, h1, h2 => ⟨h1, h2, Nat.le_refl _⟩
  | m + 1, s, h1, h2 => by
    by_cases h : nxS ap rgb fit c s = -1
    · rw [flF_n h]; exact ⟨h1, h2, by omega⟩
    · obtain ⟨i, i1, i2, i3, i4⟩ := nxS_spec h1 hc h
      rw [flF_y h]
      have ih := flF_ok (ap := ap) (rgb := rgb) (fit := fit) hc m (upd s.1 s.2 (nxS ap rgb fit c s), s.2 + 1) (by rw [i2]; exact rowOK_push h1 i1 hc) (by rw [i2]; exact rowDI_push h2 i4 (by omega))
      exact ⟨ih.1, ih.2.1, Nat.le_trans ih.2.2 (by show s.2 + 1 + m ≤ _; omega)⟩
theorem fillF_ok {ap : Nat → Nat → UInt32} {rgb : Nat → Int32} {fit fx : Int32} {row : Nat → Int32} {c n : Nat} (hc : c ≤ 32) (n8 : n ≤ 8) (hfx : (fxR fx row c).2 ≤ n) : rowOK (fillF ap rgb fit fx row c n).1 (fillF ap rgb fit fx row c n).2 c ∧ rowDI (fillF ap rgb fit fx row c n).1 (fillF ap rgb fit fx row c n).2 ∧ (fillF ap rgb fit fx row c n).2 ≤ 8 := by
  have h := fxR_ok (fx := fx) (row := row) c hc
  have := flF_ok (ap := ap) (rgb := rgb) (fit := fit) hc (n - (fxR fx row c).2) (fxR fx row c) h.1 h.2
  unfold fillF
  exact ⟨this.1, this.2.1, by omega⟩
theorem CI_row {G : Nat → UInt32} {R : Nat → Int32} {l2 : Nat} (ci : CI Y c l st len kp) (h8 : l2 ≤ 8) (h1 : rowOK R l2 c) (h2 : rowDI R l2) : CI (sI (sA (sF Y 51 G) 6 R) 1 7 (nI l2)) c l2 st len kp := by
  obtain ⟨hc, c20, hl, l8, ok, hf, hdi, hfb, hst, st5, hk, hlen, l120⟩ := ci
  exact ⟨by rw [sI_2 _ _ (by omega)]; exact hc, c20, by rw [sI_1], h8, ok, h1, h2, by rw [sI_2 _ _ (by omega)]; exact hfb, by rw [sI_2 _ _ (by omega)]; exact hst, st5, hk.of rfl, by rw [sI_2 _ _ (by omega)]; exact hlen, l120⟩
theorem CI_row2 {G : Nat → UInt32} {R : Nat → Int32} (ci : CI Y c l st len kp) (h1 : rowOK R l c) (h2 : rowDI R l) : CI (sA (sF Y 51 G) 6 R) c l st len kp := by
  obtain ⟨hc, c20, hl, l8, ok, hf, hdi, hfb, hst, st5, hk, hlen, l120⟩ := ci
  exact ⟨hc, c20, hl, l8, ok, h1, h2, hfb, hst, st5, hk.of rfl, hlen, l120⟩
theorem saF_ok {ap : Nat → Nat → UInt32} {fit fx : Int32} {l c : Nat} (hc : c ≤ 32) : ∀ m k row, rowOK row l c → rowDI row l → rowOK (saF ap fit fx l c m k row).2 l c ∧ rowDI (saF ap fit fx l c m k row).2 l
  | 0, k, row, h1, h2 => ⟨h1, h2⟩
  | m + 1, k, row, h1, h2 => by
    cases hb : (swR ap fit fx l c row).1 with
    | true =>
      rw [saF_t hb]
      have := swR_ok (ap := ap) (fit := fit) (fx := fx) h1 h2 hc
      exact saF_ok hc m (k + 1) _ this.1 this.2
    | false => rw [saF_f hb]; exact ⟨h1, h2⟩
theorem CI_gaps {G : Nat → UInt32} (ci : CI Y c l st len kp) : CI (sF Y 51 G) c l st len kp := ci
theorem CI_mem {G : Nat → UInt32} {m : Nat → Int32} (ci : CI Y c l st len kp) : CI (sA (sF Y 51 G) 52 m) c l st len kp := ci
theorem CI_ref {w : Nat} (ci : CI Y c l st len kp) : CI (rfZ Y w) c l st len kp := ci
theorem CI_type {v : Int32} (ci : CI Y c l st len kp) (h : len < 120) : CI (sI (sA Y 46 (upd (Y.2.1 46) len v)) 45 1 (nI (len + 1))) c l st (len + 1) kp := by
  obtain ⟨hc, c20, hl, l8, ok, hf, hdi, hfb, hst, st5, hk, hlen, l120⟩ := ci
  exact ⟨by rw [sI_2 _ _ (by omega)]; exact hc, c20, by rw [sI_2 _ _ (by omega)]; exact hl, l8, ok, hf, hdi, by rw [sI_2 _ _ (by omega)]; exact hfb, by rw [sI_2 _ _ (by omega)]; exact hst, st5, hk.of rfl, by rw [sI_1], by omega⟩
theorem CI_clear (ci : CI Y c l st len kp) : CI (sI Y 45 1 0) c l st 0 kp := by
  obtain ⟨hc, c20, hl, l8, ok, hf, hdi, hfb, hst, st5, hk, hlen, l120⟩ := ci
  exact ⟨by rw [sI_2 _ _ (by omega)]; exact hc, c20, by rw [sI_2 _ _ (by omega)]; exact hl, l8, ok, hf, hdi, by rw [sI_2 _ _ (by omega)]; exact hfb, by rw [sI_2 _ _ (by omega)]; exact hst, st5, hk.of rfl, by rw [sI_1]; rfl, by omega⟩
end CIk
