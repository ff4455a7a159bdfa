/-! Both sides together: calls that leave a STATE -/
section Puts2
variable {Z : xZ} {c l st len : Nat} {kp : Nat → Nat}
theorem pr_colour (ns : NS Z c l st len kp) (x y z : Int32) : PR mX3_colour mX4_colour [.int x, .int y, .int z] Z := by
  have c20 := ns.c20
  cases e : rgbF x y z with
  | false => exact PR.rf 0 ns (by decide) (by decide) (t_colour_bad ns.ci x y z e) (u_colour_bad (Z := rfZ Z 0) (c := c) (l := l) ns.mi (st := st) ns.st3 ns.st5 x y z e)
  | true =>
    rcases Nat.lt_or_ge c 20 with q | q
    · refine PR.mk (by decide) (t_colour_ok ns.ci x y z e q) (fun r h1 hq => ?_)
      obtain ⟨rfl, Y, lv, rfl⟩ := hq
      refine ⟨_, _, 8, _, rfl, rfl, by decide, u_colour_ok (Z := sI (sA Y 2 (up3 (Y.2.1 2) (3 * c) x y z)) 1 0 (nI (c + 1))) (c := c) (l := l) (lv.mi ns) (st := st) (lv.st3 ns) ns.st5 x y z e q, fun r2 h2 hq => ?_⟩
      obtain ⟨rfl, Y2, ⟨Q, rfl, hQ⟩, rfl⟩ := hq
      refine ⟨rfl, _, ?_, rfl⟩
      exact SIM_w2 ns lv (fun kp' ci => CI_add ci q e) (((FR.rf).a (by omega)).i (by omega)) hQ (by have := (lv.nrm ns).add (c := c) (x := x) (y := y) (z := z) q; rw [← lv.2.1 54 (by omega)] at this; exact this) rfl rfl rfl rfl rfl
    · have e20 : c = 20 := by omega
      exact PR.rf 2 ns (by decide) (by decide) (t_colour_full ns.ci x y z e e20) (u_colour_full (Z := rfZ Z 2) (c := c) (l := l) ns.mi (st := st) ns.st3 ns.st5 x y z e e20)
theorem pr_paints (ns : NS Z c l st len kp) (x y z v : Int32) : PR mX3_paints mX4_paints [.int x, .int y, .int z, .int v] Z := by
  have c20 := ns.c20
  cases e : (isC x (Z.1 1 0) && rgbF y z v) with
  | false => exact PR.rf 0 ns (by decide) (by decide) (t_paints_bad ns.ci x y z v e) (u_paints_bad (Z := rfZ Z 0) (c := c) (l := l) ns.mi (st := st) ns.st3 ns.st5 x y z v (by rw [ns.i0] at e; exact e))
  | true =>
    obtain ⟨e1, e2⟩ := and_f e
    obtain ⟨i, ic, hx⟩ := isC_n (c := c) (by omega) (by rw [← ns.ci.1]; exact e1)
    refine PR.mk (by decide) (t_paints_ok ns.ci x y z v hx ic e1 e2) (fun r h1 hq => ?_)
    obtain ⟨Y, lv, rfl, rfl⟩ := hq
    have e4 : Y.2.1 54 = Z.2.1 54 := lv.2.1 54 (by omega)
    refine ⟨_, _, 8, _, rfl, rfl, by decide, u_paints_ok (Z := sA Y 2 (up3 (Y.2.1 2) (3 * i) y z v)) (c := c) (l := l) (lv.mi ns) (st := st) (lv.st3 ns) ns.st5 x y z v hx ic (by show isC x (Y.2.1 54 0) = true; rw [e4, ← ns.i0]; exact e1) e2, fun r2 h2 hq => ?_⟩
    obtain ⟨Y2, ⟨Q, rfl, hQ⟩, rfl, rfl⟩ := hq
    refine ⟨?_, _, ?_, rfl⟩
    · rw [(lv.nrm ns).2.2.2.1, ot_R (by omega), ← e4]; rfl
    · exact SIM_w2 ns lv (fun kp' ci => CI_paint ci e2) ((FR.rf).a (by omega)) hQ (by have := (lv.nrm ns).paint (i := i) (x := y) (y := z) (z := v) (by omega); rw [← e4] at this; exact this) rfl rfl rfl rfl rfl
theorem pr_ground (ns : NS Z c l st len kp) (x y z : Int32) : PR mX3_ground mX4_ground [.int x, .int y, .int z] Z := by
  cases e : rgbF x y z with
  | false => exact PR.rf 0 ns (by decide) (by decide) (t_ground_bad ns.ci x y z e) (u_ground_bad (Z := rfZ Z 0) (c := c) (l := l) ns.mi (st := st) ns.st3 ns.st5 x y z e)
  | true =>
    refine PR.mk (by decide) (t_ground_ok ns.ci x y z e) (fun r h1 hq => ?_)
    obtain ⟨Y, lv, rfl, rfl⟩ := hq
    have e4 : Y.2.1 54 = Z.2.1 54 := lv.2.1 54 (by omega)
    refine ⟨_, _, 8, _, rfl, rfl, by decide, u_ground_ok (Z := sA Y 3 (up3 (Y.2.1 3) 0 x y z)) (c := c) (l := l) (lv.mi ns) (st := st) (lv.st3 ns) ns.st5 x y z e, fun r2 h2 hq => ?_⟩
    obtain ⟨Y2, ⟨Q, rfl, hQ⟩, rfl, rfl⟩ := hq
    refine ⟨?_, _, ?_, rfl⟩
    · rw [(lv.nrm ns).2.2.2.2.1, ← e4]; rfl
    · exact SIM_w2 ns lv (fun kp' ci => CI_ground ci e) ((FR.rf).a (by omega)) hQ (by have := (lv.nrm ns).ground (x := x) (y := y) (z := z); rw [← e4] at this; exact this) rfl rfl rfl rfl rfl
theorem eyeNum_of {y z : Int32} : eyeNumF y z = (inF y 0 12 && ofEyeF y z) := by
  cases h : inF y 0 12 with
  | true => rw [ofEyeF_eq h]; rfl
  | false => unfold eyeNumF; rw [h]; rfl
theorem pr_eye (ns : NS Z c l st len kp) (x y z : Int32) : PR mX3_eye mX4_eye [.int x, .int y, .int z] Z := by
  cases e : (inF x 0 3 && eyeNumF y z) with
  | false => exact PR.rf 0 ns (by decide) (by decide) (t_eye_bad ns.ci x y z e) (u_eye_bad (Z := rfZ Z 0) (c := c) (l := l) ns.mi (st := st) ns.st3 ns.st5 x y z (by rw [eyeNum_of] at e; exact e))
  | true =>
    obtain ⟨e1, e2⟩ := and_f e
    obtain ⟨e3, e5⟩ := and_f (eyeNum_of.symm.trans e2)
    obtain ⟨a, a3, hx⟩ := in_n (n := 3) (by decide) e1
    obtain ⟨k, k12, hy⟩ := in_n (n := 12) (by decide) e3
    refine PR.mk (by decide) (t_eye_ok ns.ci x y z hx hy (by omega) (by omega) e1 e2) (fun r h1 hq => ?_)
    obtain ⟨Y, lv, rfl, rfl⟩ := hq
    have e4 : Y.2.1 54 = Z.2.1 54 := lv.2.1 54 (by omega)
    refine ⟨_, _, 8, _, rfl, rfl, by decide, u_eye_ok (Z := sA Y 4 (upd (Y.2.1 4) (13 * a + k) z)) (c := c) (l := l) (lv.mi ns) (st := st) (lv.st3 ns) ns.st5 x y z hx hy (by omega) (by omega) e1 e3 e5, fun r2 h2 hq => ?_⟩
    obtain ⟨Y2, ⟨Q, rfl, hQ⟩, rfl, rfl⟩ := hq
    refine ⟨?_, _, ?_, rfl⟩
    · rw [(lv.nrm ns).2.2.2.2.2.1, nE_eq (by omega), ← e4]; rfl
    · exact SIM_w2 ns lv (fun kp' ci => CI_eye ci (by omega) (by omega) (by rw [← hy]; exact e2)) ((FR.rf).a (by omega)) hQ (by have := (lv.nrm ns).eye (k := 13 * a + k) (v := z) (by omega); rw [← e4] at this; exact this) rfl rfl rfl rfl rfl
theorem pr_sets (ns : NS Z c l st len kp) (x y : Int32) : PR mX3_sets mX4_sets [.int x, .int y] Z := by
  cases e : (inF x 0 2 && inF y 0 255) with
  | false => exact PR.rf 0 ns (by decide) (by decide) (t_sets_bad ns.ci x y (by unfold wlF; exact if_neg (fun q => by rw [q.1, q.2] at e; cases e))) (u_sets_bad (Z := rfZ Z 0) (c := c) (l := l) ns.mi (st := st) ns.st3 ns.st5 x y e)
  | true =>
    obtain ⟨e1, e2⟩ := and_f e
    obtain ⟨k, k2, hx⟩ := in_n (n := 2) (by decide) e1
    refine PR.mk (by decide) (t_sets_ok ns.ci x y hx (by omega) (by unfold wlF; exact if_pos ⟨e1, e2⟩)) (fun r h1 hq => ?_)
    obtain ⟨Y, lv, rfl, rfl⟩ := hq
    have e4 : Y.2.1 54 = Z.2.1 54 := lv.2.1 54 (by omega)
    refine ⟨_, _, 8, _, rfl, rfl, by decide, u_sets_ok (Z := sA Y 5 (upd (Y.2.1 5) k y)) (c := c) (l := l) (lv.mi ns) (st := st) (lv.st3 ns) ns.st5 x y hx (by omega) e1 e2, fun r2 h2 hq => ?_⟩
    obtain ⟨Y2, ⟨Q, rfl, hQ⟩, rfl, rfl⟩ := hq
    refine ⟨?_, _, ?_, rfl⟩
    · rw [(lv.nrm ns).2.2.2.2.2.2.1, nL_eq (by omega), ← e4]; rfl
    · exact SIM_w2 ns lv (fun kp' ci => CI_lim ci e2) ((FR.rf).a (by omega)) hQ (by have := (lv.nrm ns).lim (k := k) (v := y) (by omega); rw [← e4] at this; exact this) rfl rfl rfl rfl rfl
theorem pr_fixes (ns : NS Z c l st len kp) (x y : Int32) : PR mX3_fixes mX4_fixes [.int x, .int y] Z := by
  have c20 := ns.c20
  cases e : (isC x (Z.1 1 0) && inF y 0 1) with
  | false => exact PR.rf 0 ns (by decide) (by decide) (t_fixes_bad ns.ci x y (by unfold wxF; exact if_neg (fun q => by rw [q.1, q.2] at e; cases e))) (u_fixes_bad (Z := rfZ Z 0) (c := c) (l := l) ns.mi (st := st) ns.st3 ns.st5 x y (by rw [ns.i0] at e; exact e))
  | true =>
    obtain ⟨e1, e2⟩ := and_f e
    obtain ⟨i, ic, hx⟩ := isC_n (c := c) (by omega) (by rw [← ns.ci.1]; exact e1)
    obtain ⟨k, k1, hy⟩ := in_n (n := 1) (by decide) e2
    refine PR.mk (by decide) (t_fixes_ok ns.ci x y (by unfold wxF; exact if_pos ⟨e1, e2⟩)) (fun r h1 hq => ?_)
    obtain ⟨Y, lv, rfl, rfl⟩ := hq
    have e4 : Y.2.1 54 = Z.2.1 54 := lv.2.1 54 (by omega)
    have e5 : Y.1 1 5 = Y.2.1 54 61 := by rw [(lv.nrm ns).2.1, e4]
    have hfx : fxF (Y.1 1 5) x y = fxN (Y.2.1 54) x y := by rw [e5]; exact fx_eq hx (by omega) hy k1
    refine ⟨_, _, 8, _, rfl, rfl, by decide, u_fixes_ok (Z := sI Y 1 5 (fxF (Y.1 1 5) x y)) (c := c) (l := l) (lv.mi ns) (st := st) (lv.st3 ns) ns.st5 x y (by show isC x (Y.2.1 54 0) = true; rw [e4, ← ns.i0]; exact e1) e2, fun r2 h2 hq => ?_⟩
    obtain ⟨Y2, ⟨Q, rfl, hQ⟩, rfl, rfl⟩ := hq
    obtain ⟨kp', ci, -⟩ := LV.go ns.1 lv
    have hb := (CI_fix (on := y) ci hx ic).2.2.2.2.2.2.2.1
    rw [sI_1] at hb
    refine ⟨?_, _, ?_, rfl⟩
    · rw [bc_bi c20 hb, hfx]; rfl
    · exact SIM_w2 ns lv (fun kp' ci => CI_fix ci hx ic) ((FR.rf).i (by omega)) hQ (by have := (lv.nrm ns).fix (v := fxF (Y.1 1 5) x y); rw [← e4] at this; have e6 := this; rw [show upd (Y.2.1 54) 61 (fxF (Y.1 1 5) x y) = upd (Y.2.1 54) 61 (fxN (Y.2.1 54) x y) by rw [hfx]] at e6; exact e6) rfl rfl rfl rfl rfl
end Puts2
