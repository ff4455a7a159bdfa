/-! Both sides together: fills, swaps, texts, back, digest -/
theorem sc_md {X : xZ} {v : Int32} {f : Nat → Int32} {i : Nat} : scV (sA (sI X 53 3 v) 54 f) 1 i = scV X 1 i := rfl
section Puts3
variable {Z : xZ} {c l st len : Nat} {kp : Nat → Nat}
theorem pr_fills (ns : NS Z c l st len kp) (x : Int32) : PR mX3_fills mX4_fills [.int x] Z := by
  have c20 := ns.c20
  have hbi : bcF (Z.1 1 5) = biF (Z.2.1 54 61) 20 := by rw [ns.i5]; exact bc_bi c20 ns.mi.2.2.2.2.2.2.2
  cases e : inF x 1 8 with
  | false => exact PR.rf 0 ns (by decide) (by decide) (t_fills_bad ns.ci x (by unfold wfF; exact if_neg (by rw [e]; decide))) (u_fills_bad (Z := rfZ Z 0) (c := c) (l := l) ns.mi (st := st) ns.st3 ns.st5 x e)
  | true =>
    cases e2 : decide (biF (Z.2.1 54 61) 20 ≤ x) with
    | false => exact PR.rf 1 ns (by decide) (by decide) (t_fills_no ns.ci x (by unfold wfF; rw [if_pos e, hbi]; exact if_neg (of_decide_eq_false e2))) (u_fills_no (Z := rfZ Z 1) (c := c) (l := l) ns.mi (st := st) ns.st3 ns.st5 x e e2)
    | true =>
      obtain ⟨g1, g2⟩ := inF_iff.mp e
      obtain ⟨n, n8, hx⟩ := nI_of2 (M := 8) (n := 8) (by decide) (Int32.not_lt.mpr (Int32.le_trans (by decide) g1)) g2
      have n1 : 1 ≤ n := by rw [hx, show (1 : Int32) = nI 1 from rfl, nI_leI (by omega) (by omega)] at g1; exact g1
      have hfx := ns.mi.fill n8 (by rw [← hx]; exact of_decide_eq_true e2)
      refine PR.mk (by decide) (t_fills_ok ns.ci x hx n8 (by rw [ns.i5, ns.a6]; omega) (by unfold wfF; rw [if_pos e, hbi]; exact if_pos (of_decide_eq_true e2))) (fun r h1 hq => ?_)
      obtain ⟨Y, G, lv, rfl, rfl⟩ := hq
      have e4 : Y.2.1 54 = Z.2.1 54 := lv.2.1 54 (by omega)
      obtain ⟨n0, n5, n7, a2, a3, a4, a5, a6⟩ := lv.nrm ns
      rw [← e4] at n0 n5 n7 a2 a3 a4 a5 a6
      have hfy : (fxR (Y.2.1 54 61) (mP (Y.2.1 54)) c).2 ≤ n := by rw [e4]; exact hfx
      have hnr : NRM Y (Y.2.1 54) := ⟨n0, n5, n7, a2, a3, a4, a5, a6⟩
      rw [a2, a3, a4, a5, a6, n5]
      obtain ⟨k1, k2, k3⟩ := fillF_ok (ap := apG (nE (Y.2.1 54)) (nR (Y.2.1 54))) (rgb := nR (Y.2.1 54)) (fit := fbF (nR (Y.2.1 54)) (nG (Y.2.1 54)) (nL (Y.2.1 54)) c) (fx := Y.2.1 54 61) (row := mP (Y.2.1 54)) (c := c) (n := n) (by omega) n8 hfy
      refine ⟨_, _, 8, _, rfl, rfl, by decide, u_fills_ok (Z := sI (sA (sF Y 51 G) 6 (fillF (apG (nE (Y.2.1 54)) (nR (Y.2.1 54))) (nR (Y.2.1 54)) (fbF (nR (Y.2.1 54)) (nG (Y.2.1 54)) (nL (Y.2.1 54)) c) (Y.2.1 54 61) (mP (Y.2.1 54)) c n).1) 1 7 (nI (fillF (apG (nE (Y.2.1 54)) (nR (Y.2.1 54))) (nR (Y.2.1 54)) (fbF (nR (Y.2.1 54)) (nG (Y.2.1 54)) (nL (Y.2.1 54)) c) (Y.2.1 54 61) (mP (Y.2.1 54)) c n).2)) (c := c) (l := l) (lv.mi ns) (st := st) (lv.st3 ns) ns.st5 x hx n8 n1 (Nat.le_trans hfy n8) e (by show decide (biF (Y.2.1 54 61) 20 ≤ x) = true; rw [e4]; exact e2), fun r2 h2 hq => ?_⟩
      obtain ⟨Y2, G2, ⟨Q, rfl, hQ⟩, rfl, rfl⟩ := hq
      refine ⟨rfl, _, ?_, rfl⟩
      exact SIM_junk (SIM_w2 (X := sI (sA (sF Y 51 G) 6 (fillF (apG (nE (Y.2.1 54)) (nR (Y.2.1 54))) (nR (Y.2.1 54)) (fbF (nR (Y.2.1 54)) (nG (Y.2.1 54)) (nL (Y.2.1 54)) c) (Y.2.1 54 61) (mP (Y.2.1 54)) c n).1) 1 7 (nI (fillF (apG (nE (Y.2.1 54)) (nR (Y.2.1 54))) (nR (Y.2.1 54)) (fbF (nR (Y.2.1 54)) (nG (Y.2.1 54)) (nL (Y.2.1 54)) c) (Y.2.1 54 61) (mP (Y.2.1 54)) c n).2)) ns lv (fun kp' ci => CI_row ci k3 k1 k2) (((FR.rf).a (W := sF Y 51 G) (Y := sF Y 51 G) (by omega)).i (by omega)) hQ hnr.row rfl rfl rfl rfl rfl) (fun a j h _ => sI_2 _ _ (by omega)) rfl rfl (fun a h => rfl) rfl
theorem pr_swaps (ns : NS Z c l st len kp) : PR mX3_swaps mX4_swaps [] Z := by
  have c20 := ns.c20
  refine PR.mk (by decide) (t_swaps ns.ci) (fun r h1 hq => ?_)
  obtain ⟨Y, G, lv, rfl, rfl⟩ := hq
  have e4 : Y.2.1 54 = Z.2.1 54 := lv.2.1 54 (by omega)
  obtain ⟨n0, n5, n7, a2, a3, a4, a5, a6⟩ := lv.nrm ns
  rw [← e4] at n0 n5 n7 a2 a3 a4 a5 a6
  have hnr : NRM Y (Y.2.1 54) := ⟨n0, n5, n7, a2, a3, a4, a5, a6⟩
  have mi := lv.mi ns
  rw [a2, a3, a4, a5, a6, n5]
  obtain ⟨k1, k2⟩ := saF_ok (ap := apG (nE (Y.2.1 54)) (nR (Y.2.1 54))) (fit := fbF (nR (Y.2.1 54)) (nG (Y.2.1 54)) (nL (Y.2.1 54)) c) (fx := Y.2.1 54 61) (l := l) (c := c) (by omega) 60 0 (mP (Y.2.1 54)) mi.2.2.2.2.2.1 mi.2.2.2.2.2.2.1
  refine ⟨_, _, 8, _, rfl, rfl, by decide, u_swaps (Z := sA (sF Y 51 G) 6 (saF (apG (nE (Y.2.1 54)) (nR (Y.2.1 54))) (fbF (nR (Y.2.1 54)) (nG (Y.2.1 54)) (nL (Y.2.1 54)) c) (Y.2.1 54 61) l c 60 0 (mP (Y.2.1 54))).2) (c := c) (l := l) mi (st := st) (lv.st3 ns) ns.st5, fun r2 h2 hq => ?_⟩
  obtain ⟨Y2, G2, S, ⟨Q, rfl, hQ⟩, rfl, rfl⟩ := hq
  refine ⟨rfl, _, ?_, rfl⟩
  exact SIM_junk (SIM_w2 (X := sA (sF Y 51 G) 6 (saF (apG (nE (Y.2.1 54)) (nR (Y.2.1 54))) (fbF (nR (Y.2.1 54)) (nG (Y.2.1 54)) (nL (Y.2.1 54)) c) (Y.2.1 54 61) l c 60 0 (mP (Y.2.1 54))).2) ns lv (fun kp' ci => CI_row2 ci k1 k2) ((FR.rf).a (W := sF Y 51 G) (Y := sF Y 51 G) (by omega)) hQ (hnr.row2 mi.2.2.1) rfl rfl rfl rfl rfl) (fun a j h _ => sI_2 _ _ (by omega)) rfl rfl (fun a h => by
    by_cases q : a = 54
    · subst q; rfl
    · rw [sA_2 _ _ q, sA_2 _ _ q]; exact sA_2 _ _ (by omega)) rfl
theorem pr_type (ns : NS Z c l st len kp) (x : Int32) : PR mX3_type mX4_type [.int x] Z := by
  have l120 := ns.l120
  have st5 := ns.st5
  cases e : inF x 0 127 with
  | false => exact PR.rf 0 ns (by decide) (by decide) (t_type_bad ns.ci x e) (u_type_bad (Z := rfZ Z 0) (len := len) ns.ln l120 x e)
  | true =>
    rcases Nat.lt_or_ge len 120 with q | q
    · refine PR.mk (by decide) (t_type_ok ns.ci x e q) (fun r h1 hq => ?_)
      obtain ⟨rfl, rfl⟩ := hq
      refine ⟨_, _, 8, _, rfl, rfl, by decide, u_type_ok (Z := sI (sA Z 46 (upd (Z.2.1 46) len x)) 45 1 (nI (len + 1))) (len := len) ns.ln l120 x e q, fun r2 h2 hq => ?_⟩
      obtain ⟨rfl, rfl⟩ := hq
      refine ⟨rfl, _, ?_, rfl⟩
      obtain ⟨⟨ci, h54, h3, h6, h57, h58, hp⟩, nr, e46, e44⟩ := ns
      have hk := ci.2.2.2.2.2.2.2.2.2.2.1
      have ci2 := CI_type (v := x) ci q
      refine ⟨c, l, st, len + 1, kp, ci2, h54, h3, sI_1 _ _ _ _, h57, fun k hk => ?_, hp.fr ((((FR.rf).a (by omega)).i (by omega)).a (by omega) |>.i (by omega)) (fun j hj => (hk.1 j (by omega)).1)⟩
      show upd (Z.2.1 58) len x k = upd (Z.2.1 46) len x k
      rw [e46]
    · have e20 : len = 120 := by omega
      exact PR.rf 2 ns (by decide) (by decide) (t_type_full ns.ci x e e20) (u_type_full (Z := rfZ Z 2) (len := len) ns.ln l120 x e e20)
theorem pr_clear (ns : NS Z c l st len kp) : PR mX3_clear mX4_clear [] Z := by
  have l120 := ns.l120
  have st5 := ns.st5
  refine PR.mk (by decide) (t_clear ns.ci) (fun r h1 hq => ?_)
  obtain ⟨rfl, rfl⟩ := hq
  refine ⟨_, _, 8, _, rfl, rfl, by decide, u_clear (Z := sI Z 45 1 0) (len := len) ns.ln l120, fun r2 h2 hq => ?_⟩
  obtain ⟨rfl, rfl⟩ := hq
  refine ⟨rfl, _, ?_, rfl⟩
  obtain ⟨⟨ci, h54, h3, h6, h57, h58, hp⟩, nr, e46, e44⟩ := ns
  have hk := ci.2.2.2.2.2.2.2.2.2.2.1
  have ci2 := CI_clear ci
  exact ⟨c, l, st, 0, kp, ci2, h54, h3, sI_1 (sI Z 45 1 0) 53 6 0, h57, h58, hp.fr (((FR.rf).i (by omega)).i (by omega)) (fun j hj => (hk.1 j (by omega)).1)⟩
theorem pr_back (ns : NS Z c l st len kp) : PR mX3_back mX4_back [] Z := by
  have st5 := ns.st5
  rcases Nat.eq_zero_or_pos st with q | q
  · subst q
    exact PR.rf 1 ns (by decide) (by decide) (t_back_no ns.ci rfl) (u_back_no (Z := rfZ Z 1) ns.st3)
  · refine PR.mk (by decide) (t_back_ok ns.ci q) (fun r h1 hq => ?_)
    obtain ⟨rfl, rfl⟩ := hq
    refine ⟨_, _, 4, _, rfl, rfl, by decide, u_back_ok (Z := becZ (sI Z 0 2 (nI (st - 1))) 1 (8 + 6 * kp (st - 1))) (st := st) ns.st3 q st5, fun r2 h2 hq => ?_⟩
    obtain ⟨rfl, Nn, rfl, hN⟩ := hq
    refine ⟨rfl, _, ?_, rfl⟩
    obtain ⟨⟨ci, h54, h3, h6, h57, h58, hp⟩, nr, e46, e44⟩ := ns
    have hk := ci.2.2.2.2.2.2.2.2.2.2.1
    have k6 := (hk.1 (st - 1) (by omega)).1
    obtain ⟨p1, c', l', p2⟩ := hp (st - 1) (by omega)
    have sc : ∀ i, i < 129 → scV (sA (sI (becZ (sI Z 0 2 (nI (st - 1))) 1 (8 + 6 * kp (st - 1))) 53 3 (nI (st - 1))) 54 Nn) 1 i = Nn i := fun i hi => by
      rw [sc_md, bec_self _ _ _ i hi, ((FR.rf (W := Z)).i (by omega)).sc k6 i, ← p1 i hi]
      exact (hN i hi).symm
    have mN : MI Nn c' l' := p2.congr hN
    have fr : FR (sA (sI (becZ (sI Z 0 2 (nI (st - 1))) 1 (8 + 6 * kp (st - 1))) 53 3 (nI (st - 1))) 54 Nn) Z := by
      refine ((FR.i ?_ (by omega)).a (by omega))
      exact ⟨fun a j h1 h2 => by rw [bec_Io _ (by omega), sI_2 _ _ (by omega)], fun a h1 h2 => bec_Ao _ (by omega)⟩
    refine ⟨c', l', st - 1, len, kp, CI_of (mN.congr sc) rfl (by omega) (hk.of rfl) ci.2.2.2.2.2.2.2.2.2.2.2.1 ci.2.2.2.2.2.2.2.2.2.2.2.2, fun i hi => (sc i hi).symm, sI_1 (becZ (sI Z 0 2 (nI (st - 1))) 1 (8 + 6 * kp (st - 1))) 53 3 _, h6, h57, h58, ?_⟩
    exact PST.fr (fun j hj => hp j (by omega)) fr (fun j hj => (hk.1 j (by omega)).1)
end Puts3
