/-! Both sides together: calls that only tell -/
theorem in_n {x hi : Int32} {n : Nat} (hM : hi.toInt = n) (h : inF x 0 hi = true) : ∃ j, j ≤ n ∧ x = nI j := by
  obtain ⟨h1, h2⟩ := inF_iff.mp h
  exact nI_of2 hM (Int32.not_lt.mpr h1) h2
theorem and_f {a b : Bool} (h : (a && b) = true) : a = true ∧ b = true := by rw [Bool.and_eq_true] at h; exact h
theorem bc_bi {x : Int32} {c : Nat} (c20 : c ≤ 20) (h : ∀ j, j < 32 → bt x j = true → j < c) : bcF x = biF x 20 := by
  rw [(bc_fxR (row := fun _ => 0) c20 h).1, bi_fxR20 (row := fun _ => 0) c20 h]
theorem ft_fx {rgb gr lm row : Nat → Int32} {c : Nat} (c20 : c ≤ 20) : ∀ m, m ≤ c → ftM rgb gr lm m = nI (fxR (fbF rgb gr lm c) row m).2
  | 0, _ => rfl
  | m + 1, h => by
    have ih := ft_fx (rgb := rgb) (gr := gr) (lm := lm) (row := row) c20 m (by omega)
    have hb : bitB (fbF rgb gr lm c) (nI m) = fitC rgb gr lm m := by
      rw [bitB_bt (by omega), Bool.eq_iff_iff, fb_bt c (by omega) m (by omega)]
      exact ⟨fun q => q.2, fun q => ⟨by omega, q⟩⟩
    rw [ftM_s, ih]
    cases e : fitC rgb gr lm m with
    | true => rw [fxR_t (by rw [hb, e])]; exact na rfl rfl
    | false => rw [fxR_f (by rw [hb, e])]; exact na rfl rfl
theorem bc_ft {rgb gr lm : Nat → Int32} {c : Nat} (c20 : c ≤ 20) : bcF (fbF rgb gr lm c) = ftM rgb gr lm c := by
  rw [(bc_fxR (row := fun _ => 0) c20 (fun j hj h => ((fb_bt c (by omega) j hj).mp h).1)).1, ft_fx (row := fun _ => 0) c20 c (Nat.le_refl c)]
theorem pbI_congr {f g : Nat → Nat → UInt32} {v : UInt32} {i : Nat} {s : Int32} : ∀ n, (∀ t, t < n → f i (i + 1 + t) = g i (i + 1 + t)) → pbI f v i s n = pbI g v i s n := fun n h => itF_congr n (fun k hk a => by rw [h k hk])
theorem pbO_congr {f g : Nat → Nat → UInt32} {v : UInt32} {l : Nat} : ∀ n, n ≤ l → (∀ a b, a < b → b < l → f a b = g a b) → pbO f v l n = pbO g v l n := fun n hn h => itF_congr n (fun k hk a => pbI_congr _ (fun t ht => h _ _ (by omega) (by omega)))
theorem sh_c : ∀ c, c ≤ 20 → (1 : Int32) <<< (nI c &&& 31) = nI (2 ^ c) := by decide +kernel
theorem sh_n : ∀ n, n ≤ 4 → (1 : Int32) <<< (nI n &&& 31) - 1 = nI (2 ^ n - 1) := by decide +kernel
section Gets
variable {Z : xZ} {c l st len : Nat} {kp : Nat → Nat}
theorem pr_of (ns : NS Z c l st len kp) (x y : Int32) : PR mX3_of mX4_of [.int x, .int y] Z := by
  have ci := ns.ci
  have mi := ns.mi
  have c20 := ns.c20
  cases e : (isC x (Z.1 1 0) && inF y 0 5) with
  | false => exact PR.rf 0 ns (by decide) (by decide) (t_of_bad ci x y e) (u_of_bad (Z := rfZ Z 0) (c := c) (l := l) mi x y (by rw [ns.i0] at e; exact e))
  | true =>
    obtain ⟨e1, e2⟩ := and_f e
    obtain ⟨i, ic, hx⟩ := isC_n (c := c) (by omega) (by rw [← ci.1]; exact e1)
    obtain ⟨k, k5, hy⟩ := in_n (n := 5) (by decide) e2
    have e3 : isC x (Z.2.1 54 0) = true := by rw [← ns.i0]; exact e1
    rcases (show k = 0 ∨ k = 1 ∨ k = 2 ∨ k = 3 ∨ k = 4 ∨ k = 5 by omega) with rfl | rfl | rfl | rfl | rfl | rfl
    · rw [show y = 0 from hy]; exact PR.get ns (by decide) (by decide) (t_of_0 ci x hx ic e1) (u_of_0 mi x hx ic e3) (by rw [ns.a2, nR_eq (by omega)])
    · rw [show y = 1 from hy]; exact PR.get ns (by decide) (by decide) (t_of_1 ci x hx ic e1) (u_of_1 mi x hx ic e3) (by rw [ns.a2, nR_eq (by omega)])
    · rw [show y = 2 from hy]; exact PR.get ns (by decide) (by decide) (t_of_2 ci x hx ic e1) (u_of_2 mi x hx ic e3) (by rw [ns.a2, nR_eq (by omega)])
    · rw [show y = 3 from hy]; exact PR.get ns (by decide) (by decide) (t_of_3 ci x hx ic e1) (u_of_3 mi x hx ic e3) (by rw [ns.i5])
    · rw [show y = 4 from hy]; exact PR.get ns (by decide) (by decide) (t_of_4 ci x hx ic e1) (u_of_4 mi x hx ic e3) (by rw [ns.a2, ns.a3, ns.a5, fit_cut (by omega)])
    · rw [show y = 5 from hy]; exact PR.get ns (by decide) (by decide) (t_of_5 ci x hx ic e1) (u_of_5 mi x hx ic e3) (by rw [ns.a6])
theorem pr_look (ns : NS Z c l st len kp) (x y : Int32) : PR mX3_look mX4_look [.int x, .int y] Z := by
  have ci := ns.ci
  have mi := ns.mi
  cases e : (inF x 0 3 && inF y 0 12) with
  | false => exact PR.rf 0 ns (by decide) (by decide) (t_look_bad ci x y e) (u_look_bad (Z := rfZ Z 0) (c := c) (l := l) mi x y e)
  | true =>
    obtain ⟨e1, e2⟩ := and_f e
    obtain ⟨a, a3, hx⟩ := in_n (n := 3) (by decide) e1
    obtain ⟨k, k12, hy⟩ := in_n (n := 12) (by decide) e2
    exact PR.get ns (by decide) (by decide) (t_look_ok ci x y hx hy (by omega) (by omega) e1 e2) (u_look_ok mi x y hx hy (by omega) (by omega) e1 e2) (by rw [ns.a4, nE_eq (by omega)])
theorem pr_light (ns : NS Z c l st len kp) (x : Int32) : PR mX3_light mX4_light [.int x] Z := by
  have ci := ns.ci
  have mi := ns.mi
  have c20 := ns.c20
  cases e1 : isC x (Z.1 1 0) with
  | false => exact PR.rf 0 ns (by decide) (by decide) (t_light_bad ci x e1) (u_light_bad (Z := rfZ Z 0) (c := c) (l := l) mi x (by rw [ns.i0] at e1; exact e1))
  | true =>
    obtain ⟨i, ic, hx⟩ := isC_n (c := c) (by omega) (by rw [← ci.1]; exact e1)
    exact PR.get ns (by decide) (by decide) (t_light_ok ci x hx ic e1) (u_light_ok mi x hx ic (by rw [← ns.i0]; exact e1)) (by rw [ns.a2, light_cut (by omega)])
theorem pr_seen (ns : NS Z c l st len kp) (x y z : Int32) : PR mX3_seen mX4_seen [.int x, .int y, .int z] Z := by
  have ci := ns.ci
  have mi := ns.mi
  have c20 := ns.c20
  cases e : (inF x 0 3 && (isC y (Z.1 1 0) && inF z 0 2)) with
  | false => exact PR.rf 0 ns (by decide) (by decide) (t_seen_bad ci x y z e) (u_seen_bad (Z := rfZ Z 0) (c := c) (l := l) mi x y z (by rw [ns.i0] at e; exact e))
  | true =>
    obtain ⟨e1, e⟩ := and_f e
    obtain ⟨e2, e3⟩ := and_f e
    obtain ⟨a, a3, hx⟩ := in_n (n := 3) (by decide) e1
    obtain ⟨i, ic, hy⟩ := isC_n (c := c) (by omega) (by rw [← ci.1]; exact e2)
    obtain ⟨k, k2, hz⟩ := in_n (n := 2) (by decide) e3
    exact PR.get ns (by decide) (by decide) (t_seen_ok ci x y z hx hy hz (by omega) ic (by omega) e1 e2 e3) (u_seen_ok mi x y z hx hy hz (by omega) ic (by omega) e1 (by rw [← ns.i0]; exact e2) e3) (by rw [ns.a2, ns.a4, saw_cut (by omega) (by omega) (by omega)])
theorem pr_distance (ns : NS Z c l st len kp) (x y z : Int32) : PR mX3_distance mX4_distance [.int x, .int y, .int z] Z := by
  have ci := ns.ci
  have mi := ns.mi
  have c20 := ns.c20
  cases e : (inF x 0 3 && (isC y (Z.1 1 0) && isC z (Z.1 1 0))) with
  | false => exact PR.rf 0 ns (by decide) (by decide) (t_distance_bad ci x y z e) (u_distance_bad (Z := rfZ Z 0) (c := c) (l := l) mi x y z (by rw [ns.i0] at e; exact e))
  | true =>
    obtain ⟨e1, e⟩ := and_f e
    obtain ⟨e2, e3⟩ := and_f e
    obtain ⟨a, a3, hx⟩ := in_n (n := 3) (by decide) e1
    obtain ⟨i, ic, hy⟩ := isC_n (c := c) (by omega) (by rw [← ci.1]; exact e2)
    obtain ⟨j, jc, hz⟩ := isC_n (c := c) (by omega) (by rw [← ci.1]; exact e3)
    exact PR.get ns (by decide) (by decide) (t_distance_ok ci x y z hx hy hz (by omega) ic jc e1 e2 e3) (u_distance_ok mi x y z hx hy hz (by omega) ic jc e1 (by rw [← ns.i0]; exact e2) (by rw [← ns.i0]; exact e3)) (by rw [ns.a2, ns.a4, dist_cut (by omega) (by omega) (by omega)])
theorem pr_apart (ns : NS Z c l st len kp) (x y : Int32) : PR mX3_apart mX4_apart [.int x, .int y] Z := by
  have ci := ns.ci
  have mi := ns.mi
  have c20 := ns.c20
  cases e : (isC x (Z.1 1 0) && isC y (Z.1 1 0)) with
  | false => exact PR.rf 0 ns (by decide) (by decide) (t_apart_bad ci x y e) (u_apart_bad (Z := rfZ Z 0) (c := c) (l := l) mi x y (by rw [ns.i0] at e; exact e))
  | true =>
    obtain ⟨e1, e2⟩ := and_f e
    obtain ⟨i, ic, hx⟩ := isC_n (c := c) (by omega) (by rw [← ci.1]; exact e1)
    obtain ⟨j, jc, hy⟩ := isC_n (c := c) (by omega) (by rw [← ci.1]; exact e2)
    exact PR.get ns (by decide) (by decide) (t_apart_ok ci x y hx hy ic jc e1 e2) (u_apart_ok mi x y hx hy ic jc (by rw [← ns.i0]; exact e1) (by rw [← ns.i0]; exact e2)) (by rw [ns.a2, ns.a4, apart_cut (by omega) (by omega)])
theorem pr_palette (ns : NS Z c l st len kp) (x : Int32) : PR mX3_palette mX4_palette [.int x] Z := by
  have ci := ns.ci
  have mi := ns.mi
  by_cases e : x < 0
  · exact PR.rf 0 ns (by decide) (by decide) (t_palette_bad ci x e) (u_palette_bad (Z := rfZ Z 0) (c := c) (l := l) mi x e)
  · obtain ⟨i, i31, hx⟩ := nI_of e
    exact PR.get ns (by decide) (by decide) (t_palette_ok ci x hx i31 e) (u_palette_ok mi x hx i31 e) (by rw [ns.a6])
theorem pr_mistaken (ns : NS Z c l st len kp) (x y : Int32) : PR mX3_mistaken mX4_mistaken [.int x, .int y] Z := by
  have ci := ns.ci
  have mi := ns.mi
  have c20 := ns.c20
  cases e : (inF x 0 3 && inF y 0 9999) with
  | false => exact PR.rf 0 ns (by decide) (by decide) (t_mistaken_bad ci x y e) (u_mistaken_bad (Z := rfZ Z 0) (c := c) (l := l) mi x y e)
  | true =>
    obtain ⟨e1, e2⟩ := and_f e
    obtain ⟨a, a3, hx⟩ := in_n (n := 3) (by decide) e1
    have hf := mi.2.2.2.2.2.1
    refine PR.get ns (by decide) (by decide) (t_mistaken_ok ci x y hx (by omega) e1 e2) (u_mistaken_ok mi x y hx (by omega) e1 e2) ?_
    rw [ns.a2, ns.a4, ns.a6]
    refine (pbO_congr l (Nat.le_refl l) (fun p q h1 h2 => dist_cut (by omega) ?_ ?_)).symm
    · have := (hf p (by omega)).2; omega
    · have := (hf q h2).2; omega
theorem pr_count (ns : NS Z c l st len kp) (x : Int32) : PR mX3_count mX4_count [.int x] Z := by
  have ci := ns.ci
  have mi := ns.mi
  have c20 := ns.c20
  cases e : inF x 0 7 with
  | false => exact PR.rf 0 ns (by decide) (by decide) (t_count_bad ci x e) (u_count_bad (Z := rfZ Z 0) (c := c) (l := l) mi x e)
  | true =>
    obtain ⟨k, k7, hx⟩ := in_n (n := 7) (by decide) e
    rcases (show k = 0 ∨ k = 1 ∨ k = 2 ∨ k = 3 ∨ k = 4 ∨ k = 5 ∨ k = 6 ∨ k = 7 by omega) with rfl | rfl | rfl | rfl | rfl | rfl | rfl | rfl
    · rw [show x = 0 from hx]; exact PR.get ns (by decide) (by decide) (t_count_0 ci) (u_count_0 mi) ns.i0
    · rw [show x = 1 from hx]; exact PR.get ns (by decide) (by decide) (t_count_1 ci) (u_count_1 mi) (by rw [ns.a2, ns.a3, ns.a5, bc_ft c20, ftM_cut c c20])
    · rw [show x = 2 from hx]; exact PR.get ns (by decide) (by decide) (t_count_2 ci) (u_count_2 mi) ns.i5
    · rw [show x = 3 from hx]; exact PR.get ns (by decide) (by decide) (t_count_3 ci) (u_count_3 mi) ns.i7
    · rw [show x = 4 from hx]; exact PR.get ns (by decide) (by decide) (t_count_4 ci) (u_count_4 mi) (by rw [ns.a4, counts_cut])
    · rw [show x = 5 from hx]; exact PR.get ns (by decide) (by decide) (t_count_5 ci) (u_count_5 mi) (by rw [ns.a3]; rfl)
    · rw [show x = 6 from hx]; exact PR.get ns (by decide) (by decide) (t_count_6 ci) (u_count_6 mi) (by rw [ns.a3]; rfl)
    · rw [show x = 7 from hx]; exact PR.get ns (by decide) (by decide) (t_count_7 ci) (u_count_7 mi) (by rw [ns.a3]; rfl)
theorem pr_told (ns : NS Z c l st len kp) (x : Int32) : PR mX3_told mX4_told [.int x] Z := by
  have ci := ns.ci
  have mi := ns.mi
  have h44 := ns.2.2.2
  have hln : Z.1 45 1 = nI len := ci.2.2.2.2.2.2.2.2.2.2.2.1
  have hst : Z.1 0 2 = nI st := ci.2.2.2.2.2.2.2.2.1
  cases e : inF x 0 7 with
  | false => exact PR.rf 0 ns (by decide) (by decide) (t_told_bad ci x e) (u_told_bad (Z := rfZ Z 0) (c := c) (l := l) mi x e)
  | true =>
    obtain ⟨k, k7, hx⟩ := in_n (n := 7) (by decide) e
    rcases (show k = 0 ∨ k = 1 ∨ k = 2 ∨ k = 3 ∨ k = 4 ∨ k = 5 ∨ k = 6 ∨ k = 7 by omega) with rfl | rfl | rfl | rfl | rfl | rfl | rfl | rfl
    · rw [show x = 0 from hx]; exact PR.get ns (by decide) (by decide) (t_told_0 ci) (u_told_0 mi) (by rw [h44])
    · rw [show x = 1 from hx]; exact PR.get ns (by decide) (by decide) (t_told_1 ci) (u_told_1 mi) (by rw [h44])
    · rw [show x = 2 from hx]; exact PR.get ns (by decide) (by decide) (t_told_2 ci) (u_told_2 mi) (by rw [h44])
    · rw [show x = 3 from hx]; exact PR.get ns (by decide) (by decide) (t_told_3 ci) (u_told_3 mi) (by rw [ns.a5]; rfl)
    · rw [show x = 4 from hx]; exact PR.get ns (by decide) (by decide) (t_told_4 ci) (u_told_4 mi) (by rw [ns.a5]; rfl)
    · rw [show x = 5 from hx]; exact PR.get ns (by decide) (by decide) (t_told_5 ci) (u_told_5 mi) (by rw [ns.a5]; rfl)
    · rw [show x = 6 from hx]; exact PR.get ns (by decide) (by decide) (t_told_6 ci) (u_told_6 mi) (by rw [hln, ns.ln])
    · rw [show x = 7 from hx]; exact PR.get ns (by decide) (by decide) (t_told_7 ci) (u_told_7 mi) (by rw [hst, ns.st3])
/-- those that measure first -/
theorem pr_least (ns : NS Z c l st len kp) : PR mX3_least mX4_least [] Z := by
  refine PR.mk (by decide) (t_least ns.ci) (fun r h1 hq => ?_)
  obtain ⟨rfl, G, rfl⟩ := hq
  refine ⟨_, _, 8, _, rfl, rfl, by decide, u_least (Z := sF Z 51 G) (c := c) (l := l) ns.mi, fun r2 h2 hq => ?_⟩
  obtain ⟨rfl, G2, S, rfl⟩ := hq
  refine ⟨?_, _, ?_, rfl⟩
  · rw [ns.a2, ns.a4, ns.a6]; rfl
  · exact SIM_junk ns.sim (fun a j h _ => sI_2 Z _ (by omega)) rfl rfl (fun a h => sA_2 Z _ (by omega)) rfl
theorem pr_nearest (ns : NS Z c l st len kp) : PR mX3_nearest mX4_nearest [] Z := by
  refine PR.mk (by decide) (t_nearest ns.ci) (fun r h1 hq => ?_)
  obtain ⟨rfl, G, rfl⟩ := hq
  refine ⟨_, _, 8, _, rfl, rfl, by decide, u_nearest (Z := sF Z 51 G) (c := c) (l := l) ns.mi, fun r2 h2 hq => ?_⟩
  obtain ⟨rfl, G2, rfl⟩ := hq
  refine ⟨?_, _, ?_, rfl⟩
  · rw [ns.a2, ns.a4, ns.a6]; rfl
  · exact SIM_junk ns.sim (fun a j h _ => sI_2 Z _ (by omega)) rfl rfl (fun a h => rfl) rfl
theorem pr_best (ns : NS Z c l st len kp) (x : Int32) : PR mX3_best mX4_best [.int x] Z := by
  cases e : inF x 1 4 with
  | false => exact PR.rf 0 ns (by decide) (by decide) (t_best_bad ns.ci x e) (u_best_bad (Z := rfZ Z 0) (c := c) (l := l) ns.mi x e)
  | true =>
    obtain ⟨g1, g2⟩ := inF_iff.mp e
    obtain ⟨u, u4, hx⟩ := nI_of2 (M := 4) (n := 4) (by decide) (Int32.not_lt.mpr (Int32.le_trans (by decide) g1)) g2
    have u1 : 1 ≤ u := by rw [hx, show (1 : Int32) = nI 1 from rfl, nI_leI (by omega) (by omega)] at g1; exact g1
    refine PR.mk (by decide) (t_best_ok ns.ci x e) (fun r h1 hq => ?_)
    obtain ⟨rfl, G, mem, rfl⟩ := hq
    refine ⟨_, _, 8, _, rfl, rfl, by decide, u_best_ok (Z := sA (sF Z 51 G) 52 mem) (c := c) (l := l) ns.mi x hx u1 u4 e, fun r2 h2 hq => ?_⟩
    obtain ⟨⟨b, m, rfl, ha⟩, G2, S, rfl⟩ := hq
    refine ⟨?_, _, ?_, rfl⟩
    case refine_2 => exact SIM_junk ns.sim (fun a j h _ => sI_2 Z _ (by omega)) rfl rfl (fun a h => (sA_2 (sA Z 52 mem) _ (by omega)).trans (sA_2 Z _ (by omega))) rfl
    obtain ⟨m2, hb⟩ := bs_all (ap := apG (nE (Z.2.1 54)) (nR (Z.2.1 54))) (al := fbF (nR (Z.2.1 54)) (nG (Z.2.1 54)) (nL (Z.2.1 54)) c ||| Z.2.1 54 61) (fx := Z.2.1 54 61) u1 u4 ns.c20
    rw [ns.a2, ns.a3, ns.a4, ns.a5, ns.i5, ns.i0, ns.cN, sh_c c ns.c20, hx, sh_n u u4]
    rw [ARG.one ha hb]
end Gets
