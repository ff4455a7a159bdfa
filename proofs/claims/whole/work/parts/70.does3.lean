/-! Both sides together: does -/
theorem SIMx_junk {Z W : xZ} {c l st len : Nat} {kp : Nat → Nat} (s : SIMx Z c l st len kp) (h1 : ∀ a j, a < 53 → (a ≠ 45 ∨ j = 1) → W.1 a j = Z.1 a j) (h3 : W.1 53 3 = Z.1 53 3) (h6 : W.1 53 6 = Z.1 53 6) (h2 : ∀ a, a < 47 ∨ (53 < a ∧ a ≠ 55 ∧ a < 60) → W.2.1 a = Z.2.1 a) (hr : W.2.2.2.1 = Z.2.2.2.1) : SIMx W c l st len kp := by
  obtain ⟨ci, h54, g3, g6, h57, h58, hp⟩ := s
  have fr : FR W Z := ⟨fun a j _ _ => h1 a j (by omega) (by omega), fun a _ _ => h2 a (by omega)⟩
  have hk := ci.2.2.2.2.2.2.2.2.2.2.1
  have st5 := ci.2.2.2.2.2.2.2.2.2.1
  have sc : ∀ i, i < 129 → scV W 1 i = scV Z 1 i := fun i _ => by
    unfold scV
    rw [h1 1 0 (by omega) (by omega), h1 1 5 (by omega) (by omega), h1 1 7 (by omega) (by omega), h2 (1 + 1) (by omega), h2 (1 + 2) (by omega), h2 (1 + 3) (by omega), h2 (1 + 4) (by omega), h2 (1 + 5) (by omega)]
  refine ⟨CI_of (ci.mi.congr sc) (by rw [h1 0 2 (by omega) (by omega)]; exact ci.2.2.2.2.2.2.2.2.1) st5 (hk.of hr) (by rw [h1 45 1 (by omega) (by omega)]; exact ci.2.2.2.2.2.2.2.2.2.2.2.1) ci.2.2.2.2.2.2.2.2.2.2.2.2, fun i hi => by rw [h2 54 (by omega), h54 i hi, sc i hi], by rw [h3]; exact g3, by rw [h6]; exact g6, fun k hk => by rw [h2 57 (by omega), h2 44 (by omega)]; exact h57 k hk, fun k hk => by rw [h2 58 (by omega), h2 46 (by omega)]; exact h58 k hk, ?_⟩
  rw [h2 56 (by omega)]
  exact hp.fr fr (fun j hj => (hk.1 j (by omega)).1)
/-- what orders leave as it was -/
def OF (W V : xZ) : Prop := (∀ x y, x ≠ 1 → V.1 x y = W.1 x y) ∧ (∀ x, x ≠ 2 → x ≠ 5 → x ≠ 6 → V.2.1 x = W.2.1 x) ∧ V.2.2.2 = W.2.2.2
theorem OF.rf {W : xZ} : OF W W := ⟨fun _ _ _ => rfl, fun _ _ _ _ => rfl, rfl⟩
theorem OF.tr {U V W : xZ} (h : OF U V) (g : OF V W) : OF U W := ⟨fun x y q => (g.1 x y q).trans (h.1 x y q), fun x a b c => (g.2.1 x a b c).trans (h.2.1 x a b c), g.2.2.trans h.2.2⟩
theorem OF.fr {U V : xZ} (h : OF U V) : FR V U := ⟨fun a j h1 h2 => h.1 a j (by omega), fun a h1 h2 => h.2.1 a (by omega) (by omega) (by omega)⟩
section Run
variable {kn f1 f2 : Nat → Int32} {q m : Nat} {Ws : Nat → xZ} {N0 : Nat → Int32}
/-- as far as the one goes, the other goes -/
theorem run_to (mq : m ≤ q) (h6 : ∀ j, j < q → kn j = 99 → six (f1 j)) (n0 : NRM (Ws 0) N0) (m0 : ∃ c l, MI N0 c l) (hs : ∀ j, 0 ≤ j → j < m → woF (kn j) (f1 j) (f2 j) ((Ws j).1 1 0) ((Ws j).1 1 5) = 0 ∧ OBr (kn j) (f1 j) (f2 j) (Ws j) (Ws (j + 1))) : ∀ j, j ≤ m → ∃ N, runN kn f1 f2 q 0 N0 = runN kn f1 f2 (q - j) j N ∧ NRM (Ws j) N ∧ (∃ c l, MI N c l) ∧ OF (Ws 0) (Ws j)
  | 0, _ => ⟨N0, by rw [Nat.sub_zero], n0, m0, OF.rf⟩
  | j + 1, hj => by
    obtain ⟨N, e, nr, ⟨c, l, mi⟩, fr⟩ := run_to mq h6 n0 m0 hs j (by omega)
    obtain ⟨w1, w2⟩ := hs j (Nat.zero_le j) (by omega)
    have ok := (wo_ok (kd := kn j) (a := f1 j) (b := f2 j) nr mi).mp w1
    refine ⟨nxN (kn j) (f1 j) (f2 j) N, ?_, ob_nx nr mi (h6 j (by omega)) ok w2, MI_next mi (h6 j (by omega)) ok, fr.tr (OBr_fr w2)⟩
    rw [e, show q - j = (q - (j + 1)) + 1 by omega, runN_t ok]
end Run
/-- keeping what was noted, whatever the scene has become -/
theorem KN_lv {V W Y : xZ} {st : Nat} {kp : Nat → Nat} (st5 : st ≤ 5) (hst : V.1 0 2 = nI st) (hk : keptIs V kp) (fr : OF (becZ V (8 + 6 * kp st) 1) W) (kn : KNr st W Y) : ∃ Y0, LV st V Y0 ∧ OF Y0 Y ∧ (∀ j, Y.1 1 j = W.1 1 j) ∧ Y.2.1 = W.2.1 := by
  rcases kn with ⟨s5, rfl⟩ | ⟨s5, kp', hk', rfl⟩
  · refine ⟨_, LV_1 s5 hk, ⟨fun x y h => ?_, fr.2.1, fr.2.2⟩, fun j => sI_2 W _ (by omega), rfl⟩
    by_cases e : x = 0 ∧ y = 2
    · obtain ⟨rfl, rfl⟩ := e; rw [sI_1, sI_1]
    · rw [sI_2 W _ (by omega), sI_2 _ _ (by omega)]; exact fr.1 x y h
  · subst s5
    have e3 : W.2.2.2.1 = V.2.2.2.1 := congrArg (·.1) fr.2.2
    have hk2 : keptIs V kp' := hk'.of e3.symm
    have e5 : kp' 5 = kp 5 := by
      have h1 := (hk.1 5 (by omega)).2
      have h2 := (hk2.1 5 (by omega)).2
      rw [h1] at h2
      have := Option.some.inj h2
      omega
    refine ⟨_, LV_2 hst hk2, ⟨fun x y h => ?_, fun x h1 h2 h3 => ?_, ?_⟩, fun j => rfl, rfl⟩
    · rw [e5]; exact fr.1 x y h
    · rw [e5]; exact fr.2.1 x h1 h2 h3
    · rw [e5]
      show (va_up W.2.2.2.1 7 (rotF (W.2.2.2.1 7) _ _ _ _ _ _), W.2.2.2.2) = (va_up V.2.2.2.1 7 (rotF (V.2.2.2.1 7) _ _ _ _ _ _), V.2.2.2.2)
      rw [e3, show W.2.2.2.2 = V.2.2.2.2 from congrArg (·.2) fr.2.2]
section Does
variable {Z : xZ} {c l st len : Nat} {kp : Nat → Nat}
theorem NRM.bec {V : xZ} {N : Nat → Int32} (h : NRM V N) {j : Nat} : NRM (becZ V (8 + 6 * j) 1) N := h.of (fun k => bec_Io V (by omega)) (fun a ha => bec_Ao V (by omega))
theorem pr_does (ns : NS Z c l st len kp) : PR mX3_does mX4_does [] Z := by
  have l120 := ns.l120
  have st5 := ns.st5
  have hk : keptIs Z kp := ns.ci.2.2.2.2.2.2.2.2.2.2.1
  have hst : Z.1 0 2 = nI st := ns.ci.2.2.2.2.2.2.2.2.1
  refine PR.mk (by decide) (t_does ns.ci) (fun r h1 hq => ?_)
  obtain ⟨fl, q, kk, kn, f1, f2, V, hrd, scr, q60, hc⟩ := hq
  rw [ns.2.2.1] at hrd
  have h6 : ∀ j, j < q → kn j = 99 → six (f1 j) := by
    have := rdAll_six (b := Z.2.1 58) (len := len) (kn := Z.2.1 47) (f1 := Z.2.1 48) (f2 := Z.2.1 49)
    rw [hrd] at this; exact this
  have sV : SIMx V c l st len kp := SIMx_junk ns.1 (fun a j h g => scr.1 a j g) (scr.1 53 3 (by omega)) (scr.1 53 6 (by omega)) (fun a h => scr.2.1 a (by omega) (by omega) (by omega)) (by rw [scr.2.2])
  have nV : NRM V (Z.2.1 54) := ns.2.1.of (fun j => scr.1 1 j (by omega)) (fun a ha => scr.2.1 a (by omega) (by omega) (by omega))
  have kV : keptIs V kp := hk.of (by rw [scr.2.2])
  have k6 := (hk.1 st (by omega)).1
  rcases hc with ⟨nf, rfl, rfl⟩ | ⟨rfl, hd⟩
  · refine ⟨_, _, 8, _, rfl, rfl, by decide, u_does (Z := V) (kn := Z.2.1 47) (f1 := Z.2.1 48) (f2 := Z.2.1 49) (len := len) (st := st) (c := c) (l := l) sV.mi sV.2.2.2.1 l120 sV.2.2.1 st5 (by rw [scr.2.1 58 (by omega) (by omega) (by omega), hrd]; exact q60) (by rw [scr.2.1 58 (by omega) (by omega) (by omega), hrd]; exact h6), fun r2 h2 hq => ?_⟩
    rw [scr.2.1 58 (by omega) (by omega) (by omega), hrd] at hq
    rcases hq with ⟨-, rfl, V2, md, v54, v56, v3, rfl⟩ | ⟨e, -⟩
    · refine ⟨rfl, _, ⟨c, l, st, len, kp, SIMx_junk sV (fun a j h _ => md.1 a j (by omega)) v3 (md.1 53 6 (by omega)) (fun a h => ?_) (by rw [md.2.2])⟩, rfl⟩
      by_cases e4 : a = 54
      · subst e4; exact v54
      by_cases e6 : a = 56
      · subst e6; exact v56
      exact md.2.1 a e4 (by omega) e6 (by omega) (by omega) (by omega)
    · exact absurd e nf
  · obtain ⟨Ws, m, w0, -, mq, hs, hr⟩ := hd
    obtain ⟨N, eN, nr, ⟨cN', lN', mN⟩, fr⟩ := run_to mq h6 (by rw [w0]; exact nV.bec) ⟨c, l, ns.mi⟩ hs m (Nat.le_refl m)
    rw [w0] at fr
    have b8 : ∀ a, 44 ≤ a → (becZ V (8 + 6 * kp st) 1).2.1 a = V.2.1 a := fun a ha => bec_Ao V (by omega)
    have b8i : ∀ a j, 44 ≤ a → (becZ V (8 + 6 * kp st) 1).1 a j = V.1 a j := fun a j ha => bec_Io V (by omega)
    rcases hr with ⟨rfl, rfl, Y, hkn, rfl⟩ | ⟨mlt, nok, rfl, rfl⟩
    · obtain ⟨Y0, lv, of, y1, y2⟩ := KN_lv st5 (by rw [scr.1 0 2 (by omega)]; exact hst) kV fr hkn
      have g : ∀ a, 44 ≤ a → Y.2.1 a = Z.2.1 a ∨ a = 47 ∨ a = 48 ∨ a = 49 := fun a ha => by
        by_cases e : a = 47 ∨ a = 48 ∨ a = 49
        · exact Or.inr e
        · exact Or.inl (by rw [of.2.1 a (by omega) (by omega) (by omega), lv.2.1 a (by omega), scr.2.1 a (by omega) (by omega) (by omega)])
      have g54 : Y.2.1 54 = Z.2.1 54 := (g 54 (by omega)).resolve_right (by omega)
      have g56 : Y.2.1 56 = V.2.1 56 := by rw [of.2.1 56 (by omega) (by omega) (by omega), lv.2.1 56 (by omega)]
      have g58 : Y.2.1 58 = Z.2.1 58 := (g 58 (by omega)).resolve_right (by omega)
      have gi : ∀ a j, 44 ≤ a → Y.1 a j = V.1 a j := fun a j ha => by rw [of.1 a j (by omega), lv.1 a j (by omega)]
      refine ⟨_, _, 8, _, rfl, rfl, by decide, u_does (Z := Y) (kn := Z.2.1 47) (f1 := Z.2.1 48) (f2 := Z.2.1 49) (len := len) (st := st) (c := c) (l := l) (by rw [g54]; exact ns.mi) (by rw [gi 53 6 (by omega)]; exact sV.2.2.2.1) l120 (by rw [gi 53 3 (by omega)]; exact sV.2.2.1) st5 (by rw [g58, hrd]; exact q60) (by rw [g58, hrd]; exact h6), fun r2 h2 hq => ?_⟩
      rw [g58, hrd, g54] at hq
      rcases hq with ⟨nf, -⟩ | ⟨-, hq⟩
      · exact absurd rfl nf
      · have eN : runN kn f1 f2 m 0 (Z.2.1 54) = (m, N) := by rw [eN, Nat.sub_self]; rfl
        have hq : DNr st Y (Z.2.1 54) m (runN kn f1 f2 m 0 (Z.2.1 54)) r2 h2 := hq
        rw [eN] at hq
        rcases hq with ⟨-, rfl, U, rfl, md, u54, u3, uQ⟩ | ⟨lt, -⟩
        · refine ⟨rfl, U, ?_, rfl⟩
          have e54 : V.2.1 54 = Z.2.1 54 := scr.2.1 54 (by omega) (by omega) (by omega)
          have uQ : RMB st (V.2.1 54) (V.2.1 56) (U.2.1 56) := by rw [e54, ← g56]; exact uQ
          obtain ⟨kp', ci, hp⟩ := LV.go sV lv
          have hk' : keptIs Y0 kp' := ci.2.2.2.2.2.2.2.2.2.2.1
          have s5' : nst st ≤ 5 := ci.2.2.2.2.2.2.2.2.2.1
          have ui : ∀ a j, a ≠ 53 → U.1 a j = Y.1 a j := fun a j h => md.1 a j (Or.inl h)
          have ua : ∀ a, a < 54 → U.2.1 a = Y.2.1 a := fun a h => md.2.1 a (by omega) (by omega) (by omega) (by omega) (by omega) (by omega)
          have nU : NRM U N := nr.of (fun j => by rw [ui 1 j (by omega), y1]) (fun a ha => by rw [ua a (by omega), y2])
          have frU : FR U Y0 := FR.tr ⟨fun a j _ _ => ui a j (by omega), fun a _ _ => ua a (by omega)⟩ of.fr
          have r3 : U.2.2.2.1 = Y0.2.2.2.1 := by rw [md.2.2, of.2.2]
          refine ⟨cN', lN', nst st, len, kp', CI_of (mN.congr (fun i hi => (nU.sc i hi).symm)) (by rw [ui 0 2 (by omega), of.1 0 2 (by omega)]; exact lv.2.2.2.2.1) s5' (hk'.of r3) (by rw [ui 45 1 (by omega), gi 45 1 (by omega)]; exact sV.1.2.2.2.2.2.2.2.2.2.2.2.1) l120, fun i hi => by rw [u54 i hi]; exact nU.sc i hi, u3, by rw [md.1 53 6 (by omega), gi 53 6 (by omega)]; exact sV.2.2.2.1, fun k hk => ?_, fun k hk => ?_, (hp _ uQ).fr frU (fun j hj => (hk'.1 j (by omega)).1)⟩
          · rw [md.2.1 57 (by omega) (by omega) (by omega) (by omega) (by omega) (by omega), ua 44 (by omega), (g 57 (by omega)).resolve_right (by omega), (g 44 (by omega)).resolve_right (by omega)]; exact ns.1.2.2.2.2.1 k hk
          · rw [md.2.1 58 (by omega) (by omega) (by omega) (by omega) (by omega) (by omega), ua 46 (by omega), (g 58 (by omega)).resolve_right (by omega), (g 46 (by omega)).resolve_right (by omega)]; exact ns.1.2.2.2.2.2.1 k hk
        · exact absurd lt (Nat.lt_irrefl m)
    · have e0 : okN (kn m) (f1 m) (f2 m) N = false := by
        cases h : okN (kn m) (f1 m) (f2 m) N with
        | false => rfl
        | true => exact absurd ((wo_ok nr mN).mpr h) nok
      have eN : runN kn f1 f2 q 0 (Z.2.1 54) = (m, N) := by rw [eN, show q - m = (q - (m + 1)) + 1 by omega, runN_f e0]
      have ga : ∀ a, 7 ≤ a → (becZ (Ws m) 1 (8 + 6 * kp st)).2.1 a = (becZ V (8 + 6 * kp st) 1).2.1 a := fun a ha => by rw [bec_Ao (Ws m) (by omega)]; exact fr.2.1 a (by omega) (by omega) (by omega)
      have gi : ∀ a j, a ≠ 1 → (becZ (Ws m) 1 (8 + 6 * kp st)).1 a j = (becZ V (8 + 6 * kp st) 1).1 a j := fun a j ha => by rw [bec_Io (Ws m) (by omega)]; exact fr.1 a j ha
      have gr : (becZ (Ws m) 1 (8 + 6 * kp st)).2.2.2 = V.2.2.2 := fr.2.2
      have sc1 : ∀ i, i < 129 → scV (becZ (Ws m) 1 (8 + 6 * kp st)) 1 i = Z.2.1 54 i := fun i hi => by
        rw [bec_self _ _ _ i hi, fr.fr.sc k6, bec_self _ _ _ i hi]; exact (nV.sc i hi).symm
      have frK : FR (becZ (Ws m) 1 (8 + 6 * kp st)) (becZ V (8 + 6 * kp st) 1) := ⟨fun a j _ _ => gi a j (by omega), fun a _ _ => ga a (by omega)⟩
      generalize becZ (Ws m) 1 (8 + 6 * kp st) = Y at ga gi gr sc1 frK ⊢
      have g44 : ∀ a, 44 ≤ a → Y.2.1 a = V.2.1 a := fun a ha => by rw [ga a (by omega), b8 a ha]
      have i44 : ∀ a j, 44 ≤ a → Y.1 a j = V.1 a j := fun a j ha => by rw [gi a j (by omega), b8i a j ha]
      have g54 : Y.2.1 54 = Z.2.1 54 := by rw [g44 54 (by omega), scr.2.1 54 (by omega) (by omega) (by omega)]
      have g58 : Y.2.1 58 = Z.2.1 58 := by rw [g44 58 (by omega), scr.2.1 58 (by omega) (by omega) (by omega)]
      refine ⟨_, _, 8, _, rfl, rfl, by decide, u_does (Z := Y) (kn := Z.2.1 47) (f1 := Z.2.1 48) (f2 := Z.2.1 49) (len := len) (st := st) (c := c) (l := l) (by rw [g54]; exact ns.mi) (by rw [i44 53 6 (by omega)]; exact sV.2.2.2.1) l120 (by rw [i44 53 3 (by omega)]; exact sV.2.2.1) st5 (by rw [g58, hrd]; exact q60) (by rw [g58, hrd]; exact h6), fun r2 h2 hq => ?_⟩
      rw [g58, hrd, g54] at hq
      rcases hq with ⟨nf, -⟩ | ⟨-, hq⟩
      · exact absurd rfl nf
      · have hq : DNr st Y (Z.2.1 54) q (runN kn f1 f2 q 0 (Z.2.1 54)) r2 h2 := hq
        rw [eN] at hq
        rcases hq with ⟨e, -⟩ | ⟨-, rfl, U, rfl, md, u54, u3, u56⟩
        · have e : m = q := e
          omega
        · refine ⟨rfl, U, ?_, rfl⟩
          have ui : ∀ a j, a ≠ 53 → U.1 a j = Y.1 a j := fun a j h => md.1 a j (Or.inl h)
          have ua : ∀ a, a < 54 → U.2.1 a = Y.2.1 a := fun a h => md.2.1 a (by omega) (by omega) (by omega) (by omega) (by omega) (by omega)
          have scU : ∀ i, i < 129 → scV U 1 i = Z.2.1 54 i := fun i hi => by
            rw [← sc1 i hi]
            unfold scV
            rw [ui 1 0 (by omega), ui 1 5 (by omega), ui 1 7 (by omega), ua (1 + 1) (by omega), ua (1 + 2) (by omega), ua (1 + 3) (by omega), ua (1 + 4) (by omega), ua (1 + 5) (by omega)]
          have frU : FR U (becZ V (8 + 6 * kp st) 1) := FR.tr ⟨fun a j _ _ => ui a j (by omega), fun a _ _ => ua a (by omega)⟩ frK
          refine ⟨c, l, st, len, kp, CI_of (ns.mi.congr scU) (by rw [ui 0 2 (by omega), gi 0 2 (by omega), bec_Io V (by omega), scr.1 0 2 (by omega)]; exact hst) st5 (kV.of (by rw [md.2.2, gr])) (by rw [ui 45 1 (by omega), i44 45 1 (by omega)]; exact sV.1.2.2.2.2.2.2.2.2.2.2.2.1) l120, fun i hi => by rw [u54 i hi, scU i hi], by rw [u3, i44 53 3 (by omega)]; exact sV.2.2.1, by rw [md.1 53 6 (by omega), i44 53 6 (by omega)]; exact sV.2.2.2.1, fun k hk => ?_, fun k hk => ?_, ?_⟩
          · rw [md.2.1 57 (by omega) (by omega) (by omega) (by omega) (by omega) (by omega), ua 44 (by omega), g44 57 (by omega), g44 44 (by omega)]; exact sV.2.2.2.2.1 k hk
          · rw [md.2.1 58 (by omega) (by omega) (by omega) (by omega) (by omega) (by omega), ua 46 (by omega), g44 58 (by omega), g44 46 (by omega)]; exact sV.2.2.2.2.2.1 k hk
          · rw [u56, g44 56 (by omega)]
            intro j hj
            refine ⟨fun i hi => ?_, (sV.2.2.2.2.2.2 j hj).2⟩
            have nj : kp j ≠ kp st := hk.2 j st hj (by omega)
            rw [frU.sc (hk.1 j (by omega)).1, bec_other V (by omega) i hi]
            exact (sV.2.2.2.2.2.2 j hj).1 i hi
end Does
