/-! Both sides together: a call of each -/
abbrev nst (st : Nat) : Nat := if st < 5 then st + 1 else 5
theorem LV.go {Z Y : xZ} {c l st len : Nat} {kp : Nat → Nat} (s : SIMx Z c l st len kp) (lv : LV st Z Y) : ∃ kp', CI Y c l (nst st) len kp' ∧ ∀ Q, RMB st (Z.2.1 54) (Z.2.1 56) Q → PST Y Q (nst st) kp' := by
  obtain ⟨ci, h54, h3, h6, h57, h58, hp⟩ := id s
  have mi := s.mi
  obtain ⟨hc, c20, hl, l8, ok, hf, hdi, hfb, hst, st5, hk, hlen, l120⟩ := ci
  obtain ⟨kp', h1, hA, hB⟩ := lv.2.2.2.2.2 kp hk
  have e2 := lv.2.1 2 (by omega)
  have e3 := lv.2.1 3 (by omega)
  have e4 := lv.2.1 4 (by omega)
  have e5 := lv.2.1 5 (by omega)
  have e6 := lv.2.1 6 (by omega)
  refine ⟨kp', ⟨by rw [lv.1 1 0 (by omega)]; exact hc, c20, by rw [lv.1 1 7 (by omega)]; exact hl, l8, by rw [e2, e3, e4, e5]; exact ok, by rw [e6]; exact hf, by rw [e6]; exact hdi, by rw [lv.1 1 5 (by omega)]; exact hfb, lv.2.2.2.2.1, by unfold nst; split <;> omega, h1, by rw [lv.1 45 1 (by omega)]; exact hlen, l120⟩, fun Q hQ => ?_⟩
  by_cases q : st < 5
  · have en : nst st = st + 1 := if_pos q
    rw [en]
    obtain ⟨a1, a2⟩ := hA q
    obtain ⟨b1, b2⟩ := hQ.1 q
    intro j hj
    rcases Nat.lt_or_ge j st with g | g
    · obtain ⟨p1, c', l', p2⟩ := hp j g
      have eq : ∀ i, i < 129 → Q (129 * j + i) = Z.2.1 56 (129 * j + i) := fun i hi => b1 _ (by omega)
      exact ⟨fun i hi => by rw [eq i hi, p1 i hi, a1 j g i hi], c', l', p2.congr eq⟩
    · have ej : j = st := by omega
      subst ej
      exact ⟨fun i hi => by rw [b2 i hi, h54 i hi, a2 i hi], c, l, mi.congr b2⟩
  · have en : nst st = 5 := if_neg q
    rw [en]
    obtain ⟨a1, a2⟩ := hB q
    obtain ⟨b1, b2⟩ := hQ.2 q
    intro j hj
    rcases Nat.lt_or_ge j 4 with g | g
    · obtain ⟨p1, c', l', p2⟩ := hp (j + 1) (by omega)
      have eq : ∀ i, i < 129 → Q (129 * j + i) = Z.2.1 56 (129 * (j + 1) + i) := fun i hi => by rw [b1 _ (by omega), show 129 * j + i + 129 = 129 * (j + 1) + i by omega]
      exact ⟨fun i hi => by rw [eq i hi, p1 i hi, a1 j g i hi], c', l', p2.congr eq⟩
    · have ej : j = 4 := by omega
      subst ej
      exact ⟨fun i hi => by rw [show 129 * 4 + i = 516 + i from rfl, b2 i hi, h54 i hi, a2 i hi], c, l, mi.congr b2⟩
/-- behind a call that leaves a STATE -/
theorem SIM_wr {Z Y W : xZ} {c l st len : Nat} {kp : Nat → Nat} (ns : NS Z c l st len kp) (lv : LV st Z Y) {c' l' : Nat} (hC : ∀ kp', CI Y c l (nst st) len kp' → CI W c' l' (nst st) len kp') (fr : FR W Y) (hQ : RMB st (Z.2.1 54) (Z.2.1 56) (W.2.1 56)) (hn : NRM W (W.2.1 54)) (h3 : W.1 53 3 = nI (nst st)) (h6 : W.1 53 6 = Y.1 53 6) (h57 : W.2.1 57 = Y.2.1 57) (h44 : W.2.1 44 = Y.2.1 44) (h58 : W.2.1 58 = Y.2.1 58) (h46 : W.2.1 46 = Y.2.1 46) : SIM W := by
  obtain ⟨s, nr, e46, e44⟩ := ns
  obtain ⟨kp', ci, hp⟩ := LV.go s lv
  have ci2 := hC kp' ci
  have hk := ci2.2.2.2.2.2.2.2.2.2.2.1
  have st5 := ci2.2.2.2.2.2.2.2.2.2.1
  refine ⟨c', l', nst st, len, kp', ci2, hn.sc, h3, by rw [h6, lv.1 53 6 (by omega)]; exact s.2.2.2.1, fun k hk => ?_, fun k hk => ?_, (hp _ hQ).fr fr (fun j hj => (hk.1 j (by omega)).1)⟩
  · rw [h57, h44, lv.2.1 57 (by omega), lv.2.1 44 (by omega), e44]
  · rw [h58, h46, lv.2.1 58 (by omega), lv.2.1 46 (by omega), e46]
/-- what is neither asked for nor kept may change -/
theorem SIM_junk {Z W : xZ} (s : SIM Z) (h1 : ∀ a j, a < 53 → (a ≠ 45 ∨ j = 1) → W.1 a j = Z.1 a j) (h3 : W.1 53 3 = Z.1 53 3) (h6 : W.1 53 6 = Z.1 53 6) (h2 : ∀ a, a < 47 ∨ (53 < a ∧ a ≠ 55 ∧ a < 60) → W.2.1 a = Z.2.1 a) (hr : W.2.2.2.1 = Z.2.2.2.1) : SIM W := by
  obtain ⟨c, l, st, len, kp, ci, h54, g3, g6, h57, h58, hp⟩ := s
  have fr : FR W Z := ⟨fun a j _ _ => h1 a j (by omega) (by omega), fun a _ _ => h2 a (by omega)⟩
  have hk := ci.2.2.2.2.2.2.2.2.2.2.1
  have st5 := ci.2.2.2.2.2.2.2.2.2.1
  have sc : ∀ i, i < 129 → scV W 1 i = scV Z 1 i := fun i _ => by
    unfold scV
    rw [h1 1 0 (by omega) (by omega), h1 1 5 (by omega) (by omega), h1 1 7 (by omega) (by omega), h2 (1 + 1) (by omega), h2 (1 + 2) (by omega), h2 (1 + 3) (by omega), h2 (1 + 4) (by omega), h2 (1 + 5) (by omega)]
  refine ⟨c, l, st, len, kp, CI_of (ci.mi.congr sc) (by rw [h1 0 2 (by omega) (by omega)]; exact ci.2.2.2.2.2.2.2.2.1) st5 (hk.of hr) (by rw [h1 45 1 (by omega) (by omega)]; exact ci.2.2.2.2.2.2.2.2.2.2.2.1) ci.2.2.2.2.2.2.2.2.2.2.2.2, fun i hi => by rw [h2 54 (by omega), h54 i hi, sc i hi], by rw [h3]; exact g3, by rw [h6]; exact g6, fun k hk => by rw [h2 57 (by omega), h2 44 (by omega)]; exact h57 k hk, fun k hk => by rw [h2 58 (by omega), h2 46 (by omega)]; exact h58 k hk, ?_⟩
  rw [h2 56 (by omega)]
  exact hp.fr fr (fun j hj => (hk.1 j (by omega)).1)
/-- a call of the one, then the same of the other: the same answer -/
def PR (cM kM : xM) (args : List Value) (Z : xZ) : Prop := XC cM 9 0 0 (.ref 0 :: args) (HP Z) (fun r h1 => ∃ x Y, r = some (.int x) ∧ h1 = HP Y ∧ XC kM 9 0 0 (.ref 53 :: args) (HP Y) (fun r2 h2 => r2 = some (.int x) ∧ ∃ W, SIM W ∧ h2 = HP W))
theorem PR.mk {cM kM : xM} {args : List Value} {Z : xZ} {P1 : Option Value → xH → Prop} {dc : Nat} (hd : dc ≤ 9) (hc : XC cM dc 0 0 (.ref 0 :: args) (HP Z) P1) (k : ∀ r h1, P1 r h1 → ∃ (x : Int32) (Y : xZ) (dk : Nat) (P2 : Option Value → xH → Prop), r = some (.int x) ∧ h1 = HP Y ∧ dk ≤ 9 ∧ XC kM dk 0 0 (.ref 53 :: args) (HP Y) P2 ∧ ∀ r2 h2, P2 r2 h2 → r2 = some (.int x) ∧ ∃ W, SIM W ∧ h2 = HP W) : PR cM kM args Z := by
  refine XW.post (XW.deep hd hc) (fun r h1 hp => ?_)
  obtain ⟨x, Y, dk, P2, e1, e2, e3, e4, e5⟩ := k r h1 hp
  exact ⟨x, Y, e1, e2, XW.post (XW.deep e3 e4) e5⟩
section Pr
variable {cM kM : xM} {args : List Value} {Z : xZ} {c l st len dc dk : Nat} {kp : Nat → Nat}
theorem NS.sim (ns : NS Z c l st len kp) : SIM Z := ⟨c, l, st, len, kp, ns.1⟩
theorem NS.ci (ns : NS Z c l st len kp) : CI Z c l st len kp := ns.1.1
theorem NS.mi (ns : NS Z c l st len kp) : MI (Z.2.1 54) c l := ns.1.mi
theorem NS.st3 (ns : NS Z c l st len kp) : Z.1 53 3 = nI st := ns.1.2.2.1
theorem NS.ln (ns : NS Z c l st len kp) : Z.1 53 6 = nI len := ns.1.2.2.2.1
theorem NS.st5 (ns : NS Z c l st len kp) : st ≤ 5 := ns.1.1.2.2.2.2.2.2.2.2.2.1
theorem NS.l120 (ns : NS Z c l st len kp) : len ≤ 120 := ns.1.1.2.2.2.2.2.2.2.2.2.2.2.2
theorem NS.c20 (ns : NS Z c l st len kp) : c ≤ 20 := ns.1.1.2.1
theorem NS.l8 (ns : NS Z c l st len kp) : l ≤ 8 := ns.1.1.2.2.2.1
theorem NS.cN (ns : NS Z c l st len kp) : Z.2.1 54 0 = nI c := ns.mi.1
theorem NS.i0 (ns : NS Z c l st len kp) : Z.1 1 0 = Z.2.1 54 0 := ns.2.1.1
theorem NS.i5 (ns : NS Z c l st len kp) : Z.1 1 5 = Z.2.1 54 61 := ns.2.1.2.1
theorem NS.i7 (ns : NS Z c l st len kp) : Z.1 1 7 = Z.2.1 54 120 := ns.2.1.2.2.1
theorem NS.a2 (ns : NS Z c l st len kp) : Z.2.1 2 = nR (Z.2.1 54) := ns.2.1.2.2.2.1
theorem NS.a3 (ns : NS Z c l st len kp) : Z.2.1 3 = nG (Z.2.1 54) := ns.2.1.2.2.2.2.1
theorem NS.a4 (ns : NS Z c l st len kp) : Z.2.1 4 = nE (Z.2.1 54) := ns.2.1.2.2.2.2.2.1
theorem NS.a5 (ns : NS Z c l st len kp) : Z.2.1 5 = nL (Z.2.1 54) := ns.2.1.2.2.2.2.2.2.1
theorem NS.a6 (ns : NS Z c l st len kp) : Z.2.1 6 = mP (Z.2.1 54) := ns.2.1.2.2.2.2.2.2.2
/-- nothing changes -/
theorem PR.get {v v' : Int32} (ns : NS Z c l st len kp) (hd : dc ≤ 9) (hk : dk ≤ 9) (h1 : XC cM dc 0 0 (.ref 0 :: args) (HP Z) (fun r h' => r = some (.int v) ∧ h' = HP Z)) (h2 : XC kM dk 0 0 (.ref 53 :: args) (HP Z) (fun r h' => r = some (.int v') ∧ h' = HP Z)) (e : v = v') : PR cM kM args Z :=
  PR.mk hd h1 (fun r h1 hq => ⟨v, Z, dk, _, hq.1, hq.2, hk, h2, fun r2 h2 hq => ⟨by rw [hq.1, e], Z, ns.sim, hq.2⟩⟩)
theorem SIM_rf (ns : NS Z c l st len kp) (w : Nat) : SIM (rmZ (rfZ Z w) w) := by
  obtain ⟨⟨ci, h54, h3, h6, h57, h58, hp⟩, nr, e46, e44⟩ := ns
  have fr : FR (rmZ (rfZ Z w) w) Z := ((FR.rf).a (by omega)).a (by omega)
  have hk := ci.2.2.2.2.2.2.2.2.2.2.1
  have st5 := ci.2.2.2.2.2.2.2.2.2.1
  refine ⟨c, l, st, len, kp, ci, h54, h3, h6, fun k hk => ?_, h58, hp.fr fr (fun j hj => (hk.1 j (by omega)).1)⟩
  show upd (Z.2.1 57) w (Z.2.1 57 w + 1) k = upd (Z.2.1 44) w (Z.2.1 44 w + 1) k
  rw [e44]
/-- both refuse -/
theorem PR.rf {v : Int32} (w : Nat) (ns : NS Z c l st len kp) (hd : dc ≤ 9) (hk : dk ≤ 9) (h1 : XC cM dc 0 0 (.ref 0 :: args) (HP Z) (fun r h' => r = some (.int v) ∧ h' = HP (rfZ Z w))) (h2 : XC kM dk 0 0 (.ref 53 :: args) (HP (rfZ Z w)) (fun r h' => r = some (.int v) ∧ h' = HP (rmZ (rfZ Z w) w))) : PR cM kM args Z :=
  PR.mk hd h1 (fun r h1 hq => ⟨v, _, dk, _, hq.1, hq.2, hk, h2, fun r2 h2 hq => ⟨hq.1, _, SIM_rf ns w, hq.2⟩⟩)
end Pr
