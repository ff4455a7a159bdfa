/-! Both sides together: what is alike -/
theorem arr_cut {cA : ClassId} {n : Nat} {f g : Nat → Int32} (h : ∀ j, j < n → f j = g j) : vp_cell cA (n, .inl f) = vp_cell cA (n, .inl g) := by
  have e : (fun j : Fin n => Value.int (f j.val)) = fun j => Value.int (g j.val) := funext fun j => by rw [h j.val j.isLt]
  show ({ cls := cA, slots := Array.ofFn (n := n) fun j => Value.int (f j.val), vm := .none } : Cell) = _
  rw [e]
  rfl
def xEq (a b : xC) : Prop := a = b ∨ ∃ (n : Nat) (f g : Nat → Int32), a = .inl (n, .inl f) ∧ b = .inl (n, .inl g) ∧ ∀ j, j < n → f j = g j
def xEqL : xH → xH → Prop
  | [], [] => True
  | a :: l, b :: m => xEq a b ∧ xEqL l m
  | _, _ => False
theorem xEqL_get : ∀ {l m : xH}, xEqL l m → l.length = m.length ∧ ∀ (k : Nat) (b : xC), m[k]? = some b → ∃ a, l[k]? = some a ∧ xEq a b
  | [], [], _ => ⟨rfl, fun k b h => by simp at h⟩
  | a :: l, b :: m, h => by
    obtain ⟨h1, h2⟩ := xEqL_get h.2
    refine ⟨by rw [List.length_cons, List.length_cons, h1], fun k c hc => ?_⟩
    cases k with
    | zero => exact ⟨a, rfl, by have e : b = c := Option.some.inj hc; subst e; exact h.1⟩
    | succ k => exact h2 k c hc
  | [], _ :: _, h => h.elim
  | _ :: _, [], h => h.elim
theorem xP.cut {G : xG} {h h' : xH} {H : Heap} (e : xEqL h h') (P : xP G h H) : xP G h' H := by
  intro k q hq
  obtain ⟨b, hb, rfl⟩ := xw_getI hq
  obtain ⟨a, ha, hab⟩ := (xEqL_get e).2 k b hb
  have h1 := P k _ (xw_get ha)
  rcases hab with rfl | ⟨n, f, g, rfl, rfl, hj⟩
  · exact h1
  · have h1 : H[G.2.2.1 + k]? = some (vp_cell G.2.1.1 (n, .inl f)) := h1
    show H[G.2.2.1 + k]? = some (vp_cell G.2.1.1 (n, .inl g))
    rw [← arr_cut hj]; exact h1
section Cut2
variable {M : xM} {d d' mc ms pc : Nat} {L : xL} {st : List Value} {h h' : xH} {Post : Option Value → xH → Prop}
theorem XW.cut (e : xEqL h h') (k : XW M d mc ms pc L st h' Post) : XW M d mc ms pc L st h Post := by
  intro p l ev R s m args below meth c G Q H locs cells slots C1 S1 ls F P S E B K
  refine k p l ev R s m args below meth c G Q H locs cells slots C1 S1 ls F (P.cut e) S E ?_ K
  have h1 := (xEqL_get e).1
  unfold xB at B ⊢
  rw [← h1]; exact B
theorem XW.deep (hd : d ≤ d') (k : XW M d mc ms pc L st h Post) : XW M d' mc ms pc L st h Post := by
  intro p l ev R s m args below meth c G Q H locs cells slots C1 S1 ls F P S E B K
  obtain ⟨f1, f2, f3, f4, f5, f6, f7, f8, f9, f10, f11, f12⟩ := F
  exact k p l ev R s m args below meth c G Q H locs cells slots C1 S1 ls ⟨f1, f2, f3, f4, f5, f6, f7, f8, f9, f10, by omega, by omega⟩ P S E B K
end Cut2
section ScV
variable {Z : xZ} {a k : Nat}
theorem scV_0 : scV Z a 0 = Z.1 a 0 := by unfold scV; rw [if_pos rfl]
theorem scV_R (h : k < 60) : scV Z a (1 + k) = Z.2.1 (a + 1) k := by unfold scV; rw [if_neg (by omega), if_pos (by omega), Nat.add_sub_cancel_left]
theorem scV_61 : scV Z a 61 = Z.1 a 5 := by unfold scV; rw [if_neg (by omega), if_neg (by omega), if_pos rfl]
theorem scV_E (h : k < 52) : scV Z a (62 + k) = Z.2.1 (a + 3) k := by unfold scV; rw [if_neg (by omega), if_neg (by omega), if_neg (by omega), if_pos (by omega), Nat.add_sub_cancel_left]
theorem scV_L (h : k < 3) : scV Z a (114 + k) = Z.2.1 (a + 4) k := by unfold scV; rw [if_neg (by omega), if_neg (by omega), if_neg (by omega), if_neg (by omega), if_pos (by omega), Nat.add_sub_cancel_left]
theorem scV_G (h : k < 3) : scV Z a (117 + k) = Z.2.1 (a + 2) k := by unfold scV; rw [if_neg (by omega), if_neg (by omega), if_neg (by omega), if_neg (by omega), if_neg (by omega), if_pos (by omega), Nat.add_sub_cancel_left]
theorem scV_120 : scV Z a 120 = Z.1 a 7 := by unfold scV; rw [if_neg (by omega), if_neg (by omega), if_neg (by omega), if_neg (by omega), if_neg (by omega), if_neg (by omega), if_pos rfl]
theorem scV_P : scV Z a (121 + k) = Z.2.1 (a + 5) k := by unfold scV; rw [if_neg (by omega), if_neg (by omega), if_neg (by omega), if_neg (by omega), if_neg (by omega), if_neg (by omega), if_neg (by omega), Nat.add_sub_cancel_left]
end ScV
theorem okS.congr {rgb gr ey lm rgb2 gr2 ey2 lm2 : Nat → Int32} (h : okS rgb gr ey lm) (h1 : ∀ k, k < 60 → rgb2 k = rgb k) (h2 : ∀ k, k < 3 → gr2 k = gr k) (h3 : ∀ k, k < 52 → ey2 k = ey k) (h4 : ∀ k, k < 3 → lm2 k = lm k) : okS rgb2 gr2 ey2 lm2 := by
  obtain ⟨o1, o2, o3, o4, o5, o6⟩ := h
  exact ⟨fun k hk => by rw [h1 k hk]; exact o1 k hk, fun k hk => by rw [h2 k hk]; exact o2 k hk, fun e k he hk => by rw [h3 _ (by omega)]; exact o3 e k he hk, fun e k he hk => by rw [h3 _ (by omega)]; exact o4 e k he hk, fun e he => by rw [h3 _ (by omega)]; exact o5 e he, fun k hk => by rw [h4 k hk]; exact o6 k hk⟩
theorem rowOK.congr {f g : Nat → Int32} {l c : Nat} (h : rowOK f l c) (e : ∀ p, p < l → g p = f p) : rowOK g l c := fun p hp => by
  have := h p hp
  have e2 : rv g p = rv f p := by unfold rv; rw [e p hp]
  rw [e p hp, e2]; exact this
theorem rowDI.congr {f g : Nat → Int32} {l : Nat} (h : rowDI f l) (e : ∀ p, p < l → g p = f p) : rowDI g l := fun a b h1 h2 => by
  have e2 : ∀ p, p < l → rv g p = rv f p := fun p hp => by unfold rv; rw [e p hp]
  rw [e2 a (by omega), e2 b h2]; exact h a b h1 h2
theorem MI.congr {N N2 : Nat → Int32} {c l : Nat} (mi : MI N c l) (h : ∀ i, i < 129 → N2 i = N i) : MI N2 c l := by
  obtain ⟨hc, c20, hl, l8, ok, hf, hdi, hfb⟩ := mi
  exact ⟨by rw [h 0 (by omega)]; exact hc, c20, by rw [h 120 (by omega)]; exact hl, l8, ok.congr (fun k hk => h _ (by omega)) (fun k hk => h _ (by omega)) (fun k hk => h _ (by omega)) (fun k hk => h _ (by omega)), hf.congr (fun p hp => h _ (by omega)), hdi.congr (fun p hp => h _ (by omega)), by rw [h 61 (by omega)]; exact hfb⟩
/-- the scene at 1 as one row of numbers -/
theorem CI.mi {Z : xZ} {c l st len : Nat} {kp : Nat → Nat} (ci : CI Z c l st len kp) : MI (scV Z 1) c l := by
  obtain ⟨hc, c20, hl, l8, ok, hf, hdi, hfb, -⟩ := ci
  exact ⟨by rw [scV_0]; exact hc, c20, by rw [scV_120]; exact hl, l8, ok.congr (fun k hk => scV_R hk) (fun k hk => scV_G hk) (fun k hk => scV_E hk) (fun k hk => scV_L hk), hf.congr (fun p hp => scV_P), hdi.congr (fun p hp => scV_P), by rw [scV_61]; exact hfb⟩
theorem CI_of {Z : xZ} {c l st len : Nat} {kp : Nat → Nat} (mi : MI (scV Z 1) c l) (h1 : Z.1 0 2 = nI st) (h2 : st ≤ 5) (h3 : keptIs Z kp) (h4 : Z.1 45 1 = nI len) (h5 : len ≤ 120) : CI Z c l st len kp := by
  obtain ⟨hc, c20, hl, l8, ok, hf, hdi, hfb⟩ := mi
  rw [scV_0] at hc
  rw [scV_120] at hl
  rw [scV_61] at hfb
  exact ⟨hc, c20, hl, l8, ok.congr (fun k hk => (scV_R hk).symm) (fun k hk => (scV_G hk).symm) (fun k hk => (scV_E hk).symm) (fun k hk => (scV_L hk).symm), hf.congr (fun p hp => scV_P.symm), hdi.congr (fun p hp => scV_P.symm), hfb, h1, h2, h3, h4, h5⟩
/-- the scene at 1 is told by N, as functions -/
def NRM (W : xZ) (N : Nat → Int32) : Prop := W.1 1 0 = N 0 ∧ W.1 1 5 = N 61 ∧ W.1 1 7 = N 120 ∧ W.2.1 2 = nR N ∧ W.2.1 3 = nG N ∧ W.2.1 4 = nE N ∧ W.2.1 5 = nL N ∧ W.2.1 6 = mP N
theorem scV_all {N : Nat → Int32} {Z : xZ} {a : Nat} (h0 : N 0 = Z.1 a 0) (h5 : N 61 = Z.1 a 5) (h7 : N 120 = Z.1 a 7) (g1 : ∀ k, k < 60 → N (1 + k) = Z.2.1 (a + 1) k) (g2 : ∀ k, k < 3 → N (117 + k) = Z.2.1 (a + 2) k) (g3 : ∀ k, k < 52 → N (62 + k) = Z.2.1 (a + 3) k) (g4 : ∀ k, k < 3 → N (114 + k) = Z.2.1 (a + 4) k) (g5 : ∀ k, k < 8 → N (121 + k) = Z.2.1 (a + 5) k) : ∀ i, i < 129 → N i = scV Z a i := by
  intro i hi
  by_cases e0 : i = 0
  · subst e0; rw [scV_0]; exact h0
  by_cases e1 : i < 61
  · rw [show i = 1 + (i - 1) by omega, scV_R (by omega)]; exact g1 _ (by omega)
  by_cases e2 : i = 61
  · subst e2; rw [scV_61]; exact h5
  by_cases e3 : i < 114
  · rw [show i = 62 + (i - 62) by omega, scV_E (by omega)]; exact g3 _ (by omega)
  by_cases e4 : i < 117
  · rw [show i = 114 + (i - 114) by omega, scV_L (by omega)]; exact g4 _ (by omega)
  by_cases e5 : i < 120
  · rw [show i = 117 + (i - 117) by omega, scV_G (by omega)]; exact g2 _ (by omega)
  by_cases e6 : i = 120
  · subst e6; rw [scV_120]; exact h7
  · rw [show i = 121 + (i - 121) by omega, scV_P]; exact g5 _ (by omega)
theorem NRM.sc {W : xZ} {N : Nat → Int32} (h : NRM W N) : ∀ i, i < 129 → N i = scV W 1 i := by
  obtain ⟨h0, h5, h7, a2, a3, a4, a5, a6⟩ := h
  exact scV_all h0.symm h5.symm h7.symm (fun k hk => by rw [a2, nR_eq hk]; rfl) (fun k hk => by rw [a3, nG_eq hk]; rfl) (fun k hk => by rw [a4, nE_eq hk]; rfl) (fun k hk => by rw [a5, nL_eq hk]; rfl) (fun k hk => by rw [a6]; rfl)
/-- the states: P the reference's row of them, kp where the other side has them -/
def PST (W : xZ) (P : Nat → Int32) (st : Nat) (kp : Nat → Nat) : Prop := ∀ j, j < st → (∀ i, i < 129 → P (129 * j + i) = scV W (8 + 6 * kp j) i) ∧ ∃ c l, MI (fun i => P (129 * j + i)) c l
def SIMx (W : xZ) (c l st len : Nat) (kp : Nat → Nat) : Prop := CI W c l st len kp ∧ (∀ i, i < 129 → W.2.1 54 i = scV W 1 i) ∧ W.1 53 3 = nI st ∧ W.1 53 6 = nI len ∧ (∀ k, k < 3 → W.2.1 57 k = W.2.1 44 k) ∧ (∀ k, k < 120 → W.2.1 58 k = W.2.1 46 k) ∧ PST W (W.2.1 56) st kp
def SIM (W : xZ) : Prop := ∃ c l st len kp, SIMx W c l st len kp
theorem SIMx.mi {W : xZ} {c l st len : Nat} {kp : Nat → Nat} (s : SIMx W c l st len kp) : MI (W.2.1 54) c l := s.1.mi.congr s.2.1
def nz (Z : xZ) : xZ := sA (sA (sA (sA (sA (sA (sA Z 2 (nR (Z.2.1 54))) 3 (nG (Z.2.1 54))) 4 (nE (Z.2.1 54))) 5 (nL (Z.2.1 54))) 6 (mP (Z.2.1 54))) 46 (Z.2.1 58)) 44 (Z.2.1 57)
def FR (W Y : xZ) : Prop := (∀ a j, 8 ≤ a → a < 44 → W.1 a j = Y.1 a j) ∧ ∀ a, 8 ≤ a → a < 44 → W.2.1 a = Y.2.1 a
section Fr
variable {W Y : xZ}
theorem FR.rf : FR W W := ⟨fun _ _ _ _ => rfl, fun _ _ _ => rfl⟩
theorem FR.i (h : FR W Y) {a j : Nat} {v : Int32} (ha : a < 8 ∨ 44 ≤ a) : FR (sI W a j v) Y := ⟨fun b k h1 h2 => by rw [sI_2 _ _ (by omega)]; exact h.1 b k h1 h2, h.2⟩
theorem FR.a (h : FR W Y) {a : Nat} {f : Nat → Int32} (ha : a < 8 ∨ 44 ≤ a) : FR (sA W a f) Y := ⟨h.1, fun b h1 h2 => by rw [sA_2 _ _ (by omega)]; exact h.2 b h1 h2⟩
theorem FR.tr {X : xZ} (h : FR W Y) (h2 : FR Y X) : FR W X := ⟨fun a j g1 g2 => (h.1 a j g1 g2).trans (h2.1 a j g1 g2), fun a g1 g2 => (h.2 a g1 g2).trans (h2.2 a g1 g2)⟩
theorem FR.sc (h : FR W Y) {j : Nat} (hj : j < 6) (i : Nat) : scV W (8 + 6 * j) i = scV Y (8 + 6 * j) i := by
  unfold scV
  rw [h.1 _ 0 (by omega) (by omega), h.1 _ 5 (by omega) (by omega), h.1 _ 7 (by omega) (by omega), h.2 _ (by omega) (by omega), h.2 _ (by omega) (by omega), h.2 _ (by omega) (by omega), h.2 _ (by omega) (by omega), h.2 _ (by omega) (by omega)]
theorem PST.fr {P : Nat → Int32} {st : Nat} {kp : Nat → Nat} (h : PST Y P st kp) (f : FR W Y) (hk : ∀ j, j < st → kp j < 6) : PST W P st kp := fun j hj => ⟨fun i hi => by rw [f.sc (hk j hj)]; exact (h j hj).1 i hi, (h j hj).2⟩
end Fr
theorem nz_FR (Z : xZ) : FR (nz Z) Z := (((((((FR.rf).a (by omega)).a (by omega)).a (by omega)).a (by omega)).a (by omega)).a (by omega)).a (by omega)
theorem nz_NRM {Z : xZ} (h : ∀ i, i < 129 → Z.2.1 54 i = scV Z 1 i) : NRM (nz Z) (Z.2.1 54) := ⟨by rw [h 0 (by omega), scV_0]; rfl, by rw [h 61 (by omega), scV_61]; rfl, by rw [h 120 (by omega), scV_120]; rfl, rfl, rfl, rfl, rfl, rfl⟩
/-- all alike, as functions -/
def NS (Z : xZ) (c l st len : Nat) (kp : Nat → Nat) : Prop := SIMx Z c l st len kp ∧ NRM Z (Z.2.1 54) ∧ Z.2.1 46 = Z.2.1 58 ∧ Z.2.1 44 = Z.2.1 57
theorem NS_of {Z : xZ} {c l st len : Nat} {kp : Nat → Nat} (s : SIMx Z c l st len kp) : NS (nz Z) c l st len kp := by
  obtain ⟨ci, h54, h3, h6, h57, h58, hp⟩ := id s
  have nr := nz_NRM h54
  have hk := ci.2.2.2.2.2.2.2.2.2.2.1
  have st5 := ci.2.2.2.2.2.2.2.2.2.1
  refine ⟨⟨?_, nr.sc, h3, h6, fun _ _ => rfl, fun _ _ => rfl, hp.fr (nz_FR Z) (fun j hj => (hk.1 j (by omega)).1)⟩, nr, rfl, rfl⟩
  exact CI_of (s.mi.congr (fun i hi => (nr.sc i hi).symm)) ci.2.2.2.2.2.2.2.2.1 st5 (hk.of rfl) ci.2.2.2.2.2.2.2.2.2.2.2.1 ci.2.2.2.2.2.2.2.2.2.2.2.2
set_option maxRecDepth 100000 in
theorem nz_eq {Z : xZ} {c l st len : Nat} {kp : Nat → Nat} (s : SIMx Z c l st len kp) : xEqL (HP Z) (HP (nz Z)) := by
  obtain ⟨ci, h54, h3, h6, h57, h58, hp⟩ := s
  have e2 : ∀ j, j < 60 → Z.2.1 2 j = nR (Z.2.1 54) j := fun j hj => by rw [nR_eq hj]; show _ = Z.2.1 54 (1 + j); rw [h54 _ (by omega), scV_R hj]
  have e3 : ∀ j, j < 3 → Z.2.1 3 j = nG (Z.2.1 54) j := fun j hj => by rw [nG_eq hj]; show _ = Z.2.1 54 (117 + j); rw [h54 _ (by omega), scV_G hj]
  have e4 : ∀ j, j < 52 → Z.2.1 4 j = nE (Z.2.1 54) j := fun j hj => by rw [nE_eq hj]; show _ = Z.2.1 54 (62 + j); rw [h54 _ (by omega), scV_E hj]
  have e5 : ∀ j, j < 3 → Z.2.1 5 j = nL (Z.2.1 54) j := fun j hj => by rw [nL_eq hj]; show _ = Z.2.1 54 (114 + j); rw [h54 _ (by omega), scV_L hj]
  have e6 : ∀ j, j < 8 → Z.2.1 6 j = mP (Z.2.1 54) j := fun j hj => by show _ = Z.2.1 54 (121 + j); rw [h54 _ (by omega), scV_P]
  have e44 : ∀ j, j < 3 → Z.2.1 44 j = Z.2.1 57 j := fun j hj => (h57 j hj).symm
  have e46 : ∀ j, j < 120 → Z.2.1 46 j = Z.2.1 58 j := fun j hj => (h58 j hj).symm
  exact ⟨Or.inl rfl, ⟨Or.inl rfl, ⟨Or.inr ⟨_, _, _, rfl, rfl, e2⟩, ⟨Or.inr ⟨_, _, _, rfl, rfl, e3⟩, ⟨Or.inr ⟨_, _, _, rfl, rfl, e4⟩, ⟨Or.inr ⟨_, _, _, rfl, rfl, e5⟩, ⟨Or.inr ⟨_, _, _, rfl, rfl, e6⟩, ⟨Or.inl rfl, ⟨Or.inl rfl, ⟨Or.inl rfl, ⟨Or.inl rfl, ⟨Or.inl rfl, ⟨Or.inl rfl, ⟨Or.inl rfl, ⟨Or.inl rfl, ⟨Or.inl rfl, ⟨Or.inl rfl, ⟨Or.inl rfl, ⟨Or.inl rfl, ⟨Or.inl rfl, ⟨Or.inl rfl, ⟨Or.inl rfl, ⟨Or.inl rfl, ⟨Or.inl rfl, ⟨Or.inl rfl, ⟨Or.inl rfl, ⟨Or.inl rfl, ⟨Or.inl rfl, ⟨Or.inl rfl, ⟨Or.inl rfl, ⟨Or.inl rfl, ⟨Or.inl rfl, ⟨Or.inl rfl, ⟨Or.inl rfl, ⟨Or.inl rfl, ⟨Or.inl rfl, ⟨Or.inl rfl, ⟨Or.inl rfl, ⟨Or.inl rfl, ⟨Or.inl rfl, ⟨Or.inl rfl, ⟨Or.inl rfl, ⟨Or.inl rfl, ⟨Or.inl rfl, ⟨Or.inr ⟨_, _, _, rfl, rfl, e44⟩, ⟨Or.inl rfl, ⟨Or.inr ⟨_, _, _, rfl, rfl, e46⟩, ⟨Or.inl rfl, ⟨Or.inl rfl, ⟨Or.inl rfl, ⟨Or.inl rfl, ⟨Or.inl rfl, ⟨Or.inl rfl, ⟨Or.inl rfl, ⟨Or.inl rfl, ⟨Or.inl rfl, ⟨Or.inl rfl, ⟨Or.inl rfl, ⟨Or.inl rfl, ⟨Or.inl rfl, ⟨Or.inl rfl, ⟨Or.inl rfl, ⟨Or.inl rfl, trivial⟩⟩⟩⟩⟩⟩⟩⟩⟩⟩⟩⟩⟩⟩⟩⟩⟩⟩⟩⟩⟩⟩⟩⟩⟩⟩⟩⟩⟩⟩⟩⟩⟩⟩⟩⟩⟩⟩⟩⟩⟩⟩⟩⟩⟩⟩⟩⟩⟩⟩⟩⟩⟩⟩⟩⟩⟩⟩⟩⟩⟩⟩⟩
