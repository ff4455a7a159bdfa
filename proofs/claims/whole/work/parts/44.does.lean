/-! The class: does, back -/
theorem rdC_q {b : Nat → Int32} {len : Nat} : ∀ m q k kn f1 f2, 2 * q ≤ k → k ≤ len → 2 * (rdC b len m q k kn f1 f2).2.1 ≤ len
  | 0, q, k, kn, f1, f2, h1, h2 => by show 2 * q ≤ len; omega
  | m + 1, q, k, kn, f1, f2, h1, h2 => by
    by_cases h : k < len
    · have ol := oC_le (b := b) (q := q) (f1 := f1) (f2 := f2) h
      cases hb : (oC b len q k f1 f2).1 with
      | true =>
        rw [rdC_t h hb]
        have o2 := ol.2 hb
        have sk := skF_le (b := b) ol.1
        exact rdC_q m _ _ _ _ _ (by omega) sk.2
      | false => rw [rdC_f h hb]; show 2 * q ≤ len; omega
    · rw [rdC_e h]; show 2 * q ≤ len; omega
theorem rdAll_q {b : Nat → Int32} {len : Nat} {kn f1 f2 : Nat → Int32} : 2 * (rdAll b len kn f1 f2).2.1 ≤ len := by
  unfold rdAll
  split
  · show 2 * 0 ≤ len; omega
  · exact rdC_q _ _ _ _ _ _ (by omega) (skF_le (by omega)).2
/-- only what the script has read is other -/
def SCR (Z V : xZ) : Prop := (∀ a j, a ≠ 45 ∨ j = 1 → V.1 a j = Z.1 a j) ∧ (∀ a, a ≠ 47 → a ≠ 48 → a ≠ 49 → V.2.1 a = Z.2.1 a) ∧ V.2.2 = Z.2.2
theorem SCR_mk (Z : xZ) (q k : Int32) (kn f1 f2 : Nat → Int32) : SCR Z (sI (sA (sA (sA (sI Z 45 3 q) 47 kn) 48 f1) 49 f2) 45 2 k) := by
  refine ⟨fun a j h => ?_, fun a h1 h2 h3 => ?_, rfl⟩
  · rw [sI_2 _ _ (by omega)]; show (sI Z 45 3 q).1 a j = _; rw [sI_2 _ _ (by omega)]
  · show (sA (sA (sA (sI Z 45 3 q) 47 kn) 48 f1) 49 f2).2.1 a = _
    rw [sA_2 _ _ h3, sA_2 _ _ h2, sA_2 _ _ h1]; rfl
theorem CI.scr {Z V : xZ} {c l st len : Nat} {kp : Nat → Nat} (ci : CI Z c l st len kp) (s : SCR Z V) : CI V c l st len kp := by
  obtain ⟨hc, c20, hl, l8, ok, hf, hdi, hfb, hst, st5, hk, hlen, l120⟩ := ci
  refine ⟨by rw [s.1 1 0 (by omega)]; exact hc, c20, by rw [s.1 1 7 (by omega)]; exact hl, l8, ?_, ?_, ?_, by rw [s.1 1 5 (by omega)]; exact hfb, by rw [s.1 0 2 (by omega)]; exact hst, st5, hk.of (by rw [s.2.2]), by rw [s.1 45 1 (by omega)]; exact hlen, l120⟩
  · rw [s.2.1 2 (by omega) (by omega) (by omega), s.2.1 3 (by omega) (by omega) (by omega), s.2.1 4 (by omega) (by omega) (by omega), s.2.1 5 (by omega) (by omega) (by omega)]; exact ok
  · rw [s.2.1 6 (by omega) (by omega) (by omega)]; exact hf
  · rw [s.2.1 6 (by omega) (by omega) (by omega)]; exact hdi
theorem CI.note {Z : xZ} {c l st len : Nat} {kp : Nat → Nat} {j : Nat} (ci : CI Z c l st len kp) (hj : j < 6) : CI (becZ Z (8 + 6 * j) 1) c l st len kp := by
  obtain ⟨hc, c20, hl, l8, ok, hf, hdi, hfb, hst, st5, hk, hlen, l120⟩ := ci
  refine ⟨by rw [bec_Io Z (by omega)]; exact hc, c20, by rw [bec_Io Z (by omega)]; exact hl, l8, ?_, ?_, ?_, by rw [bec_Io Z (by omega)]; exact hfb, by rw [bec_Io Z (by omega)]; exact hst, st5, hk.of rfl, by rw [bec_Io Z (by omega)]; exact hlen, l120⟩
  · rw [bec_Ao Z (by omega), bec_Ao Z (by omega), bec_Ao Z (by omega), bec_Ao Z (by omega)]; exact ok
  · rw [bec_Ao Z (by omega)]; exact hf
  · rw [bec_Ao Z (by omega)]; exact hdi
/-- the noted STATE is kept -/
def KNr (st : Nat) (W Y : xZ) : Prop := (st < 5 ∧ Y = sI W 0 2 (nI (st + 1))) ∨ (st = 5 ∧ ∃ kp, keptIs W kp ∧ Y = sR W 7 (rotF (W.2.2.2.1 7) (8 + 6 * kp 0) (8 + 6 * kp 1) (8 + 6 * kp 2) (8 + 6 * kp 3) (8 + 6 * kp 4) (8 + 6 * kp 5)))
theorem c_keep {W : xZ} {st : Nat} {kp : Nat → Nat} (hst : W.1 0 2 = nI st) (st5 : st ≤ 5) (hk : keptIs W kp) : XC mX3_keepNoted 0 0 0 [.ref 0] (HP W) (fun r h' => r = none ∧ ∃ Y, KNr st W Y ∧ h' = HP Y) := by
  by_cases h : st < 5
  · exact XW.post (c_keep1 hst h) (fun r h1 hq => ⟨hq.1, _, Or.inl ⟨h, rfl⟩, hq.2⟩)
  · have e5 : st = 5 := by omega
    subst e5
    exact XW.post (c_keep2 hst (hk.1 0 (by omega)).2 ⟨_, (hk.1 0 (by omega)).1, rfl⟩ (hk.1 1 (by omega)).2 ⟨_, (hk.1 1 (by omega)).1, rfl⟩ (hk.1 2 (by omega)).2 ⟨_, (hk.1 2 (by omega)).1, rfl⟩ (hk.1 3 (by omega)).2 ⟨_, (hk.1 3 (by omega)).1, rfl⟩ (hk.1 4 (by omega)).2 ⟨_, (hk.1 4 (by omega)).1, rfl⟩ (hk.1 5 (by omega)).2 ⟨_, (hk.1 5 (by omega)).1, rfl⟩) (fun r h1 hq => ⟨hq.1, _, Or.inr ⟨rfl, kp, hk, rfl⟩, hq.2⟩)
theorem KNr_3 {st : Nat} {W Y : xZ} (h : KNr st W Y) : Y.1 45 3 = W.1 45 3 := by
  rcases h with ⟨-, rfl⟩ | ⟨-, kp2, -, rfl⟩
  · rw [sI_2 _ _ (by omega)]
  · rfl
/-- the ORDERS from the k-th on -/
def DOr (kn f1 f2 : Nat → Int32) (q st sq k : Nat) (W : xZ) (r : Option Value) (h' : xH) : Prop := ∃ (Ws : Nat → xZ) (m : Nat), Ws k = W ∧ k ≤ m ∧ m ≤ q ∧ (∀ j, k ≤ j → j < m → woF (kn j) (f1 j) (f2 j) ((Ws j).1 1 0) ((Ws j).1 1 5) = 0 ∧ OBr (kn j) (f1 j) (f2 j) (Ws j) (Ws (j + 1))) ∧
  ((m = q ∧ r = some (.int (nI q)) ∧ ∃ Y, KNr st (Ws q) Y ∧ h' = HP Y) ∨ (m < q ∧ ¬ woF (kn m) (f1 m) (f2 m) ((Ws m).1 1 0) ((Ws m).1 1 5) = 0 ∧ r = some (.int (-1000 - nI m)) ∧ h' = HP (becZ (Ws m) 1 sq)))
theorem DOr_step {kn f1 f2 : Nat → Int32} {q st sq k : Nat} {W V : xZ} {r : Option Value} {h' : xH} (hk : k < q) (h1 : woF (kn k) (f1 k) (f2 k) (W.1 1 0) (W.1 1 5) = 0) (h2 : OBr (kn k) (f1 k) (f2 k) W V) (h : DOr kn f1 f2 q st sq (k + 1) V r h') : DOr kn f1 f2 q st sq k W r h' := by
  obtain ⟨Ws, m, e, m1, m2, hs, hr⟩ := h
  have hne : ∀ j, k + 1 ≤ j → (fun j => if j = k then W else Ws j) j = Ws j := fun j hj => if_neg (by omega)
  refine ⟨fun j => if j = k then W else Ws j, m, if_pos rfl, by omega, m2, fun j j1 j2 => ?_, ?_⟩
  · by_cases ej : j = k
    · subst ej
      rw [show (fun i => if i = j then W else Ws i) j = W from if_pos rfl, hne (j + 1) (Nat.le_refl _), e]
      exact ⟨h1, h2⟩
    · rw [hne j (by omega), hne (j + 1) (by omega)]
      exact hs j (by omega) j2
  · rw [hne q (by omega), hne m m1]
    exact hr
theorem OBr_fr {kd a b : Int32} {W V : xZ} (h : OBr kd a b W V) : (∀ x y, x ≠ 1 → V.1 x y = W.1 x y) ∧ (∀ x, x ≠ 2 → x ≠ 5 → x ≠ 6 → V.2.1 x = W.2.1 x) ∧ V.2.2.2 = W.2.2.2 := by
  rcases h with ⟨-, c, -, -, rfl⟩ | ⟨-, rfl⟩ | ⟨-, rfl⟩ | ⟨-, c, n, G, -, -, -, -, rfl⟩ | ⟨-, -, -, -, c, l, G, -, -, -, -, rfl⟩
  · exact ⟨fun x y h => by rw [sI_2 _ _ (by omega)]; rfl, fun x h2 _ _ => by show (sA W 2 _).2.1 x = _; rw [sA_2 _ _ h2], rfl⟩
  · exact ⟨fun x y h => by rw [sI_2 _ _ (by omega)], fun x _ _ _ => rfl, rfl⟩
  · exact ⟨fun x y h => rfl, fun x _ h5 _ => by rw [sA_2 _ _ h5, sA_2 _ _ h5], rfl⟩
  · exact ⟨fun x y h => by rw [sI_2 _ _ (by omega)]; rfl, fun x _ _ h6 => by show (sA (sF W 51 G) 6 _).2.1 x = _; rw [sA_2 _ _ h6]; rfl, rfl⟩
  · exact ⟨fun x y h => rfl, fun x _ _ h6 => by rw [sA_2 _ _ h6]; rfl, rfl⟩
set_option maxHeartbeats 400000 in
set_option maxRecDepth 100000 in
theorem l_does {kn f1 f2 : Nat → Int32} {q st sj len : Nat} {kp : Nat → Nat} {fl : Int32} (q60 : q ≤ 60) (sj6 : sj < 6) (hsj : kp st = sj) : ∀ (n : Nat) (k : Nat) (W : xZ) (c l : Nat), CI W c l st len kp → k ≤ q → q < k + n → W.2.1 47 = kn → W.2.1 48 = f1 → W.2.1 49 = f2 → W.1 45 3 = nI q → XW mX3_does 9 0 0 24 [some (.ref 0), some (.int fl), some (.int (nI k)), none, none, none] [] (HP W) (fun r h' => DOr kn f1 f2 q st (8 + 6 * sj) k W r h') := by
  intro n
  induction n with
  | zero => intro k W c l g0 g1 g2 g3 g4 g5 g6; omega
  | succ n ih =>
    intro k W c l g0 g1 g2 g3 g4 g5 g6
    have ci := g0
    obtain ⟨hc, c20, hl, l8, ok, hf, hdi, hfb, hst, st5, hk, hlen, l120⟩ := id ci
    have e1 := g3
    have e2 := g4
    have e3 := g5
    have hq3 := g6
    refine XW.iload_n 25 dX3_does_24 rfl rfl ?_
    refine XW.aload_n 26 dX3_does_25 rfl rfl ?_
    refine XW.getf 29 (v := .ref 45) f3_31 dX3_does_26 rfl rfl rfl ?_
    refine XW.getf 32 (v := .int (W.1 45 3)) f3_197 dX3_does_29 rfl rfl rfl ?_
    refine XW.icmp_geN 116 35 k q dX3_does_32 (by decide) rfl rfl hq3 (by omega) (by omega) (fun c_32 => ?_) (fun c_32 => ?_)
    · refine XW.aload_n 117 dX3_does_116 rfl rfl ?_
      refine XW.callV 120 (vs := []) (rest := []) (mcr := 0) (msr := 0) c3_219 dX3_does_117 rfl rfl (by decide) (Nat.le_of_ble_eq_true rfl) rfl rfl (Nat.le_of_ble_eq_true rfl) rfl (c_keep hst st5 hk) (fun r h1 hq => ?_)
      obtain ⟨rfl, Y, kn1, rfl⟩ := hq
      have hq4 : Y.1 45 3 = nI q := (KNr_3 kn1).trans hq3
      refine XW.aload_n 121 dX3_does_120 rfl rfl ?_
      refine XW.getf 124 (v := .ref 45) f3_31 dX3_does_121 rfl rfl rfl ?_
      refine XW.getf 127 (v := .int (Y.1 45 3)) f3_197 dX3_does_124 rfl rfl rfl ?_
      exact XW.iret dX3_does_127 rfl (⟨fun _ => W, q, rfl, by omega, Nat.le_refl _, fun j h1 h2 => absurd h2 (by omega), Or.inl ⟨rfl, by rw [hq4], Y, kn1, rfl⟩⟩)
    · refine XW.aload_n 36 dX3_does_35 rfl rfl ?_
      refine XW.getf 39 (v := .ref 45) f3_31 dX3_does_36 rfl rfl rfl ?_
      refine XW.getf 42 (v := .ref 47) f3_200 dX3_does_39 rfl rfl rfl ?_
      refine XW.iload_n 43 dX3_does_42 rfl rfl ?_
      refine XW.iald 44 k dX3_does_43 rfl rfl (by omega) (by decide) rfl ?_
      refine XW.istore_n 45 (L' := [some (.ref 0), some (.int fl), some (.int (nI k)), some (.int (W.2.1 47 k)), none, none]) dX3_does_44 (by decide) rfl rfl rfl ?_
      refine XW.aload_n 46 dX3_does_45 rfl rfl ?_
      refine XW.getf 49 (v := .ref 45) f3_31 dX3_does_46 rfl rfl rfl ?_
      refine XW.getf 52 (v := .ref 48) f3_203 dX3_does_49 rfl rfl rfl ?_
      refine XW.iload_n 53 dX3_does_52 rfl rfl ?_
      refine XW.iald 54 k dX3_does_53 rfl rfl (by omega) (by decide) rfl ?_
      refine XW.istore 56 (L' := [some (.ref 0), some (.int fl), some (.int (nI k)), some (.int (W.2.1 47 k)), some (.int (W.2.1 48 k)), none]) dX3_does_54 (by decide) rfl rfl rfl ?_
      refine XW.aload_n 57 dX3_does_56 rfl rfl ?_
      refine XW.getf 60 (v := .ref 45) f3_31 dX3_does_57 rfl rfl rfl ?_
      refine XW.getf 63 (v := .ref 49) f3_206 dX3_does_60 rfl rfl rfl ?_
      refine XW.iload_n 64 dX3_does_63 rfl rfl ?_
      refine XW.iald 65 k dX3_does_64 rfl rfl (by omega) (by decide) rfl ?_
      refine XW.istore 67 (L' := [some (.ref 0), some (.int fl), some (.int (nI k)), some (.int (W.2.1 47 k)), some (.int (W.2.1 48 k)), some (.int (W.2.1 49 k))]) dX3_does_65 (by decide) rfl rfl rfl ?_
      refine XW.aload_n 68 dX3_does_67 rfl rfl ?_
      refine XW.iload_n 69 dX3_does_68 rfl rfl ?_
      refine XW.iload 71 dX3_does_69 rfl rfl ?_
      refine XW.iload 73 dX3_does_71 rfl rfl ?_
      refine XW.callV 76 (vs := [.int (W.2.1 47 k), .int (W.2.1 48 k), .int (W.2.1 49 k)]) (rest := []) (mcr := 0) (msr := 0) c3_209 dX3_does_73 rfl rfl (by decide) (Nat.le_of_ble_eq_true rfl) rfl rfl (Nat.le_of_ble_eq_true rfl) rfl (c_whyNoOrder ci _ _ _) (fun r h1 hq => ?_)
      obtain ⟨rfl, rfl⟩ := hq
      refine XW.if_eq 101 79 dX3_does_76 (by decide) rfl (fun c_76 => ?_) (fun c_76 => ?_)
      · refine XW.aload_n 102 dX3_does_101 rfl rfl ?_
        refine XW.iload_n 103 dX3_does_102 rfl rfl ?_
        refine XW.iload 105 dX3_does_103 rfl rfl ?_
        refine XW.iload 107 dX3_does_105 rfl rfl ?_
        refine XW.callV 110 (vs := [.int (W.2.1 47 k), .int (W.2.1 48 k), .int (W.2.1 49 k)]) (rest := []) (mcr := 0) (msr := 0) c3_215 dX3_does_107 rfl rfl (by decide) (Nat.le_of_ble_eq_true rfl) rfl rfl (Nat.le_of_ble_eq_true rfl) rfl (c_obey ci _ _ _ c_76) (fun r h1 hq => ?_)
        obtain ⟨rfl, V, ob, ⟨c2, l2, ci2⟩, rfl⟩ := hq
        obtain ⟨fr1, fr2, fr3⟩ := OBr_fr ob
        refine XW.iinc 113 (y := nI (k + 1)) (L' := [some (.ref 0), some (.int fl), some (.int (nI (k + 1))), some (.int (W.2.1 47 k)), some (.int (W.2.1 48 k)), some (.int (W.2.1 49 k))]) dX3_does_110 rfl (na rfl rfl) (by decide) rfl rfl rfl ?_
        refine XW.goto 24 dX3_does_113 (by decide) ?_
        refine XW.weak [true, true, true, false, false, false] (L' := [some (.ref 0), some (.int fl), some (.int (nI (k + 1))), none, none, none]) rfl ?_
        refine XW.post (ih (k + 1) V c2 l2 ci2 (by omega) (by omega) (by rw [fr2 47 (by omega) (by omega) (by omega)]; exact e1) (by rw [fr2 48 (by omega) (by omega) (by omega)]; exact e2) (by rw [fr2 49 (by omega) (by omega) (by omega)]; exact e3) (by rw [fr1 45 3 (by omega)]; exact hq3)) (fun r h1 hq => DOr_step c_32 (by rw [← e1, ← e2, ← e3]; exact c_76) (by rw [← e1, ← e2, ← e3]; exact ob) hq)
      · refine XW.aload_n 80 dX3_does_79 rfl rfl ?_
        refine XW.getf 83 (v := .ref 1) f3_10 dX3_does_80 rfl rfl rfl ?_
        refine XW.aload_n 84 dX3_does_83 rfl rfl ?_
        refine XW.getf 87 (v := .ref 7) f3_16 dX3_does_84 rfl rfl rfl ?_
        refine XW.aload_n 88 dX3_does_87 rfl rfl ?_
        refine XW.getf 91 (v := .int (W.1 0 2)) f3_20 dX3_does_88 rfl rfl rfl ?_
        refine XW.aald 92 st dX3_does_91 rfl hst (by omega) (by decide) (hk.1 st (by omega)).2 rfl ?_
        refine XW.callV 95 (vs := [.ref (8 + 6 * kp st)]) (rest := []) (mcr := 0) (msr := 0) c3_212 dX3_does_92 rfl rfl (by decide) (Nat.le_of_ble_eq_true rfl) rfl rfl (Nat.le_of_ble_eq_true rfl) rfl (c_unnote rfl (hk.1 st (by omega)).1) (fun r h1 hq => ?_)
        obtain ⟨rfl, rfl⟩ := hq
        refine XW.sipush 98 dX3_does_95 (v := -1000) (by decide) rfl ?_
        refine XW.iload_n 99 dX3_does_98 rfl rfl ?_
        refine XW.isub 100 dX3_does_99 rfl ?_
        exact XW.iret dX3_does_100 rfl ⟨fun _ => W, k, rfl, Nat.le_refl _, by omega, fun j h1 h2 => absurd h2 (by omega), Or.inr ⟨c_32, by rw [← e1, ← e2, ← e3]; exact c_76, rfl, by rw [← hsj]⟩⟩
set_option maxHeartbeats 400000 in
set_option maxRecDepth 100000 in
theorem t_does {Z : xZ} {c l st len : Nat} {kp : Nat → Nat} (ci : CI Z c l st len kp)  : XC mX3_does 9 0 0 [.ref 0] (HP Z) (fun r h' => ∃ fl q kk kn f1 f2 V, rdAll (Z.2.1 46) len (Z.2.1 47) (Z.2.1 48) (Z.2.1 49) = (fl, q, kk, kn, f1, f2) ∧ SCR Z V ∧ q ≤ 60 ∧ ((¬ fl = -1 ∧ r = some (.int (-10 - fl)) ∧ h' = HP V) ∨ (fl = -1 ∧ DOr kn f1 f2 q st (8 + 6 * kp st) 0 (becZ V (8 + 6 * kp st) 1) r h'))) := by
  show XW mX3_does 9 0 0 0 [some (.ref 0), none, none, none, none, none] [] (HP Z) _
  obtain ⟨hc, c20, hl, l8, ok, hf, hdi, hfb, hst, st5, hk, hlen, l120⟩ := id ci
  refine XW.aload_n 1 dX3_does_0 rfl rfl ?_
  refine XW.getf 4 (v := .ref 45) f3_31 dX3_does_1 rfl rfl rfl ?_
  refine XW.callV 7 (vs := []) (rest := []) (mcr := 0) (msr := 0) c3_191 dX3_does_4 rfl rfl (by decide) (Nat.le_of_ble_eq_true rfl) rfl rfl (Nat.le_of_ble_eq_true rfl) rfl (c_read hlen l120) (fun r h1 hq => ?_)
  obtain ⟨rfl, rfl⟩ := hq
  have hq60 := rdAll_q (b := Z.2.1 46) (len := len) (kn := Z.2.1 47) (f1 := Z.2.1 48) (f2 := Z.2.1 49)
  generalize eR : rdAll (Z.2.1 46) len (Z.2.1 47) (Z.2.1 48) (Z.2.1 49) = rr at hq60 ⊢
  obtain ⟨fl, q, kk, kn, f1, f2⟩ := rr
  dsimp only at hq60
  have scr := SCR_mk Z (nI q) (nI kk) kn f1 f2
  have v3 : (sI (sA (sA (sA (sI Z 45 3 (nI q)) 47 kn) 48 f1) 49 f2) 45 2 (nI kk)).1 45 3 = nI q := rfl
  have v47 : (sI (sA (sA (sA (sI Z 45 3 (nI q)) 47 kn) 48 f1) 49 f2) 45 2 (nI kk)).2.1 47 = kn := rfl
  have v48 : (sI (sA (sA (sA (sI Z 45 3 (nI q)) 47 kn) 48 f1) 49 f2) 45 2 (nI kk)).2.1 48 = f1 := rfl
  have v49 : (sI (sA (sA (sA (sI Z 45 3 (nI q)) 47 kn) 48 f1) 49 f2) 45 2 (nI kk)).2.1 49 = f2 := rfl
  refine XW.eqs (st' := [.int fl]) (h' := HP (sI (sA (sA (sA (sI Z 45 3 (nI q)) 47 kn) 48 f1) 49 f2) 45 2 (nI kk))) rfl rfl rfl ?_
  generalize sI (sA (sA (sA (sI Z 45 3 (nI q)) 47 kn) 48 f1) 49 f2) 45 2 (nI kk) = V at scr v3 v47 v48 v49 ⊢
  have ciV := ci.scr scr
  refine XW.istore_n 8 (L' := [some (.ref 0), some (.int fl), none, none, none, none]) dX3_does_7 (by decide) rfl rfl rfl ?_
  refine XW.iload_n 9 dX3_does_8 rfl rfl ?_
  refine XW.iconst 10 dX3_does_9 (v := -1) (by decide) rfl ?_
  refine XW.icmp_eq 18 13 dX3_does_10 (by decide) rfl (fun c_10 => ?_) (fun c_10 => ?_)
  · refine XW.aload_n 19 dX3_does_18 rfl rfl ?_
    refine XW.callV 22 (vs := []) (rest := []) (mcr := 0) (msr := 0) c3_194 dX3_does_19 rfl rfl (by decide) (Nat.le_of_ble_eq_true rfl) rfl rfl (Nat.le_of_ble_eq_true rfl) rfl (c_noteState (by rw [scr.1 0 2 (by omega)]; exact hst) st5 (hk.1 st (by omega)).1 (ciV.2.2.2.2.2.2.2.2.2.2.1.1 st (by omega)).2) (fun r h1 hq => ?_)
    obtain ⟨rfl, rfl⟩ := hq
    refine XW.iconst 23 dX3_does_22 (v := 0) (by decide) rfl ?_
    refine XW.istore_n 24 (L' := [some (.ref 0), some (.int fl), some (.int 0), none, none, none]) dX3_does_23 (by decide) rfl rfl rfl ?_
    refine XW.post (l_does (kn := kn) (f1 := f1) (f2 := f2) (q := q) (sj := kp st) (by omega) (hk.1 st (by omega)).1 rfl (q + 1) 0 (becZ V (8 + 6 * kp st) 1) c l (ciV.note (hk.1 st (by omega)).1) (by omega) (by omega) (by have := (hk.1 st (by omega)).1; rw [bec_Ao V (by omega)]; exact v47) (by have := (hk.1 st (by omega)).1; rw [bec_Ao V (by omega)]; exact v48) (by have := (hk.1 st (by omega)).1; rw [bec_Ao V (by omega)]; exact v49) (by have := (hk.1 st (by omega)).1; rw [bec_Io V (by omega)]; exact v3)) (fun r h1 hq => ⟨fl, q, kk, kn, f1, f2, V, rfl, scr, by omega, Or.inr ⟨c_10, hq⟩⟩)
  · refine XW.bipush 15 dX3_does_13 (v := -10) (by decide) rfl ?_
    refine XW.iload_n 16 dX3_does_15 rfl rfl ?_
    refine XW.isub 17 dX3_does_16 rfl ?_
    exact XW.iret dX3_does_17 rfl (⟨fl, q, kk, kn, f1, f2, V, rfl, scr, by omega, Or.inl ⟨c_10, rfl, rfl⟩⟩)
set_option maxHeartbeats 400000 in
set_option maxRecDepth 100000 in
theorem t_back_no {Z : xZ} {c l st len : Nat} {kp : Nat → Nat} (ci : CI Z c l st len kp) (s0 : st = 0) : XC mX3_back 9 0 0 [.ref 0] (HP Z) (fun r h' => r = some (.int (-3)) ∧ h' = HP (rfZ Z 1)) := by
  show XW mX3_back 9 0 0 0 [some (.ref 0)] [] (HP Z) _
  obtain ⟨hc, c20, hl, l8, ok, hf, hdi, hfb, hst, st5, hk, hlen, l120⟩ := id ci
  refine XW.aload_n 1 dX3_back_0 rfl rfl ?_
  refine XW.getf 4 (v := .int (Z.1 0 2)) f3_20 dX3_back_1 rfl rfl rfl ?_
  refine XW.if_ne 14 7 dX3_back_4 (by decide) rfl (fun c_4 => ?_) (fun c_4 => ?_)
  · exact absurd (by rw [hst, s0]; rfl) c_4
  · refine XW.aload_n 8 dX3_back_7 rfl rfl ?_
    refine XW.bipush 10 dX3_back_8 (v := -3) (by decide) rfl ?_
    refine XW.callV 13 (vs := [.int (-3)]) (rest := []) (mcr := 0) (msr := 0) c3_46 dX3_back_10 rfl rfl (by decide) (Nat.le_of_ble_eq_true rfl) rfl rfl (Nat.le_of_ble_eq_true rfl) rfl c_refuse1 (fun r h1 hq => ?_)
    obtain ⟨rfl, rfl⟩ := hq
    refine XW.eqs (h' := HP (rfZ Z 1)) rfl rfl rfl ?_
    refine XW.eqs (st' := [.int (-3)]) rfl rfl rfl ?_
    exact XW.iret dX3_back_13 rfl (⟨rfl, rfl⟩)
set_option maxHeartbeats 400000 in
set_option maxRecDepth 100000 in
theorem t_back_ok {Z : xZ} {c l st len : Nat} {kp : Nat → Nat} (ci : CI Z c l st len kp) (s1 : 1 ≤ st) : XC mX3_back 9 0 0 [.ref 0] (HP Z) (fun r h' => r = some (.int (nI (st - 1))) ∧ h' = HP (becZ (sI Z 0 2 (nI (st - 1))) 1 (8 + 6 * kp (st - 1)))) := by
  show XW mX3_back 9 0 0 0 [some (.ref 0)] [] (HP Z) _
  obtain ⟨hc, c20, hl, l8, ok, hf, hdi, hfb, hst, st5, hk, hlen, l120⟩ := id ci
  refine XW.aload_n 1 dX3_back_0 rfl rfl ?_
  refine XW.getf 4 (v := .int (Z.1 0 2)) f3_20 dX3_back_1 rfl rfl rfl ?_
  refine XW.if_ne 14 7 dX3_back_4 (by decide) rfl (fun c_4 => ?_) (fun c_4 => ?_)
  · refine XW.aload_n 15 dX3_back_14 rfl rfl ?_
    refine XW.dup 16 dX3_back_15 rfl rfl ?_
    refine XW.getf 19 (v := .int (Z.1 0 2)) f3_20 dX3_back_16 rfl rfl rfl ?_
    refine XW.iconst 20 dX3_back_19 (v := 1) (by decide) rfl ?_
    refine XW.isub 21 dX3_back_20 rfl ?_
    refine XW.eqs (st' := [.int (nI (st - 1)), .ref 0]) rfl (by rw [show Z.1 0 2 - 1 = nI (st - 1) from ns hst (n := 1) rfl (by omega)]) rfl ?_
    refine XW.putf 24 (h' := HP (sI Z 0 2 (nI (st - 1)))) (p3_20 _) dX3_back_21 rfl (Nat.le_of_ble_eq_true rfl) (xfit_i _) rfl rfl ?_
    have hk1 := hk.1 (st - 1) (by omega)
    refine XW.aload_n 25 dX3_back_24 rfl rfl ?_
    refine XW.getf 28 (v := .ref 1) f3_10 dX3_back_25 rfl rfl rfl ?_
    refine XW.aload_n 29 dX3_back_28 rfl rfl ?_
    refine XW.getf 32 (v := .ref 7) f3_16 dX3_back_29 rfl rfl rfl ?_
    refine XW.aload_n 33 dX3_back_32 rfl rfl ?_
    refine XW.getf 36 (v := .int (nI (st - 1))) f3_20 dX3_back_33 rfl rfl rfl ?_
    refine XW.aald 37 (st - 1) dX3_back_36 rfl rfl (by omega) (by decide) hk1.2 rfl ?_
    refine XW.callV 40 (vs := [.ref (8 + 6 * kp (st - 1))]) (rest := []) (mcr := 0) (msr := 0) c3_212 dX3_back_37 rfl rfl (by decide) (Nat.le_of_ble_eq_true rfl) rfl rfl (Nat.le_of_ble_eq_true rfl) rfl (c_unnote rfl hk1.1) (fun r h1 hq => ?_)
    obtain ⟨rfl, rfl⟩ := hq
    refine XW.aload_n 41 dX3_back_40 rfl rfl ?_
    refine XW.getf 44 (v := .int (nI (st - 1))) f3_20 dX3_back_41 rfl rfl rfl ?_
    exact XW.iret dX3_back_44 rfl ⟨rfl, rfl⟩
  · exact absurd c_4 (by rw [hst]; exact nI_ne0 (by omega) (by omega))
