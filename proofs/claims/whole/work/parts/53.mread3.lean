/-! The reference: the whole text -/
/-- the orders read alike: letters, numbers -/
def REL (q : Nat) (kn f1 f2 lt nu : Nat → Int32) : Prop := ∀ j, j < q → lt j = kn j ∧ NUM (kn j) j nu f1 f2
theorem oC_keep {b : Nat → Int32} {len q k : Nat} {f1 f2 : Nat → Int32} {j : Nat} (h : j ≠ q) : (oC b len q k f1 f2).2.2.1 j = f1 j ∧ (oC b len q k f1 f2).2.2.2 j = f2 j := by
  have u : ∀ (f : Nat → Int32) (v : Int32), upd f q v j = f j := fun f v => by unfold upd; rw [if_neg h]
  unfold oC
  split
  · split
    · exact ⟨u _ _, rfl⟩
    · exact ⟨rfl, rfl⟩
  · split
    · split
      · split
        · exact ⟨u _ _, u _ _⟩
        · exact ⟨u _ _, u _ _⟩
      · exact ⟨u _ _, rfl⟩
    · split
      · split
        · exact ⟨u _ _, rfl⟩
        · exact ⟨u _ _, rfl⟩
      · split
        · exact ⟨rfl, rfl⟩
        · exact ⟨rfl, rfl⟩
theorem REL.step {q : Nat} {kn f1 f2 lt nu nu2 gA gB : Nat → Int32} {c : Int32} (h : REL q kn f1 f2 lt nu) (hk : ∀ j, j ≠ q → gA j = f1 j ∧ gB j = f2 j) (hn : ∀ j, j < 2 * q → nu2 j = nu j) (hN : NUM c q nu2 gA gB) : REL (q + 1) (upd kn q c) gA gB (upd lt q c) nu2 := by
  intro j hj
  by_cases e : j = q
  · subst e
    have u : ∀ f : Nat → Int32, upd f j c j = c := fun f => by unfold upd; rw [if_pos rfl]
    rw [u, u]; exact ⟨rfl, hN⟩
  · have u : ∀ f : Nat → Int32, upd f q c j = f j := fun f => by unfold upd; rw [if_neg e]
    have h1 := h j (by omega)
    rw [u, u]
    refine ⟨h1.1, fun g => ?_, fun g => ?_⟩
    · rw [hn _ (by omega), (hk j e).1]; exact h1.2.1 g
    · rw [hn _ (by omega), (hk j e).2]; exact h1.2.2 g
def RDr (Z : xZ) (X : rdT) (r : Option Value) (h' : xH) : Prop := ∃ V, h' = HP V ∧ MCH Z V ∧ ((X.1 = -1 ∧ r = some (.int 1) ∧ V.1 53 12 = nI X.2.1 ∧ REL X.2.1 X.2.2.2.1 X.2.2.2.2.1 X.2.2.2.2.2 (V.2.1 61) (V.2.1 62)) ∨ (¬ X.1 = -1 ∧ r = some (.int 0) ∧ V.1 53 14 = X.1))
set_option maxHeartbeats 400000 in
set_option maxRecDepth 100000 in
theorem q_pos2 {q : Nat} (h : ¬ q = 0) (h2 : q < 2 ^ 31) : 0 < nI q := Int32.not_le.mp (q_pos h h2)
set_option maxHeartbeats 400000 in
set_option maxRecDepth 100000 in
theorem l_isRead {Z : xZ} {len : Nat} (hb : Z.1 53 6 = nI len) (l120 : len ≤ 120) : ∀ (n : Nat) (k q : Nat) (W : xZ) (kn f1 f2 : Nat → Int32), k ≤ len → len < k + n → 2 * q ≤ k → (q = 0 → k < len) → W.1 53 12 = nI q → MCH Z W → REL q kn f1 f2 (W.2.1 61) (W.2.1 62) → XW mX4_isRead 6 0 0 14 [some (.ref 53)] [] (HP (sI W 53 13 (nI k))) (fun r h' => RDr Z (rdC (Z.2.1 58) len n q k kn f1 f2) r h') := by
  intro n
  induction n with
  | zero => intro k q W kn f1 f2 g0 g1 g2 g3 g4 g5 g6; omega
  | succ n ih =>
    intro k q W kn f1 f2 g0 g1 g2 g3 g4 g5 g6
    have hoW := g4
    have hM := g5
    have hbW : W.1 53 6 = nI len := (hM.1 53 6 (by omega)).trans hb
    have hB : W.2.1 58 = Z.2.1 58 := hM.2.1 58 (by omega) (by omega)
    refine XW.aload_n 15 dX4_isRead_14 rfl rfl ?_
    refine XW.getf 18 (v := .int (nI k)) f4_201 dX4_isRead_15 rfl rfl rfl ?_
    refine XW.aload_n 19 dX4_isRead_18 rfl rfl ?_
    refine XW.getf 22 (v := .int (W.1 53 6)) f4_198 dX4_isRead_19 rfl rfl rfl ?_
    refine XW.icmp_geN 41 25 k len dX4_isRead_22 (by decide) rfl rfl hbW (by omega) (by omega) (fun c_22 => ?_) (fun c_22 => ?_)
    · refine XW.aload_n 42 dX4_isRead_41 rfl rfl ?_
      refine XW.getf 45 (v := .int (W.1 53 12)) f4_216 dX4_isRead_42 rfl rfl rfl ?_
      refine XW.if_gt 59 48 dX4_isRead_45 (by decide) rfl (fun c_45 => ?_) (fun c_45 => ?_)
      · refine XW.iconst 60 dX4_isRead_59 (v := 1) (by decide) rfl ?_
        refine XW.goto 64 dX4_isRead_60 (by decide) ?_
        exact XW.iret dX4_isRead_64 rfl (⟨_, rfl, hM.i (Or.inr (Or.inl rfl)), Or.inl (by rw [rdC_e (by omega)]; exact ⟨rfl, rfl, (sI_2 _ _ (by omega)).trans hoW, g6⟩)⟩)
      · exact absurd (by rw [hoW]; exact q_pos2 (by omega) (by omega)) c_45
    · refine XW.aload_n 26 dX4_isRead_25 rfl rfl ?_
      refine XW.callV 29 (vs := []) (rest := []) (mcr := 0) (msr := 0) c4_228 dX4_isRead_26 rfl rfl (by decide) (Nat.le_of_ble_eq_true rfl) rfl rfl (Nat.le_of_ble_eq_true rfl) rfl (k_takesOrder (Z := W) (k := k) hbW l120 c_22 hoW (by omega) f1 f2) (fun r h1 hq => ?_)
      obtain ⟨rfl, ht, hf⟩ := hq
      rw [hB] at ht hf
      refine XW.eqs (st' := [.int (b2i (oC (Z.2.1 58) len q k f1 f2).1)]) rfl (by rw [hB]; rfl) rfl ?_
      have ol := oC_le (b := (Z.2.1 58)) (q := q) (f1 := f1) (f2 := f2) c_22
      have okp := fun j (hj : j ≠ q) => oC_keep (b := (Z.2.1 58)) (len := len) (k := k) (f1 := f1) (f2 := f2) hj
      have rt := rdC_t (b := (Z.2.1 58)) (m := n) (q := q) (kn := kn) (f1 := f1) (f2 := f2) c_22
      have rf := rdC_f (b := (Z.2.1 58)) (m := n) (q := q) (kn := kn) (f1 := f1) (f2 := f2) c_22
      generalize oC (Z.2.1 58) len q k f1 f2 = so at ht hf ol okp rt rf ⊢
      obtain ⟨ok, k2, gA, gB⟩ := so
      dsimp only at ht hf ol okp rt rf
      refine XW.eqs (st' := [.int (b2i ok)]) rfl rfl rfl ?_
      refine XW.if_neB 34 32 dX4_isRead_29 (by decide) rfl (fun c_29 => ?_) (fun c_29 => ?_)
      · have ok2 := ol.2 c_29
        obtain ⟨nu, rfl, n1, n2⟩ := ht c_29
        have hM2 : MCH Z (sI (sA (sA W 61 (upd (W.2.1 61) q (bh (Z.2.1 58) len k))) 62 nu) 53 12 (nI (q + 1))) := ((hM.a (Or.inl rfl)).a (Or.inr rfl)).i (Or.inl rfl)
        have r12 : (sI (sA (sA W 61 (upd (W.2.1 61) q (bh (Z.2.1 58) len k))) 62 nu) 53 12 (nI (q + 1))).1 53 12 = nI (q + 1) := rfl
        have rel2 : REL (q + 1) (upd kn q (bh (Z.2.1 58) len k)) gA gB ((sI (sA (sA W 61 (upd (W.2.1 61) q (bh (Z.2.1 58) len k))) 62 nu) 53 12 (nI (q + 1))).2.1 61) ((sI (sA (sA W 61 (upd (W.2.1 61) q (bh (Z.2.1 58) len k))) 62 nu) 53 12 (nI (q + 1))).2.1 62) := g6.step okp n1 n2
        generalize sI (sA (sA W 61 (upd (W.2.1 61) q (bh (Z.2.1 58) len k))) 62 nu) 53 12 (nI (q + 1)) = W2 at hM2 r12 rel2 ⊢
        have hbW2 : W2.1 53 6 = nI len := (hM2.1 53 6 (by omega)).trans hb
        have hB2 : W2.2.1 58 = Z.2.1 58 := hM2.2.1 58 (by omega) (by omega)
        have kb := k_blanks (Z := W2) (k := k2) hbW2 l120 ol.1
        rw [hB2] at kb
        refine XW.aload_n 35 dX4_isRead_34 rfl rfl ?_
        refine XW.callV 38 (vs := []) (rest := []) (mcr := 0) (msr := 0) c4_210 dX4_isRead_35 rfl rfl (by decide) (Nat.le_of_ble_eq_true rfl) rfl rfl (Nat.le_of_ble_eq_true rfl) rfl kb (fun r h1 hq => ?_)
        obtain ⟨rfl, rfl⟩ := hq
        have sk := skF_le (b := (Z.2.1 58)) (len := len) (k := k2) ol.1
        refine XW.goto 14 dX4_isRead_38 (by decide) ?_
        refine XW.post (ih (skF (Z.2.1 58) len k2) (q + 1) W2 _ gA gB sk.2 (by omega) (by omega) (by omega) r12 hM2 rel2) (fun r h1 hq => ?_)
        rw [rt c_29]; exact hq
      · refine XW.iconst 33 dX4_isRead_32 (v := 0) (by decide) rfl ?_
        exact XW.iret dX4_isRead_33 rfl (by
              obtain ⟨V, h, hv, hw⟩ := hf c_29
              refine ⟨V, h, hM.trans hv, Or.inr ?_⟩
              rw [rf c_29]
              exact ⟨nI_ne_m1 (by omega), rfl, hw⟩)
set_option maxHeartbeats 400000 in
set_option maxRecDepth 100000 in
theorem l_read_empty {Z : xZ} {len : Nat} (hb : Z.1 53 6 = nI len) (l120 : len ≤ 120) : XW mX4_isRead 6 0 0 14 [some (.ref 53)] [] (HP (sI (sI Z 53 12 (nI 0)) 53 13 (nI len))) (fun r h' => r = some (.int 0) ∧ h' = HP (sI (sI (sI Z 53 12 (nI 0)) 53 13 (nI len)) 53 14 (Z.1 53 6))) := by
  refine XW.aload_n 15 dX4_isRead_14 rfl rfl ?_
  refine XW.getf 18 (v := .int (nI len)) f4_201 dX4_isRead_15 rfl rfl rfl ?_
  refine XW.aload_n 19 dX4_isRead_18 rfl rfl ?_
  refine XW.getf 22 (v := .int (Z.1 53 6)) f4_198 dX4_isRead_19 rfl rfl rfl ?_
  refine XW.icmp_geN 41 25 len len dX4_isRead_22 (by decide) rfl rfl hb (by omega) (by omega) (fun c_22 => ?_) (fun c_22 => ?_)
  · refine XW.aload_n 42 dX4_isRead_41 rfl rfl ?_
    refine XW.getf 45 (v := .int (nI 0)) f4_216 dX4_isRead_42 rfl rfl rfl ?_
    refine XW.if_gt 59 48 dX4_isRead_45 (by decide) rfl (fun c_45 => ?_) (fun c_45 => ?_)
    · exact absurd c_45 (by decide)
    · refine XW.aload_n 49 dX4_isRead_48 rfl rfl ?_
      refine XW.aload_n 50 dX4_isRead_49 rfl rfl ?_
      refine XW.getf 53 (v := .int (Z.1 53 6)) f4_198 dX4_isRead_50 rfl rfl rfl ?_
      refine XW.callV 56 (vs := [.int (Z.1 53 6)]) (rest := []) (mcr := 0) (msr := 0) c4_213 dX4_isRead_53 rfl rfl (by decide) (Nat.le_of_ble_eq_true rfl) rfl rfl (Nat.le_of_ble_eq_true rfl) rfl (k_fails (Z := sI (sI Z 53 12 (nI 0)) 53 13 (nI len)) _) (fun r h1 hq => ?_)
      obtain ⟨rfl, rfl⟩ := hq
      refine XW.eqs (st' := [.int 0]) rfl rfl rfl ?_
      refine XW.if_eq 63 59 dX4_isRead_56 (by decide) rfl (fun c_56 => ?_) (fun c_56 => ?_)
      · refine XW.iconst 64 dX4_isRead_63 (v := 0) (by decide) rfl ?_
        exact XW.iret dX4_isRead_64 rfl (⟨rfl, rfl⟩)
      · exact absurd c_56 (by decide)
  · omega
set_option maxHeartbeats 400000 in
set_option maxRecDepth 100000 in
theorem k_isRead {Z : xZ} {len : Nat} (hb : Z.1 53 6 = nI len) (l120 : len ≤ 120) (kn f1 f2 : Nat → Int32) : XC mX4_isRead 6 0 0 [.ref 53] (HP Z) (fun r h' => RDr Z (rdAll (Z.2.1 58) len kn f1 f2) r h') := by
  show XW mX4_isRead 6 0 0 0 [some (.ref 53)] [] (HP Z) _
  refine XW.aload_n 1 dX4_isRead_0 rfl rfl ?_
  refine XW.iconst 2 dX4_isRead_1 (v := 0) (by decide) rfl ?_
  refine XW.putf 5 (h' := HP (sI Z 53 13 0)) (p4_201 _) dX4_isRead_2 rfl (Nat.le_of_ble_eq_true rfl) (xfit_i _) rfl rfl ?_
  refine XW.aload_n 6 dX4_isRead_5 rfl rfl ?_
  refine XW.iconst 7 dX4_isRead_6 (v := 0) (by decide) rfl ?_
  refine XW.putf 10 (h' := HP (sI (sI Z 53 13 0) 53 12 0)) (p4_216 _) dX4_isRead_7 rfl (Nat.le_of_ble_eq_true rfl) (xfit_i _) rfl rfl ?_
  refine XW.eqs (h' := HP (sI (sI Z 53 12 (nI 0)) 53 13 (nI 0))) rfl rfl (congrArg HP (sI_comm _ (by decide) _ _)) ?_
  refine XW.aload_n 11 dX4_isRead_10 rfl rfl ?_
  refine XW.callV 14 (vs := []) (rest := []) (mcr := 0) (msr := 0) c4_210 dX4_isRead_11 rfl rfl (by decide) (Nat.le_of_ble_eq_true rfl) rfl rfl (Nat.le_of_ble_eq_true rfl) rfl (k_blanks (Z := sI Z 53 12 (nI 0)) (k := 0) hb l120 (by omega)) (fun r h1 hq => ?_)
  obtain ⟨rfl, rfl⟩ := hq
  have sk0 := skF_le (b := (Z.2.1 58)) (len := len) (k := 0) (by omega)
  by_cases he : skF (Z.2.1 58) len 0 = len
  · refine XW.eqs (h' := HP (sI (sI Z 53 12 (nI 0)) 53 13 (nI len))) rfl rfl (by show HP (sI _ 53 13 (nI (skF (Z.2.1 58) len 0))) = _; rw [he]) ?_
    refine XW.post (l_read_empty hb l120) (fun r h1 hq => ?_)
    obtain ⟨rfl, rfl⟩ := hq
    refine ⟨_, rfl, ((MCH.rfl'.i (Or.inl rfl)).i (Or.inr (Or.inl rfl))).i (Or.inr (Or.inr rfl)), Or.inr ?_⟩
    unfold rdAll; rw [if_pos he]
    exact ⟨nI_ne_m1 (by omega), rfl, by rw [sI_1]; exact hb⟩
  · refine XW.post (l_isRead hb l120 (len + 1) (skF (Z.2.1 58) len 0) 0 (sI Z 53 12 (nI 0)) kn f1 f2 (by omega) (by omega) (by omega) (by omega) rfl (MCH.rfl'.i (Or.inl rfl)) (fun j hj => absurd hj (by omega))) (fun r h1 hq => ?_)
    unfold rdAll; rw [if_neg he]; exact hq
