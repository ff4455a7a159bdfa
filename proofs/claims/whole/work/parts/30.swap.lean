/-! The class: swapping -/
theorem rowOK_set {f : Nat → Int32} {l c i : Nat} (p : Nat) (hf : rowOK f l c) (hi : i < c) (hc : c ≤ 32) : rowOK (upd f p (nI i)) l c := by
  intro q hq
  by_cases e : q = p
  · subst e; rw [rv_upd_self _ _ _ (by omega)]; exact ⟨by unfold upd; rw [if_pos rfl], hi⟩
  · rw [rv_upd_ne _ _ e]
    have := hf q hq
    exact ⟨by unfold upd; rw [if_neg e]; exact this.1, this.2⟩
theorem rowDI_set {f : Nat → Int32} {l i : Nat} (p : Nat) (hd : rowDI f l) (hn : ∀ q, q < l → rv f q ≠ i) (hi : i < 2 ^ 31) : rowDI (upd f p (nI i)) l := by
  intro a b hab hb
  by_cases e : b = p
  · subst e; rw [rv_upd_self _ _ _ hi, rv_upd_ne _ _ (by omega)]; exact hn a (by omega)
  · rw [rv_upd_ne _ _ e]
    by_cases e2 : a = p
    · subst e2; rw [rv_upd_self _ _ _ hi]; exact fun q => hn b hb q.symm
    · rw [rv_upd_ne _ _ e2]; exact hd a b hab hb
theorem upd_same {f g : Nat → Int32} {p : Nat} (h : ∀ k, k ≠ p → g k = f k) (v : Int32) : upd g p v = upd f p v := by
  funext k; unfold upd; by_cases e : k = p
  · simp [e]
  · simp [e, h k e]
theorem upd_back {f g : Nat → Int32} {p : Nat} (h : ∀ k, k ≠ p → g k = f k) : upd g p (f p) = f := by
  funext k; unfold upd; by_cases e : k = p
  · simp [e]
  · simp [e, h k e]
/-- A SWAP: the first exchange at a place, among so many from i on -/
def swI (ap : Nat → Nat → UInt32) (am : Int32) (row : Nat → Int32) (l : Nat) (p : Nat) : Nat → Nat → Option (Nat → Int32)
  | 0, _ => none
  | m + 1, i => if bitB am (nI i) = true ∧ lsV ap (rv row) l < lsV ap (rv (upd row p (nI i))) l then some (upd row p (nI i)) else swI ap am row l p m (i + 1)
def swO (ap : Nat → Nat → UInt32) (am fx : Int32) (row : Nat → Int32) (l c : Nat) : Nat → Nat → Bool × (Nat → Int32)
  | 0, _ => (false, row)
  | m + 1, p => if bitB fx (row p) = true then swO ap am fx row l c m (p + 1) else match swI ap am row l p c 0 with
    | some r => (true, r)
    | none => swO ap am fx row l c m (p + 1)
theorem swI_t {ap : Nat → Nat → UInt32} {am : Int32} {row : Nat → Int32} {l p m i : Nat} (h1 : bitB am (nI i) = true) (h2 : lsV ap (rv row) l < lsV ap (rv (upd row p (nI i))) l) : swI ap am row l p (m + 1) i = some (upd row p (nI i)) := if_pos ⟨h1, h2⟩
theorem swI_f {ap : Nat → Nat → UInt32} {am : Int32} {row : Nat → Int32} {l p m i : Nat} (h : ¬ (bitB am (nI i) = true ∧ lsV ap (rv row) l < lsV ap (rv (upd row p (nI i))) l)) : swI ap am row l p (m + 1) i = swI ap am row l p m (i + 1) := if_neg h
theorem swO_x {ap : Nat → Nat → UInt32} {am fx : Int32} {row : Nat → Int32} {l c m p : Nat} (h : bitB fx (row p) = true) : swO ap am fx row l c (m + 1) p = swO ap am fx row l c m (p + 1) := if_pos h
theorem swO_s {ap : Nat → Nat → UInt32} {am fx : Int32} {row r : Nat → Int32} {l c m p : Nat} (h : bitB fx (row p) = false) (h2 : swI ap am row l p c 0 = some r) : swO ap am fx row l c (m + 1) p = (true, r) := by
  show (if _ then _ else _) = _; rw [if_neg (by rw [h]; decide), h2]
theorem swO_n {ap : Nat → Nat → UInt32} {am fx : Int32} {row : Nat → Int32} {l c m p : Nat} (h : bitB fx (row p) = false) (h2 : swI ap am row l p c 0 = none) : swO ap am fx row l c (m + 1) p = swO ap am fx row l c m (p + 1) := by
  show (if _ then _ else _) = _; rw [if_neg (by rw [h]; decide), h2]
set_option maxHeartbeats 4000000 in
set_option maxRecDepth 100000 in
theorem l_swap_99 {Z : xZ} {c l : Nat} {am : Int32} (hc : Z.1 1 0 = nI c) (c20 : c ≤ 20) (hl : Z.1 1 7 = nI l) (l8 : l ≤ 8) (hf : rowOK (Z.2.1 6) l c) (hdi : rowDI (Z.2.1 6) l) (hni : ∀ i, i < c → bitB am (nI i) = true → ∀ q, q < l → rv (Z.2.1 6) q ≠ i) (hG : gapOK (Z.2.2.1 51) (Z.2.1 4) (Z.2.1 2) c) (ok : okS (Z.2.1 2) (Z.2.1 3) (Z.2.1 4) (Z.2.1 5)) {p : Nat} (pl : p < l) {X : Bool × (Nat → Int32)} {Rc : Nat → Int32} (hRc : ∀ k, k ≠ p → Rc k = Z.2.1 6 k) (KK : XW mX0_swapOne 2 0 0 16 [some (.ref 50), some (.ref 1), some (.int am), some (.float (lsV (apG (Z.2.1 4) (Z.2.1 2)) (rv (Z.2.1 6)) l)), some (.int (nI (p + 1))), none, none] [] (HP (sA Z 6 (Z.2.1 6))) (fun r h' => r = some (.int (b2i (X).1)) ∧ h' = HP (sA Z 6 (X).2))) : XW mX0_swapOne 2 0 0 99 [some (.ref 50), some (.ref 1), some (.int am), some (.float (lsV (apG (Z.2.1 4) (Z.2.1 2)) (rv (Z.2.1 6)) l)), some (.int (nI p)), some (.int (Z.2.1 6 p)), none] [] (HP (sA Z 6 Rc)) (fun r h' => r = some (.int (b2i (X).1)) ∧ h' = HP (sA Z 6 (X).2)) := by
  refine XW.aload_n 100 dX0_swapOne_99 rfl rfl ?_
  refine XW.getf 103 (v := .ref 6) f0_35 dX0_swapOne_100 rfl rfl rfl ?_
  refine XW.iload 105 dX0_swapOne_103 rfl rfl ?_
  refine XW.iload 107 dX0_swapOne_105 rfl rfl ?_
  refine XW.iast 108 (h' := HP (sA (sA Z 6 Rc) 6 (upd Rc p (Z.2.1 6 p)))) p dX0_swapOne_107 rfl rfl (by omega) (by decide) rfl rfl ?_
  refine XW.iinc 111 (y := nI (p + 1)) (L' := [some (.ref 50), some (.ref 1), some (.int am), some (.float (lsV (apG (Z.2.1 4) (Z.2.1 2)) (rv (Z.2.1 6)) l)), some (.int (nI (p + 1))), some (.int (Z.2.1 6 p)), none]) dX0_swapOne_108 rfl (na rfl rfl) (by decide) rfl rfl rfl ?_
  refine XW.goto 16 dX0_swapOne_111 (by decide) ?_
  refine XW.weak [true, true, true, true, true, false, true] (L' := [some (.ref 50), some (.ref 1), some (.int am), some (.float (lsV (apG (Z.2.1 4) (Z.2.1 2)) (rv (Z.2.1 6)) l)), some (.int (nI (p + 1))), none, none]) rfl ?_
  refine XW.eqs (L' := [some (.ref 50), some (.ref 1), some (.int am), some (.float (lsV (apG (Z.2.1 4) (Z.2.1 2)) (rv (Z.2.1 6)) l)), some (.int (nI (p + 1))), none, none]) (h' := HP (sA Z 6 (Z.2.1 6))) (by rfl) rfl (by rw [upd_back hRc]; rfl) ?_
  exact KK
set_option maxHeartbeats 4000000 in
set_option maxRecDepth 100000 in
theorem l_swap_i {Z : xZ} {c l : Nat} {am : Int32} (hc : Z.1 1 0 = nI c) (c20 : c ≤ 20) (hl : Z.1 1 7 = nI l) (l8 : l ≤ 8) (hf : rowOK (Z.2.1 6) l c) (hdi : rowDI (Z.2.1 6) l) (hni : ∀ i, i < c → bitB am (nI i) = true → ∀ q, q < l → rv (Z.2.1 6) q ≠ i) (hG : gapOK (Z.2.2.1 51) (Z.2.1 4) (Z.2.1 2) c) (ok : okS (Z.2.1 2) (Z.2.1 3) (Z.2.1 4) (Z.2.1 5)) {p : Nat} (pl : p < l) (hnf : bitB (Z.1 1 5) (Z.2.1 6 p) = false) {X : Bool × (Nat → Int32)} (KK : swI (apG (Z.2.1 4) (Z.2.1 2)) am (Z.2.1 6) l p c 0 = none → XW mX0_swapOne 2 0 0 16 [some (.ref 50), some (.ref 1), some (.int am), some (.float (lsV (apG (Z.2.1 4) (Z.2.1 2)) (rv (Z.2.1 6)) l)), some (.int (nI (p + 1))), none, none] [] (HP (sA Z 6 (Z.2.1 6))) (fun r h' => r = some (.int (b2i (X).1)) ∧ h' = HP (sA Z 6 (X).2))) : ∀ (n : Nat) (i : Nat) (Rc : Nat → Int32), i ≤ c → c < i + n → (∀ k, k ≠ p → Rc k = Z.2.1 6 k) → (∀ r, swI (apG (Z.2.1 4) (Z.2.1 2)) am (Z.2.1 6) l p (c - i) i = some r → X = (true, r)) → (swI (apG (Z.2.1 4) (Z.2.1 2)) am (Z.2.1 6) l p (c - i) i = none → swI (apG (Z.2.1 4) (Z.2.1 2)) am (Z.2.1 6) l p c 0 = none) → XW mX0_swapOne 2 0 0 37 [some (.ref 50), some (.ref 1), some (.int am), some (.float (lsV (apG (Z.2.1 4) (Z.2.1 2)) (rv (Z.2.1 6)) l)), some (.int (nI p)), some (.int (Z.2.1 6 p)), some (.int (nI i))] [] (HP (sA Z 6 Rc)) (fun r h' => r = some (.int (b2i (X).1)) ∧ h' = HP (sA Z 6 (X).2)) := by
  intro n
  induction n with
  | zero => intro i Rc g0 g1 g2 g3 g4; omega
  | succ n ih =>
    intro i Rc g0 g1 g2 g3 g4
    have hRc := g2
    have h1 := g3
    have h2 := g4
    refine XW.iload 39 dX0_swapOne_37 rfl rfl ?_
    refine XW.aload_n 40 dX0_swapOne_39 rfl rfl ?_
    refine XW.getf 43 (v := .int (Z.1 1 0)) f0_19 dX0_swapOne_40 rfl rfl rfl ?_
    refine XW.icmp_geN 99 46 i c dX0_swapOne_43 (by decide) rfl rfl hc (by omega) (by omega) (fun c_43 => ?_) (fun c_43 => ?_)
    · refine XW.weak [true, true, true, true, true, true, false] (L' := [some (.ref 50), some (.ref 1), some (.int am), some (.float (lsV (apG (Z.2.1 4) (Z.2.1 2)) (rv (Z.2.1 6)) l)), some (.int (nI p)), some (.int (Z.2.1 6 p)), none]) rfl ?_
      exact l_swap_99 hc c20 hl l8 hf hdi hni hG ok pl hRc (KK (h2 (by rw [show c - i = 0 by omega]; rfl)))
    · refine XW.aload_n 47 dX0_swapOne_46 rfl rfl ?_
      refine XW.iload 49 dX0_swapOne_47 rfl rfl ?_
      refine XW.callV 52 (vs := [.int (Z.2.1 6 p)]) (rest := []) (mcr := 0) (msr := 0) c0_42 dX0_swapOne_49 rfl rfl (by decide) (Nat.le_of_ble_eq_true rfl) rfl rfl (Nat.le_of_ble_eq_true rfl) rfl (c_isFixed _) (fun r h1 hq => ?_)
      obtain ⟨rfl, rfl⟩ := hq
      refine XW.eqs (st' := [.int (b2i (bitB (Z.1 1 5) (Z.2.1 6 p)))]) rfl rfl rfl ?_
      refine XW.if_neB 99 55 dX0_swapOne_52 (by decide) rfl (fun c_52 => ?_) (fun c_52 => ?_)
      · rw [hnf] at c_52; cases c_52
      · refine XW.iload_n 56 dX0_swapOne_55 rfl rfl ?_
        refine XW.iload 58 dX0_swapOne_56 rfl rfl ?_
        refine XW.ishr 59 dX0_swapOne_58 rfl ?_
        refine XW.iconst 60 dX0_swapOne_59 (v := 1) (by decide) rfl ?_
        refine XW.iand 61 dX0_swapOne_60 rfl ?_
        refine XW.iconst 62 dX0_swapOne_61 (v := 1) (by decide) rfl ?_
        refine XW.icmp_ne 93 65 dX0_swapOne_62 (by decide) rfl (fun c_62 => ?_) (fun c_62 => ?_)
        · have c0 : ¬ bitB am (nI i) = true := by simp [bitB, c_62]
          refine XW.iinc 96 (y := nI (i + 1)) (L' := [some (.ref 50), some (.ref 1), some (.int am), some (.float (lsV (apG (Z.2.1 4) (Z.2.1 2)) (rv (Z.2.1 6)) l)), some (.int (nI p)), some (.int (Z.2.1 6 p)), some (.int (nI (i + 1)))]) dX0_swapOne_93 rfl (na rfl rfl) (by decide) rfl rfl rfl ?_
          refine XW.goto 37 dX0_swapOne_96 (by decide) ?_
          exact ih (i + 1) _ (by omega) (by omega) hRc (fun r q => h1 r (by rw [show c - i = (c - (i + 1)) + 1 by omega, swI_f (fun q => c0 q.1)]; exact q)) (fun q => h2 (by rw [show c - i = (c - (i + 1)) + 1 by omega, swI_f (fun q => c0 q.1)]; exact q))
        · have c0 : bitB am (nI i) = true := by simp [bitB, c_62]
          refine XW.aload_n 66 dX0_swapOne_65 rfl rfl ?_
          refine XW.getf 69 (v := .ref 6) f0_35 dX0_swapOne_66 rfl rfl rfl ?_
          refine XW.iload 71 dX0_swapOne_69 rfl rfl ?_
          refine XW.iload 73 dX0_swapOne_71 rfl rfl ?_
          refine XW.iast 74 (h' := HP (sA (sA Z 6 Rc) 6 (upd Rc p (nI i)))) p dX0_swapOne_73 rfl rfl (by omega) (by decide) rfl rfl ?_
          refine XW.eqs (h' := HP (sA Z 6 (upd (Z.2.1 6) p (nI i)))) rfl rfl (by rw [upd_same hRc]; rfl) ?_
          refine XW.aload_n 75 dX0_swapOne_74 rfl rfl ?_
          refine XW.aload_n 76 dX0_swapOne_75 rfl rfl ?_
          refine XW.getf 79 (v := .ref 6) f0_35 dX0_swapOne_76 rfl rfl rfl ?_
          refine XW.aload_n 80 dX0_swapOne_79 rfl rfl ?_
          refine XW.getf 83 (v := .int (Z.1 1 7)) f0_32 dX0_swapOne_80 rfl rfl rfl ?_
          refine XW.callV 86 (vs := [.ref 6, .int (Z.1 1 7)]) (rest := []) (mcr := 0) (msr := 0) c0_73 dX0_swapOne_83 rfl rfl (by decide) (Nat.le_of_ble_eq_true rfl) rfl rfl (Nat.le_of_ble_eq_true rfl) rfl (v_leastOf6 hl l8 c20 (rowOK_set p hf (by omega) (by omega)) (rowDI_set p hdi (hni i (by omega) c0) (by omega)) hG ok) (fun r h1 hq => ?_)
          obtain ⟨rfl, rfl⟩ := hq
          refine XW.eqs (st' := [.float (lsV (apG (Z.2.1 4) (Z.2.1 2)) (rv (upd (Z.2.1 6) p (nI i))) l)]) rfl rfl rfl ?_
          refine XW.fload_n 87 dX0_swapOne_86 rfl rfl ?_
          refine XW.fcmpU 88 dX0_swapOne_87 (lsV_NF (rowNF ok (rowOK_set p hf (by omega) (by omega)) c20)) (lsV_NF (rowNF ok hf c20)) rfl ?_
          refine XW.if_leU 93 91 dX0_swapOne_88 (by decide) rfl (fun c_88 => ?_) (fun c_88 => ?_)
          · refine XW.iinc 96 (y := nI (i + 1)) (L' := [some (.ref 50), some (.ref 1), some (.int am), some (.float (lsV (apG (Z.2.1 4) (Z.2.1 2)) (rv (Z.2.1 6)) l)), some (.int (nI p)), some (.int (Z.2.1 6 p)), some (.int (nI (i + 1)))]) dX0_swapOne_93 rfl (na rfl rfl) (by decide) rfl rfl rfl ?_
            refine XW.goto 37 dX0_swapOne_96 (by decide) ?_
            exact ih (i + 1) _ (by omega) (by omega) (fun k hk => by unfold upd; rw [if_neg hk]) (fun r q => h1 r (by rw [show c - i = (c - (i + 1)) + 1 by omega, swI_f (fun q => c_88 q.2)]; exact q)) (fun q => h2 (by rw [show c - i = (c - (i + 1)) + 1 by omega, swI_f (fun q => c_88 q.2)]; exact q))
          · refine XW.iconst 92 dX0_swapOne_91 (v := 1) (by decide) rfl ?_
            exact XW.iret dX0_swapOne_92 rfl (by have := h1 (upd (Z.2.1 6) p (nI i)) (by rw [show c - i = (c - (i + 1)) + 1 by omega]; exact swI_t c0 c_88); rw [this]; exact ⟨rfl, rfl⟩)
set_option maxHeartbeats 4000000 in
set_option maxRecDepth 100000 in
theorem l_swap_x {Z : xZ} {c l : Nat} {am : Int32} (hc : Z.1 1 0 = nI c) (c20 : c ≤ 20) (hl : Z.1 1 7 = nI l) (l8 : l ≤ 8) (hf : rowOK (Z.2.1 6) l c) (hdi : rowDI (Z.2.1 6) l) (hni : ∀ i, i < c → bitB am (nI i) = true → ∀ q, q < l → rv (Z.2.1 6) q ≠ i) (hG : gapOK (Z.2.2.1 51) (Z.2.1 4) (Z.2.1 2) c) (ok : okS (Z.2.1 2) (Z.2.1 3) (Z.2.1 4) (Z.2.1 5)) {p : Nat} (pl : p < l) (hnf : bitB (Z.1 1 5) (Z.2.1 6 p) = true) {X : Bool × (Nat → Int32)} (KK : XW mX0_swapOne 2 0 0 16 [some (.ref 50), some (.ref 1), some (.int am), some (.float (lsV (apG (Z.2.1 4) (Z.2.1 2)) (rv (Z.2.1 6)) l)), some (.int (nI (p + 1))), none, none] [] (HP (sA Z 6 (Z.2.1 6))) (fun r h' => r = some (.int (b2i (X).1)) ∧ h' = HP (sA Z 6 (X).2))) : XW mX0_swapOne 2 0 0 37 [some (.ref 50), some (.ref 1), some (.int am), some (.float (lsV (apG (Z.2.1 4) (Z.2.1 2)) (rv (Z.2.1 6)) l)), some (.int (nI p)), some (.int (Z.2.1 6 p)), some (.int (nI 0))] [] (HP (sA Z 6 (Z.2.1 6))) (fun r h' => r = some (.int (b2i (X).1)) ∧ h' = HP (sA Z 6 (X).2)) := by
  refine XW.iload 39 dX0_swapOne_37 rfl rfl ?_
  refine XW.aload_n 40 dX0_swapOne_39 rfl rfl ?_
  refine XW.getf 43 (v := .int (Z.1 1 0)) f0_19 dX0_swapOne_40 rfl rfl rfl ?_
  refine XW.icmp_geN 99 46 0 c dX0_swapOne_43 (by decide) rfl rfl hc (by omega) (by omega) (fun c_43 => ?_) (fun c_43 => ?_)
  · refine XW.weak [true, true, true, true, true, true, false] (L' := [some (.ref 50), some (.ref 1), some (.int am), some (.float (lsV (apG (Z.2.1 4) (Z.2.1 2)) (rv (Z.2.1 6)) l)), some (.int (nI p)), some (.int (Z.2.1 6 p)), none]) rfl ?_
    exact l_swap_99 hc c20 hl l8 hf hdi hni hG ok pl (fun _ _ => rfl) KK
  · refine XW.aload_n 47 dX0_swapOne_46 rfl rfl ?_
    refine XW.iload 49 dX0_swapOne_47 rfl rfl ?_
    refine XW.callV 52 (vs := [.int (Z.2.1 6 p)]) (rest := []) (mcr := 0) (msr := 0) c0_42 dX0_swapOne_49 rfl rfl (by decide) (Nat.le_of_ble_eq_true rfl) rfl rfl (Nat.le_of_ble_eq_true rfl) rfl (c_isFixed _) (fun r h1 hq => ?_)
    obtain ⟨rfl, rfl⟩ := hq
    refine XW.eqs (st' := [.int (b2i (bitB (Z.1 1 5) (Z.2.1 6 p)))]) rfl rfl rfl ?_
    refine XW.if_neB 99 55 dX0_swapOne_52 (by decide) rfl (fun c_52 => ?_) (fun c_52 => ?_)
    · refine XW.weak [true, true, true, true, true, true, false] (L' := [some (.ref 50), some (.ref 1), some (.int am), some (.float (lsV (apG (Z.2.1 4) (Z.2.1 2)) (rv (Z.2.1 6)) l)), some (.int (nI p)), some (.int (Z.2.1 6 p)), none]) rfl ?_
      exact l_swap_99 hc c20 hl l8 hf hdi hni hG ok pl (fun _ _ => rfl) KK
    · rw [hnf] at c_52; cases c_52
-- BEGIN-OUTER
set_option maxHeartbeats 4000000 in
set_option maxRecDepth 100000 in
theorem l_swap_o {Z : xZ} {c l : Nat} {am : Int32} (hc : Z.1 1 0 = nI c) (c20 : c ≤ 20) (hl : Z.1 1 7 = nI l) (l8 : l ≤ 8) (hf : rowOK (Z.2.1 6) l c) (hdi : rowDI (Z.2.1 6) l) (hni : ∀ i, i < c → bitB am (nI i) = true → ∀ q, q < l → rv (Z.2.1 6) q ≠ i) (hG : gapOK (Z.2.2.1 51) (Z.2.1 4) (Z.2.1 2) c) (ok : okS (Z.2.1 2) (Z.2.1 3) (Z.2.1 4) (Z.2.1 5)) : ∀ (n : Nat) (p : Nat), p ≤ l → l < p + n → XW mX0_swapOne 2 0 0 16 [some (.ref 50), some (.ref 1), some (.int am), some (.float (lsV (apG (Z.2.1 4) (Z.2.1 2)) (rv (Z.2.1 6)) l)), some (.int (nI p)), none, none] [] (HP (sA Z 6 (Z.2.1 6))) (fun r h' => r = some (.int (b2i (swO (apG (Z.2.1 4) (Z.2.1 2)) am (Z.1 1 5) (Z.2.1 6) l c (l - p) p).1)) ∧ h' = HP (sA Z 6 (swO (apG (Z.2.1 4) (Z.2.1 2)) am (Z.1 1 5) (Z.2.1 6) l c (l - p) p).2)) := by
  intro n
  induction n with
  | zero => intro p g0 g1; omega
  | succ n ih =>
    intro p g0 g1
    refine XW.iload 18 dX0_swapOne_16 rfl rfl ?_
    refine XW.aload_n 19 dX0_swapOne_18 rfl rfl ?_
    refine XW.getf 22 (v := .int (Z.1 1 7)) f0_32 dX0_swapOne_19 rfl rfl rfl ?_
    refine XW.icmp_geN 114 25 p l dX0_swapOne_22 (by decide) rfl rfl hl (by omega) (by omega) (fun c_22 => ?_) (fun c_22 => ?_)
    · refine XW.iconst 115 dX0_swapOne_114 (v := 0) (by decide) rfl ?_
      exact XW.iret dX0_swapOne_115 rfl (by rw [show l - p = 0 by omega]; exact ⟨rfl, rfl⟩)
    · refine XW.aload_n 26 dX0_swapOne_25 rfl rfl ?_
      refine XW.getf 29 (v := .ref 6) f0_35 dX0_swapOne_26 rfl rfl rfl ?_
      refine XW.iload 31 dX0_swapOne_29 rfl rfl ?_
      refine XW.iald 32 p dX0_swapOne_31 rfl rfl (by omega) (by decide) rfl ?_
      refine XW.istore 34 (L' := [some (.ref 50), some (.ref 1), some (.int am), some (.float (lsV (apG (Z.2.1 4) (Z.2.1 2)) (rv (Z.2.1 6)) l)), some (.int (nI p)), some (.int (Z.2.1 6 p)), none]) dX0_swapOne_32 (by decide) rfl rfl rfl ?_
      refine XW.iconst 35 dX0_swapOne_34 (v := 0) (by decide) rfl ?_
      refine XW.istore 37 (L' := [some (.ref 50), some (.ref 1), some (.int am), some (.float (lsV (apG (Z.2.1 4) (Z.2.1 2)) (rv (Z.2.1 6)) l)), some (.int (nI p)), some (.int (Z.2.1 6 p)), some (.int 0)]) dX0_swapOne_35 (by decide) rfl rfl rfl ?_
      refine XW.eqs rfl rfl rfl ?_
      by_cases hx : bitB (Z.1 1 5) (Z.2.1 6 p) = true
      · refine XW.post (l_swap_x hc c20 hl l8 hf hdi hni hG ok (by omega) hx (ih (p + 1) (by omega) (by omega))) (fun r h1 hq => ?_)
        rw [show l - p = (l - (p + 1)) + 1 by omega, swO_x hx]; exact hq
      · have hx : bitB (Z.1 1 5) (Z.2.1 6 p) = false := by simpa using hx
        cases hs : swI (apG (Z.2.1 4) (Z.2.1 2)) am (Z.2.1 6) l p c 0 with
        | some r =>
          refine XW.post (l_swap_i hc c20 hl l8 hf hdi hni hG ok (by omega) hx (X := (true, r)) (fun q => by rw [hs] at q; cases q) (c + 1) 0 (Z.2.1 6) (by omega) (by omega) (fun _ _ => rfl) (fun r' q => by rw [show c - 0 = c from rfl, hs] at q; cases q; rfl) (fun q => q)) (fun r' h1 hq => ?_)
          rw [show l - p = (l - (p + 1)) + 1 by omega, swO_s hx hs]; exact hq
        | none =>
          refine XW.post (l_swap_i hc c20 hl l8 hf hdi hni hG ok (by omega) hx (fun _ => ih (p + 1) (by omega) (by omega)) (c + 1) 0 (Z.2.1 6) (by omega) (by omega) (fun _ _ => rfl) (fun r' q => by rw [show c - 0 = c from rfl, hs] at q; cases q) (fun q => q)) (fun r' h1 hq => ?_)
          rw [show l - p = (l - (p + 1)) + 1 by omega, swO_n hx hs]; exact hq
set_option maxHeartbeats 4000000 in
set_option maxRecDepth 100000 in
theorem c_swapOne {Z : xZ} {c l : Nat} {am : Int32} (hc : Z.1 1 0 = nI c) (c20 : c ≤ 20) (hl : Z.1 1 7 = nI l) (l8 : l ≤ 8) (hf : rowOK (Z.2.1 6) l c) (hdi : rowDI (Z.2.1 6) l) (hni : ∀ i, i < c → bitB am (nI i) = true → ∀ q, q < l → rv (Z.2.1 6) q ≠ i) (hG : gapOK (Z.2.2.1 51) (Z.2.1 4) (Z.2.1 2) c) (ok : okS (Z.2.1 2) (Z.2.1 3) (Z.2.1 4) (Z.2.1 5)) : XC mX0_swapOne 2 0 0 [.ref 50, .ref 1, .int am] (HP Z) (fun r h' => r = some (.int (b2i (swO (apG (Z.2.1 4) (Z.2.1 2)) am (Z.1 1 5) (Z.2.1 6) l c l 0).1)) ∧ h' = HP (sA Z 6 (swO (apG (Z.2.1 4) (Z.2.1 2)) am (Z.1 1 5) (Z.2.1 6) l c l 0).2)) := by
  show XW mX0_swapOne 2 0 0 0 [some (.ref 50), some (.ref 1), some (.int am), none, none, none, none] [] (HP Z) _
  refine XW.aload_n 1 dX0_swapOne_0 rfl rfl ?_
  refine XW.aload_n 2 dX0_swapOne_1 rfl rfl ?_
  refine XW.getf 5 (v := .ref 6) f0_35 dX0_swapOne_2 rfl rfl rfl ?_
  refine XW.aload_n 6 dX0_swapOne_5 rfl rfl ?_
  refine XW.getf 9 (v := .int (Z.1 1 7)) f0_32 dX0_swapOne_6 rfl rfl rfl ?_
  refine XW.callV 12 (vs := [.ref 6, .int (Z.1 1 7)]) (rest := []) (mcr := 0) (msr := 0) c0_73 dX0_swapOne_9 rfl rfl (by decide) (Nat.le_of_ble_eq_true rfl) rfl rfl (Nat.le_of_ble_eq_true rfl) rfl (v_leastOf6 hl l8 c20 hf hdi hG ok) (fun r h1 hq => ?_)
  obtain ⟨rfl, rfl⟩ := hq
  refine XW.fstore_n 13 (L' := [some (.ref 50), some (.ref 1), some (.int am), some (.float (lsV (apG (Z.2.1 4) (Z.2.1 2)) (rv (Z.2.1 6)) l)), none, none, none]) dX0_swapOne_12 (by decide) rfl rfl rfl ?_
  refine XW.iconst 14 dX0_swapOne_13 (v := 0) (by decide) rfl ?_
  refine XW.istore 16 (L' := [some (.ref 50), some (.ref 1), some (.int am), some (.float (lsV (apG (Z.2.1 4) (Z.2.1 2)) (rv (Z.2.1 6)) l)), some (.int 0), none, none]) dX0_swapOne_14 (by decide) rfl rfl rfl ?_
  refine XW.eqs (L' := [some (.ref 50), some (.ref 1), some (.int am), some (.float (lsV (apG (Z.2.1 4) (Z.2.1 2)) (rv (Z.2.1 6)) l)), some (.int (nI 0)), none, none]) (h' := HP (sA Z 6 (Z.2.1 6))) (by rfl) rfl (by rfl) ?_
  exact l_swap_o hc c20 hl l8 hf hdi hni hG ok (l + 1) 0 (by omega) (by omega)
theorem swI_spec {ap : Nat → Nat → UInt32} {am : Int32} {row r : Nat → Int32} {l p : Nat} : ∀ m i, swI ap am row l p m i = some r → ∃ j, j < i + m ∧ bitB am (nI j) = true ∧ r = upd row p (nI j)
  | 0, i, h => by cases h
  | m + 1, i, h => by
    by_cases c : bitB am (nI i) = true ∧ lsV ap (rv row) l < lsV ap (rv (upd row p (nI i))) l
    · rw [swI_t c.1 c.2] at h; cases h; exact ⟨i, by omega, c.1, rfl⟩
    · rw [swI_f c] at h
      obtain ⟨j, h1, h2, h3⟩ := swI_spec m (i + 1) h
      exact ⟨j, by omega, h2, h3⟩
theorem swO_spec {ap : Nat → Nat → UInt32} {am fx : Int32} {row : Nat → Int32} {l c : Nat} : ∀ m p, ((swO ap am fx row l c m p).1 = false ∧ (swO ap am fx row l c m p).2 = row) ∨ ((swO ap am fx row l c m p).1 = true ∧ ∃ q j, j < c ∧ bitB am (nI j) = true ∧ (swO ap am fx row l c m p).2 = upd row q (nI j))
  | 0, p => Or.inl ⟨rfl, rfl⟩
  | m + 1, p => by
    have ih := swO_spec (ap := ap) (am := am) (fx := fx) (row := row) (l := l) (c := c) m (p + 1)
    by_cases hx : bitB fx (row p) = true
    · rw [swO_x hx]; exact ih
    · have hx : bitB fx (row p) = false := by simpa using hx
      cases hs : swI ap am row l p c 0 with
      | none => rw [swO_n hx hs]; exact ih
      | some r =>
        rw [swO_s hx hs]
        obtain ⟨j, h1, h2, h3⟩ := swI_spec c 0 hs
        exact Or.inr ⟨rfl, p, j, by omega, h2, h3⟩
/-- SWAPS: how many, and the row -/
def swR (ap : Nat → Nat → UInt32) (fit fx : Int32) (l c : Nat) (row : Nat → Int32) : Bool × (Nat → Int32) := swO ap (fit &&& (rbF row l ^^^ (-1))) fx row l c l 0
def saF (ap : Nat → Nat → UInt32) (fit fx : Int32) (l c : Nat) : Nat → Nat → (Nat → Int32) → Nat × (Nat → Int32)
  | 0, k, row => (k, row)
  | m + 1, k, row => if (swR ap fit fx l c row).1 = true then saF ap fit fx l c m (k + 1) (swR ap fit fx l c row).2 else (k, row)
theorem saF_t {ap : Nat → Nat → UInt32} {fit fx : Int32} {l c m k : Nat} {row : Nat → Int32} (h : (swR ap fit fx l c row).1 = true) : saF ap fit fx l c (m + 1) k row = saF ap fit fx l c m (k + 1) (swR ap fit fx l c row).2 := if_pos h
theorem saF_f {ap : Nat → Nat → UInt32} {fit fx : Int32} {l c m k : Nat} {row : Nat → Int32} (h : (swR ap fit fx l c row).1 = false) : saF ap fit fx l c (m + 1) k row = (k, row) := if_neg (by rw [h]; decide)
theorem swR_f {ap : Nat → Nat → UInt32} {fit fx : Int32} {l c : Nat} {row : Nat → Int32} (h : (swR ap fit fx l c row).1 = false) : (swR ap fit fx l c row).2 = row := by
  rcases swO_spec (ap := ap) (am := fit &&& (rbF row l ^^^ (-1))) (fx := fx) (row := row) (l := l) (c := c) l 0 with q | q
  · exact q.2
  · have := q.1; unfold swR at h; rw [h] at this; cases this
theorem swR_ok {ap : Nat → Nat → UInt32} {fit fx : Int32} {l c : Nat} {row : Nat → Int32} (hf : rowOK row l c) (hd : rowDI row l) (hc : c ≤ 32) : rowOK (swR ap fit fx l c row).2 l c ∧ rowDI (swR ap fit fx l c row).2 l := by
  rcases swO_spec (ap := ap) (am := fit &&& (rbF row l ^^^ (-1))) (fx := fx) (row := row) (l := l) (c := c) l 0 with q | ⟨-, p, j, h1, h2, h3⟩
  · unfold swR; rw [q.2]; exact ⟨hf, hd⟩
  · unfold swR; rw [h3]
    exact ⟨rowOK_set p hf h1 hc, rowDI_set p hd (((may_iff hf hc (by omega)).mp h2).2) (by omega)⟩
set_option maxHeartbeats 4000000 in
set_option maxRecDepth 100000 in
theorem l_swapAll {Z : xZ} {c l : Nat} {G : Nat → UInt32} (hc : Z.1 1 0 = nI c) (c20 : c ≤ 20) (hl : Z.1 1 7 = nI l) (l8 : l ≤ 8) (hG : gapOK G (Z.2.1 4) (Z.2.1 2) c) (ok : okS (Z.2.1 2) (Z.2.1 3) (Z.2.1 4) (Z.2.1 5)) : ∀ (n : Nat) (k : Nat) (Rr : Nat → Int32), k ≤ 60 → 60 < k + n → rowOK Rr l c → rowDI Rr l → XW mX0_swapAll 4 0 0 12 [some (.ref 50), some (.ref 1), some (.int (fbF (Z.2.1 2) (Z.2.1 3) (Z.2.1 5) c)), some (.int (nI k))] [] (HP (sA (sF Z 51 G) 6 Rr)) (fun q h' => q = some (.int (nI (saF (apG (Z.2.1 4) (Z.2.1 2)) (fbF (Z.2.1 2) (Z.2.1 3) (Z.2.1 5) c) (Z.1 1 5) l c (60 - k) k Rr).1)) ∧ h' = HP (sA (sF Z 51 G) 6 (saF (apG (Z.2.1 4) (Z.2.1 2)) (fbF (Z.2.1 2) (Z.2.1 3) (Z.2.1 5) c) (Z.1 1 5) l c (60 - k) k Rr).2)) := by
  intro n
  induction n with
  | zero => intro k Rr g0 g1 g2 g3; omega
  | succ n ih =>
    intro k Rr g0 g1 g2 g3
    have hf := g2
    have hdi := g3
    refine XW.iload_n 13 dX0_swapAll_12 rfl rfl ?_
    refine XW.bipush 15 dX0_swapAll_13 (v := 60) (by decide) rfl ?_
    refine XW.icmp_geN 40 18 k 60 dX0_swapAll_15 (by decide) rfl rfl rfl (by omega) (by omega) (fun c_15 => ?_) (fun c_15 => ?_)
    · have k60 : 60 - k = 0 := by omega
      refine XW.iload_n 41 dX0_swapAll_40 rfl rfl ?_
      exact XW.iret dX0_swapAll_41 rfl (⟨by rw [k60]; rfl, by rw [k60]; rfl⟩)
    · refine XW.aload_n 19 dX0_swapAll_18 rfl rfl ?_
      refine XW.aload_n 20 dX0_swapAll_19 rfl rfl ?_
      refine XW.iload_n 21 dX0_swapAll_20 rfl rfl ?_
      refine XW.aload_n 22 dX0_swapAll_21 rfl rfl ?_
      refine XW.callV 25 (vs := []) (rest := [.int (fbF (Z.2.1 2) (Z.2.1 3) (Z.2.1 5) c), .ref 1, .ref 50]) (mcr := 0) (msr := 0) c0_54 dX0_swapAll_22 rfl rfl (by decide) (Nat.le_of_ble_eq_true rfl) rfl rfl (Nat.le_of_ble_eq_true rfl) rfl (c_rowBits hl l8) (fun r h1 hq => ?_)
      obtain ⟨rfl, rfl⟩ := hq
      refine XW.eqs (st' := [.int (rbF Rr l), .int (fbF (Z.2.1 2) (Z.2.1 3) (Z.2.1 5) c), .ref 1, .ref 50]) rfl rfl rfl ?_
      refine XW.iconst 26 dX0_swapAll_25 (v := -1) (by decide) rfl ?_
      refine XW.ixor 27 dX0_swapAll_26 rfl ?_
      refine XW.iand 28 dX0_swapAll_27 rfl ?_
      refine XW.callV 31 (vs := [.ref 1, .int ((fbF (Z.2.1 2) (Z.2.1 3) (Z.2.1 5) c) &&& ((rbF Rr l) ^^^ (-1)))]) (rest := []) (mcr := 0) (msr := 0) c0_69 dX0_swapAll_28 rfl rfl (by decide) (Nat.le_of_ble_eq_true rfl) rfl rfl (Nat.le_of_ble_eq_true rfl) rfl (c_swapOne (am := (fbF (Z.2.1 2) (Z.2.1 3) (Z.2.1 5) c) &&& (rbF Rr l ^^^ (-1))) hc c20 hl l8 hf hdi (fun i hi hb => ((may_iff hf (by omega) (by omega)).mp hb).2) hG ok) (fun r h1 hq => ?_)
      obtain ⟨rfl, rfl⟩ := hq
      refine XW.eqs (st' := [.int (b2i (swR (apG (Z.2.1 4) (Z.2.1 2)) (fbF (Z.2.1 2) (Z.2.1 3) (Z.2.1 5) c) (Z.1 1 5) l c Rr).1)]) (h' := HP (sA (sF Z 51 G) 6 ((swR (apG (Z.2.1 4) (Z.2.1 2)) (fbF (Z.2.1 2) (Z.2.1 3) (Z.2.1 5) c) (Z.1 1 5) l c Rr).2))) rfl rfl rfl ?_
      refine XW.eqs (st' := [.int (b2i ((swR (apG (Z.2.1 4) (Z.2.1 2)) (fbF (Z.2.1 2) (Z.2.1 3) (Z.2.1 5) c) (Z.1 1 5) l c Rr).1))]) rfl rfl rfl ?_
      refine XW.if_eqB 40 34 dX0_swapAll_31 (by decide) rfl (fun c_31 => ?_) (fun c_31 => ?_)
      · have k1 : 60 - k = (60 - (k + 1)) + 1 := by omega
        refine XW.iload_n 41 dX0_swapAll_40 rfl rfl ?_
        exact XW.iret dX0_swapAll_41 rfl (⟨by rw [k1, saF_f c_31], by rw [k1, saF_f c_31, swR_f c_31]⟩)
      · refine XW.iinc 37 (y := nI (k + 1)) (L' := [some (.ref 50), some (.ref 1), some (.int (fbF (Z.2.1 2) (Z.2.1 3) (Z.2.1 5) c)), some (.int (nI (k + 1)))]) dX0_swapAll_34 rfl (na rfl rfl) (by decide) rfl rfl rfl ?_
        refine XW.goto 12 dX0_swapAll_37 (by decide) ?_
        refine XW.post (ih (k + 1) _ (by omega) (by omega) (swR_ok hf hdi (by omega)).1 (swR_ok hf hdi (by omega)).2) (fun r h1 hq => ?_)
        rw [show 60 - k = (60 - (k + 1)) + 1 by omega, saF_t c_31]; exact hq
set_option maxHeartbeats 4000000 in
set_option maxRecDepth 100000 in
theorem c_swapAll {Z : xZ} {c l : Nat} (hc : Z.1 1 0 = nI c) (c20 : c ≤ 20) (hl : Z.1 1 7 = nI l) (l8 : l ≤ 8) (hf : rowOK (Z.2.1 6) l c) (hdi : rowDI (Z.2.1 6) l) (ok : okS (Z.2.1 2) (Z.2.1 3) (Z.2.1 4) (Z.2.1 5)) : XC mX0_swapAll 4 0 0 [.ref 50, .ref 1] (HP Z) (fun q h' => q = some (.int (nI (saF (apG (Z.2.1 4) (Z.2.1 2)) (fbF (Z.2.1 2) (Z.2.1 3) (Z.2.1 5) c) (Z.1 1 5) l c 60 0 (Z.2.1 6)).1)) ∧ ∃ G, gapOK G (Z.2.1 4) (Z.2.1 2) c ∧ h' = HP (sA (sF Z 51 G) 6 (saF (apG (Z.2.1 4) (Z.2.1 2)) (fbF (Z.2.1 2) (Z.2.1 3) (Z.2.1 5) c) (Z.1 1 5) l c 60 0 (Z.2.1 6)).2)) := by
  show XW mX0_swapAll 4 0 0 0 [some (.ref 50), some (.ref 1), none, none] [] (HP Z) _
  refine XW.aload_n 1 dX0_swapAll_0 rfl rfl ?_
  refine XW.aload_n 2 dX0_swapAll_1 rfl rfl ?_
  refine XW.callV 5 (vs := [.ref 1]) (rest := []) (mcr := 0) (msr := 0) c0_38 dX0_swapAll_2 rfl rfl (by decide) (Nat.le_of_ble_eq_true rfl) rfl rfl (Nat.le_of_ble_eq_true rfl) rfl (c_measure hc c20 ok) (fun r h1 hq => ?_)
  obtain ⟨rfl, G, hG, rfl⟩ := hq
  refine XW.aload_n 6 dX0_swapAll_5 rfl rfl ?_
  refine XW.callV 9 (vs := []) (rest := []) (mcr := 0) (msr := 0) c0_50 dX0_swapAll_6 rfl rfl (by decide) (Nat.le_of_ble_eq_true rfl) rfl rfl (Nat.le_of_ble_eq_true rfl) rfl (c_fitBits hc c20 ok) (fun r h1 hq => ?_)
  obtain ⟨rfl, rfl⟩ := hq
  refine XW.eqs (st' := [.int (fbF (Z.2.1 2) (Z.2.1 3) (Z.2.1 5) c)]) rfl rfl rfl ?_
  refine XW.istore_n 10 (L' := [some (.ref 50), some (.ref 1), some (.int (fbF (Z.2.1 2) (Z.2.1 3) (Z.2.1 5) c)), none]) dX0_swapAll_9 (by decide) rfl rfl rfl ?_
  refine XW.iconst 11 dX0_swapAll_10 (v := 0) (by decide) rfl ?_
  refine XW.istore_n 12 (L' := [some (.ref 50), some (.ref 1), some (.int (fbF (Z.2.1 2) (Z.2.1 3) (Z.2.1 5) c)), some (.int 0)]) dX0_swapAll_11 (by decide) rfl rfl rfl ?_
  refine XW.eqs (L' := [some (.ref 50), some (.ref 1), some (.int (fbF (Z.2.1 2) (Z.2.1 3) (Z.2.1 5) c)), some (.int (nI 0))]) (h' := HP (sA (sF Z 51 G) 6 (Z.2.1 6))) (by rfl) rfl (by rfl) ?_
  refine XW.post (l_swapAll hc c20 hl l8 hG ok 61 0 (Z.2.1 6) (by omega) (by omega) hf hdi) (fun r h1 hq => ⟨hq.1, G, hG, hq.2⟩)
