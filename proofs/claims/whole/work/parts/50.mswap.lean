/-! The reference: swapping, least, nearest -/
theorem rowOK_congr {f g : Nat → Int32} {l c : Nat} (h : ∀ p, p < l → f p = g p) (hg : rowOK g l c) : rowOK f l c := fun p hp => by
  have e : rv f p = rv g p := by unfold rv; rw [h p hp]
  rw [h p hp, e]; exact hg p hp
theorem rowDI_congr {f g : Nat → Int32} {l : Nat} (h : ∀ p, p < l → f p = g p) (hg : rowDI g l) : rowDI f l := fun a b hab hb => by
  have e : rv f a = rv g a := by unfold rv; rw [h a (by omega)]
  have e2 : rv f b = rv g b := by unfold rv; rw [h b hb]
  rw [e, e2]; exact hg a b hab hb
theorem f_least {Z : xZ} {c l : Nat} (mi : MI (Z.2.1 54) c l) {S T : Nat → Int32} (h : ∀ p, p < l → S p = T p) (hT : rowOK T l c) (hTd : rowDI T l) (hG : gapOK (Z.2.2.1 59) (nE (Z.2.1 54)) (nR (Z.2.1 54)) c) : XC mX4_leastOf 1 0 0 [.ref 53, .int (Z.2.1 54 120)] (HP (sA Z 60 S)) (fun r h' => r = some (.float (lsV (apG (nE (Z.2.1 54)) (nR (Z.2.1 54))) (rv T) l)) ∧ h' = HP (sA Z 60 S)) := by
  rw [← lsV_congr (q := rv S) (fun p hp => by unfold rv; rw [h p hp])]
  exact k_leastOf (Z := sA Z 60 S) mi (q := l) mi.2.2.1 mi.2.2.2.1 (rowOK_congr h hT) (rowDI_congr h hTd) hG
set_option maxHeartbeats 400000 in
set_option maxRecDepth 100000 in
theorem l_ksw_141 {Z : xZ} {c l : Nat} (mi : MI (Z.2.1 54) c l) {fit : Int32} (hfit : Z.1 53 8 = fit) (hG : gapOK (Z.2.2.1 59) (nE (Z.2.1 54)) (nR (Z.2.1 54)) c) {k : Nat} (kl : k < l) {X : Bool × (Nat → Int32)} {S : Nat → Int32} (hS : (∀ p, p < l → p ≠ k → S p = (mP (Z.2.1 54)) p)) (KK : ∀ S : Nat → Int32, (∀ p, p < l → S p = (mP (Z.2.1 54)) p) → XW mX4_isSwapped 2 0 0 18 [some (.ref 53), some (.float (lsV (apG (nE (Z.2.1 54)) (nR (Z.2.1 54))) (rv (mP (Z.2.1 54))) l)), some (.int (nI (k + 1))), none, none, none] [] (HP (sA Z 60 S)) (fun r h' => r = some (.int (b2i (X).1)) ∧ ∃ S, h' = HP (sA (sA Z 60 S) 54 (rwN (Z.2.1 54) (X).2 l)))) : XW mX4_isSwapped 2 0 0 141 [some (.ref 53), some (.float (lsV (apG (nE (Z.2.1 54)) (nR (Z.2.1 54))) (rv (mP (Z.2.1 54))) l)), some (.int (nI k)), some (.int ((mP (Z.2.1 54)) k)), none, none] [] (HP (sA Z 60 S)) (fun r h' => r = some (.int (b2i (X).1)) ∧ ∃ S, h' = HP (sA (sA Z 60 S) 54 (rwN (Z.2.1 54) (X).2 l))) := by
  obtain ⟨hc, c20, hl, l8, ok, hf, hdi, hfb⟩ := id mi
  refine XW.aload_n 142 dX4_isSwapped_141 rfl rfl ?_
  refine XW.getf 145 (v := .ref 60) f4_29 dX4_isSwapped_142 rfl rfl rfl ?_
  refine XW.iload_n 146 dX4_isSwapped_145 rfl rfl ?_
  refine XW.iload_n 147 dX4_isSwapped_146 rfl rfl ?_
  refine XW.iast 148 (h' := HP (sA (sA Z 60 S) 60 (upd S k ((mP (Z.2.1 54)) k)))) k dX4_isSwapped_147 rfl rfl (by omega) (by decide) rfl rfl ?_
  refine XW.iinc 151 (y := nI (k + 1)) (L' := [some (.ref 53), some (.float (lsV (apG (nE (Z.2.1 54)) (nR (Z.2.1 54))) (rv (mP (Z.2.1 54))) l)), some (.int (nI (k + 1))), some (.int ((mP (Z.2.1 54)) k)), none, none]) dX4_isSwapped_148 rfl (na rfl rfl) (by decide) rfl rfl rfl ?_
  refine XW.goto 18 dX4_isSwapped_151 (by decide) ?_
  refine XW.weak [true, true, true, false, true, true] (L' := [some (.ref 53), some (.float (lsV (apG (nE (Z.2.1 54)) (nR (Z.2.1 54))) (rv (mP (Z.2.1 54))) l)), some (.int (nI (k + 1))), none, none, none]) rfl ?_
  refine XW.eqs (L' := [some (.ref 53), some (.float (lsV (apG (nE (Z.2.1 54)) (nR (Z.2.1 54))) (rv (mP (Z.2.1 54))) l)), some (.int (nI (k + 1))), none, none, none]) (h' := HP (sA Z 60 (upd S k ((mP (Z.2.1 54)) k)))) (by rfl) rfl (by exact congrArg HP (sA_same _ _ _ _)) ?_
  exact KK (upd S k ((mP (Z.2.1 54)) k)) (fun p hp => by unfold upd; split; rename_i e; rw [e]; exact hS p hp ‹_›)
set_option maxHeartbeats 400000 in
set_option maxRecDepth 100000 in
theorem l_ksw_i {Z : xZ} {c l : Nat} (mi : MI (Z.2.1 54) c l) {fit : Int32} (hfit : Z.1 53 8 = fit) (hG : gapOK (Z.2.2.1 59) (nE (Z.2.1 54)) (nR (Z.2.1 54)) c) {k : Nat} (kl : k < l) (hnf : bitB (Z.2.1 54 61) ((mP (Z.2.1 54)) k) = false) {X : Bool × (Nat → Int32)} (KK : swI (apG (nE (Z.2.1 54)) (nR (Z.2.1 54))) (fit &&& (rbF (mP (Z.2.1 54)) l ^^^ (-1))) (mP (Z.2.1 54)) l k c 0 = none → ∀ S : Nat → Int32, (∀ p, p < l → S p = (mP (Z.2.1 54)) p) → XW mX4_isSwapped 2 0 0 18 [some (.ref 53), some (.float (lsV (apG (nE (Z.2.1 54)) (nR (Z.2.1 54))) (rv (mP (Z.2.1 54))) l)), some (.int (nI (k + 1))), none, none, none] [] (HP (sA Z 60 S)) (fun r h' => r = some (.int (b2i (X).1)) ∧ ∃ S, h' = HP (sA (sA Z 60 S) 54 (rwN (Z.2.1 54) (X).2 l)))) : ∀ (n : Nat) (i : Nat) (S : Nat → Int32), i ≤ c → c < i + n → (∀ p, p < l → p ≠ k → S p = (mP (Z.2.1 54)) p) → (∀ r, swI (apG (nE (Z.2.1 54)) (nR (Z.2.1 54))) (fit &&& (rbF (mP (Z.2.1 54)) l ^^^ (-1))) (mP (Z.2.1 54)) l k (c - i) i = some r → X = (true, r)) → (swI (apG (nE (Z.2.1 54)) (nR (Z.2.1 54))) (fit &&& (rbF (mP (Z.2.1 54)) l ^^^ (-1))) (mP (Z.2.1 54)) l k (c - i) i = none → swI (apG (nE (Z.2.1 54)) (nR (Z.2.1 54))) (fit &&& (rbF (mP (Z.2.1 54)) l ^^^ (-1))) (mP (Z.2.1 54)) l k c 0 = none) → XW mX4_isSwapped 2 0 0 39 [some (.ref 53), some (.float (lsV (apG (nE (Z.2.1 54)) (nR (Z.2.1 54))) (rv (mP (Z.2.1 54))) l)), some (.int (nI k)), some (.int ((mP (Z.2.1 54)) k)), some (.int (nI i)), none] [] (HP (sA Z 60 S)) (fun r h' => r = some (.int (b2i (X).1)) ∧ ∃ S, h' = HP (sA (sA Z 60 S) 54 (rwN (Z.2.1 54) (X).2 l))) := by
  intro n
  induction n with
  | zero => intro i S g0 g1 g2 g3 g4; omega
  | succ n ih =>
    intro i S g0 g1 g2 g3 g4
    obtain ⟨hc, c20, hl, l8, ok, hf, hdi, hfb⟩ := id mi
    have hS := g2
    have h1 := g3
    have h2 := g4
    have okc := ok_cut ok
    refine XW.iload 41 dX4_isSwapped_39 rfl rfl ?_
    refine XW.aload_n 42 dX4_isSwapped_41 rfl rfl ?_
    refine XW.getf 45 (v := .ref 54) f4_7 dX4_isSwapped_42 rfl rfl rfl ?_
    refine XW.iconst 46 dX4_isSwapped_45 (v := 0) (by decide) rfl ?_
    refine XW.iald 47 0 dX4_isSwapped_46 rfl rfl (by omega) (by decide) rfl ?_
    refine XW.icmp_geN 141 50 i c dX4_isSwapped_47 (by decide) rfl rfl hc (by omega) (by omega) (fun c_47 => ?_) (fun c_47 => ?_)
    · refine XW.weak [true, true, true, true, false, true] (L' := [some (.ref 53), some (.float (lsV (apG (nE (Z.2.1 54)) (nR (Z.2.1 54))) (rv (mP (Z.2.1 54))) l)), some (.int (nI k)), some (.int ((mP (Z.2.1 54)) k)), none, none]) rfl ?_
      exact l_ksw_141 mi hfit hG kl hS (KK (h2 (by rw [show c - i = 0 by omega]; rfl)))
    · refine XW.aload_n 51 dX4_isSwapped_50 rfl rfl ?_
      refine XW.getf 54 (v := .ref 54) f4_7 dX4_isSwapped_51 rfl rfl rfl ?_
      refine XW.bipush 56 dX4_isSwapped_54 (v := 61) (by decide) rfl ?_
      refine XW.iald 57 61 dX4_isSwapped_56 rfl rfl (by omega) (by decide) rfl ?_
      refine XW.iload_n 58 dX4_isSwapped_57 rfl rfl ?_
      refine XW.callS 61 (vs := [.int (Z.2.1 54 61), .int ((mP (Z.2.1 54)) k)]) (rest := []) (mcr := 0) (msr := 0) c4_136 dX4_isSwapped_58 rfl (by decide) (Nat.le_of_ble_eq_true rfl) rfl rfl (Nat.le_of_ble_eq_true rfl) rfl (k_has _ _ _) (fun r h1 hq => ?_)
      obtain ⟨rfl, rfl⟩ := hq
      refine XW.eqs (st' := [.int (b2i (bitB (Z.2.1 54 61) ((mP (Z.2.1 54)) k)))]) rfl rfl rfl ?_
      refine XW.if_neB 141 64 dX4_isSwapped_61 (by decide) rfl (fun c_61 => ?_) (fun c_61 => ?_)
      · rw [hnf] at c_61; cases c_61
      · refine XW.aload_n 65 dX4_isSwapped_64 rfl rfl ?_
        refine XW.getf 68 (v := .ref 60) f4_29 dX4_isSwapped_65 rfl rfl rfl ?_
        refine XW.iload_n 69 dX4_isSwapped_68 rfl rfl ?_
        refine XW.iload 71 dX4_isSwapped_69 rfl rfl ?_
        refine XW.iast 72 (h' := HP (sA (sA Z 60 S) 60 (upd S k (nI i)))) k dX4_isSwapped_71 rfl rfl (by omega) (by decide) rfl rfl ?_
        refine XW.eqs (h' := HP (sA Z 60 (upd S k (nI i)))) rfl rfl (congrArg HP (sA_same _ _ _ _)) ?_
        have hS2 : ∀ p, p < l → upd S k (nI i) p = upd (mP (Z.2.1 54)) k (nI i) p := fun p hp => by
          unfold upd
          by_cases e : p = k
          · rw [if_pos e, if_pos e]
          · rw [if_neg e, if_neg e]; exact hS p hp e
        refine XW.aload_n 73 dX4_isSwapped_72 rfl rfl ?_
        refine XW.getf 76 (v := .int (Z.1 53 8)) f4_133 dX4_isSwapped_73 rfl rfl rfl ?_
        refine XW.iload 78 dX4_isSwapped_76 rfl rfl ?_
        refine XW.callS 81 (vs := [.int (Z.1 53 8), .int (nI i)]) (rest := []) (mcr := 0) (msr := 0) c4_136 dX4_isSwapped_78 rfl (by decide) (Nat.le_of_ble_eq_true rfl) rfl rfl (Nat.le_of_ble_eq_true rfl) rfl (k_has _ _ _) (fun r h1 hq => ?_)
        obtain ⟨rfl, rfl⟩ := hq
        refine XW.eqs (st' := [.int (b2i (bitB fit (nI i)))]) rfl (by rw [← hfit]; rfl) rfl ?_
        refine XW.eqs (st' := [.int (b2i (bitB fit (nI i)))]) rfl rfl rfl ?_
        refine XW.if_eqB 98 84 dX4_isSwapped_81 (by decide) rfl (fun c_81 => ?_) (fun c_81 => ?_)
        · have c0 : ¬ bitB (fit &&& (rbF (mP (Z.2.1 54)) l ^^^ (-1))) (nI i) = true := fun q => by have := ((may_iff hf (by omega) (by omega)).mp q).1; rw [← bitB_bt (by omega), c_81] at this; cases this
          refine XW.iconst 99 dX4_isSwapped_98 (v := 0) (by decide) rfl ?_
          refine XW.istore 101 (L' := [some (.ref 53), some (.float (lsV (apG (nE (Z.2.1 54)) (nR (Z.2.1 54))) (rv (mP (Z.2.1 54))) l)), some (.int (nI k)), some (.int ((mP (Z.2.1 54)) k)), some (.int (nI i)), some (.int 0)]) dX4_isSwapped_99 (by decide) rfl rfl rfl ?_
          refine XW.iload 103 dX4_isSwapped_101 rfl rfl ?_
          refine XW.if_eq 135 106 dX4_isSwapped_103 (by decide) rfl (fun c_103 => ?_) (fun c_103 => ?_)
          · refine XW.iinc 138 (y := nI (i + 1)) (L' := [some (.ref 53), some (.float (lsV (apG (nE (Z.2.1 54)) (nR (Z.2.1 54))) (rv (mP (Z.2.1 54))) l)), some (.int (nI k)), some (.int ((mP (Z.2.1 54)) k)), some (.int (nI (i + 1))), some (.int 0)]) dX4_isSwapped_135 rfl (na rfl rfl) (by decide) rfl rfl rfl ?_
            refine XW.goto 39 dX4_isSwapped_138 (by decide) ?_
            refine XW.weak [true, true, true, true, true, false] (L' := [some (.ref 53), some (.float (lsV (apG (nE (Z.2.1 54)) (nR (Z.2.1 54))) (rv (mP (Z.2.1 54))) l)), some (.int (nI k)), some (.int ((mP (Z.2.1 54)) k)), some (.int (nI (i + 1))), none]) rfl ?_
            exact ih (i + 1) _ (by omega) (by omega) (fun p hp e => by rw [hS2 p hp]; unfold upd; rw [if_neg e]) (fun r q => h1 r (by rw [show c - i = (c - (i + 1)) + 1 by omega, swI_f (fun q => c0 q.1)]; exact q)) (fun q => h2 (by rw [show c - i = (c - (i + 1)) + 1 by omega, swI_f (fun q => c0 q.1)]; exact q))
          · exact absurd c_103 (by decide)
        · refine XW.aload_n 85 dX4_isSwapped_84 rfl rfl ?_
          refine XW.iload 87 dX4_isSwapped_85 rfl rfl ?_
          refine XW.callV 90 (vs := [.int (nI i)]) (rest := []) (mcr := 0) (msr := 0) c4_111 dX4_isSwapped_87 rfl rfl (by decide) (Nat.le_of_ble_eq_true rfl) rfl rfl (Nat.le_of_ble_eq_true rfl) rfl (k_placeOf (Z := sA Z 60 (upd S k (nI i))) mi _) (fun r h1 hq => ?_)
          obtain ⟨rfl, rfl⟩ := hq
          refine XW.eqs (st' := [.int (plF (mP (Z.2.1 54)) (nI i) l 0)]) rfl rfl rfl ?_
          refine XW.iconst 91 dX4_isSwapped_90 (v := -1) (by decide) rfl ?_
          refine XW.icmp_ne 98 94 dX4_isSwapped_91 (by decide) rfl (fun c_91 => ?_) (fun c_91 => ?_)
          · have c0 : ¬ bitB (fit &&& (rbF (mP (Z.2.1 54)) l ^^^ (-1))) (nI i) = true := fun q => c_91 ((pl_m1 hf l8 (by omega)).mpr ((may_iff hf (by omega) (by omega)).mp q).2)
            refine XW.iconst 99 dX4_isSwapped_98 (v := 0) (by decide) rfl ?_
            refine XW.istore 101 (L' := [some (.ref 53), some (.float (lsV (apG (nE (Z.2.1 54)) (nR (Z.2.1 54))) (rv (mP (Z.2.1 54))) l)), some (.int (nI k)), some (.int ((mP (Z.2.1 54)) k)), some (.int (nI i)), some (.int 0)]) dX4_isSwapped_99 (by decide) rfl rfl rfl ?_
            refine XW.iload 103 dX4_isSwapped_101 rfl rfl ?_
            refine XW.if_eq 135 106 dX4_isSwapped_103 (by decide) rfl (fun c_103 => ?_) (fun c_103 => ?_)
            · refine XW.iinc 138 (y := nI (i + 1)) (L' := [some (.ref 53), some (.float (lsV (apG (nE (Z.2.1 54)) (nR (Z.2.1 54))) (rv (mP (Z.2.1 54))) l)), some (.int (nI k)), some (.int ((mP (Z.2.1 54)) k)), some (.int (nI (i + 1))), some (.int 0)]) dX4_isSwapped_135 rfl (na rfl rfl) (by decide) rfl rfl rfl ?_
              refine XW.goto 39 dX4_isSwapped_138 (by decide) ?_
              refine XW.weak [true, true, true, true, true, false] (L' := [some (.ref 53), some (.float (lsV (apG (nE (Z.2.1 54)) (nR (Z.2.1 54))) (rv (mP (Z.2.1 54))) l)), some (.int (nI k)), some (.int ((mP (Z.2.1 54)) k)), some (.int (nI (i + 1))), none]) rfl ?_
              exact ih (i + 1) _ (by omega) (by omega) (fun p hp e => by rw [hS2 p hp]; unfold upd; rw [if_neg e]) (fun r q => h1 r (by rw [show c - i = (c - (i + 1)) + 1 by omega, swI_f (fun q => c0 q.1)]; exact q)) (fun q => h2 (by rw [show c - i = (c - (i + 1)) + 1 by omega, swI_f (fun q => c0 q.1)]; exact q))
            · exact absurd c_103 (by decide)
          · have c0 : bitB (fit &&& (rbF (mP (Z.2.1 54)) l ^^^ (-1))) (nI i) = true := (may_iff hf (by omega) (by omega)).mpr ⟨by rw [← bitB_bt (by omega)]; exact c_81, (pl_m1 hf l8 (by omega)).mp c_91⟩
            refine XW.iconst 95 dX4_isSwapped_94 (v := 1) (by decide) rfl ?_
            refine XW.goto 99 dX4_isSwapped_95 (by decide) ?_
            refine XW.istore 101 (L' := [some (.ref 53), some (.float (lsV (apG (nE (Z.2.1 54)) (nR (Z.2.1 54))) (rv (mP (Z.2.1 54))) l)), some (.int (nI k)), some (.int ((mP (Z.2.1 54)) k)), some (.int (nI i)), some (.int 1)]) dX4_isSwapped_99 (by decide) rfl rfl rfl ?_
            refine XW.iload 103 dX4_isSwapped_101 rfl rfl ?_
            refine XW.if_eq 135 106 dX4_isSwapped_103 (by decide) rfl (fun c_103 => ?_) (fun c_103 => ?_)
            · exact absurd c_103 (by decide)
            · refine XW.aload_n 107 dX4_isSwapped_106 rfl rfl ?_
              refine XW.aload_n 108 dX4_isSwapped_107 rfl rfl ?_
              refine XW.getf 111 (v := .ref 54) f4_7 dX4_isSwapped_108 rfl rfl rfl ?_
              refine XW.bipush 113 dX4_isSwapped_111 (v := 120) (by decide) rfl ?_
              refine XW.iald 114 120 dX4_isSwapped_113 rfl rfl (by omega) (by decide) rfl ?_
              refine XW.callV 117 (vs := [.int (Z.2.1 54 120)]) (rest := []) (mcr := 0) (msr := 0) c4_164 dX4_isSwapped_114 rfl rfl (by decide) (Nat.le_of_ble_eq_true rfl) rfl rfl (Nat.le_of_ble_eq_true rfl) rfl (f_least (Z := Z) mi hS2 (rowOK_set k hf (by omega) (by omega)) (rowDI_set k hdi ((may_iff hf (by omega) (by omega)).mp c0).2 (by omega)) hG) (fun r h1 hq => ?_)
              obtain ⟨rfl, rfl⟩ := hq
              refine XW.eqs (st' := [.float (lsV (apG (nE (Z.2.1 54)) (nR (Z.2.1 54))) (rv (upd (mP (Z.2.1 54)) k (nI i))) l)]) rfl rfl rfl ?_
              refine XW.fload_n 118 dX4_isSwapped_117 rfl rfl ?_
              refine XW.fcmpU 119 dX4_isSwapped_118 (lsV_NF (rowNF okc (rowOK_set k hf (by omega) (by omega)) c20)) (lsV_NF (rowNF okc hf c20)) rfl ?_
              refine XW.if_leU 135 122 dX4_isSwapped_119 (by decide) rfl (fun c_119 => ?_) (fun c_119 => ?_)
              · refine XW.iinc 138 (y := nI (i + 1)) (L' := [some (.ref 53), some (.float (lsV (apG (nE (Z.2.1 54)) (nR (Z.2.1 54))) (rv (mP (Z.2.1 54))) l)), some (.int (nI k)), some (.int ((mP (Z.2.1 54)) k)), some (.int (nI (i + 1))), some (.int 1)]) dX4_isSwapped_135 rfl (na rfl rfl) (by decide) rfl rfl rfl ?_
                refine XW.goto 39 dX4_isSwapped_138 (by decide) ?_
                refine XW.weak [true, true, true, true, true, false] (L' := [some (.ref 53), some (.float (lsV (apG (nE (Z.2.1 54)) (nR (Z.2.1 54))) (rv (mP (Z.2.1 54))) l)), some (.int (nI k)), some (.int ((mP (Z.2.1 54)) k)), some (.int (nI (i + 1))), none]) rfl ?_
                exact ih (i + 1) _ (by omega) (by omega) (fun p hp e => by rw [hS2 p hp]; unfold upd; rw [if_neg e]) (fun r q => h1 r (by rw [show c - i = (c - (i + 1)) + 1 by omega, swI_f (fun q => c_119 q.2)]; exact q)) (fun q => h2 (by rw [show c - i = (c - (i + 1)) + 1 by omega, swI_f (fun q => c_119 q.2)]; exact q))
              · refine XW.aload_n 123 dX4_isSwapped_122 rfl rfl ?_
                refine XW.getf 126 (v := .ref 54) f4_7 dX4_isSwapped_123 rfl rfl rfl ?_
                refine XW.bipush 128 dX4_isSwapped_126 (v := 121) (by decide) rfl ?_
                refine XW.iload_n 129 dX4_isSwapped_128 rfl rfl ?_
                refine XW.iadd 130 dX4_isSwapped_129 rfl ?_
                refine XW.iload 132 dX4_isSwapped_130 rfl rfl ?_
                refine XW.iast 133 (h' := HP (sA (sA Z 60 (upd S k (nI i))) 54 (upd (Z.2.1 54) (121 + k) (nI i)))) (121 + k) dX4_isSwapped_132 rfl (na rfl rfl) (by omega) (by decide) rfl rfl ?_
                refine XW.iconst 134 dX4_isSwapped_133 (v := 1) (by decide) rfl ?_
                exact XW.iret dX4_isSwapped_134 rfl (by have := h1 (upd (mP (Z.2.1 54)) k (nI i)) (by rw [show c - i = (c - (i + 1)) + 1 by omega]; exact swI_t c0 c_119); rw [this]; exact ⟨rfl, upd S k (nI i), by rw [← rwN_set, rwN_self hl]⟩)
set_option maxHeartbeats 400000 in
set_option maxRecDepth 100000 in
theorem l_ksw_x {Z : xZ} {c l : Nat} (mi : MI (Z.2.1 54) c l) {fit : Int32} (hfit : Z.1 53 8 = fit) (hG : gapOK (Z.2.2.1 59) (nE (Z.2.1 54)) (nR (Z.2.1 54)) c) {k : Nat} (kl : k < l) (hnf : bitB (Z.2.1 54 61) ((mP (Z.2.1 54)) k) = true) {X : Bool × (Nat → Int32)} {S : Nat → Int32} (hS : (∀ p, p < l → p ≠ k → S p = (mP (Z.2.1 54)) p)) (KK : ∀ S : Nat → Int32, (∀ p, p < l → S p = (mP (Z.2.1 54)) p) → XW mX4_isSwapped 2 0 0 18 [some (.ref 53), some (.float (lsV (apG (nE (Z.2.1 54)) (nR (Z.2.1 54))) (rv (mP (Z.2.1 54))) l)), some (.int (nI (k + 1))), none, none, none] [] (HP (sA Z 60 S)) (fun r h' => r = some (.int (b2i (X).1)) ∧ ∃ S, h' = HP (sA (sA Z 60 S) 54 (rwN (Z.2.1 54) (X).2 l)))) : XW mX4_isSwapped 2 0 0 39 [some (.ref 53), some (.float (lsV (apG (nE (Z.2.1 54)) (nR (Z.2.1 54))) (rv (mP (Z.2.1 54))) l)), some (.int (nI k)), some (.int ((mP (Z.2.1 54)) k)), some (.int (nI 0)), none] [] (HP (sA Z 60 S)) (fun r h' => r = some (.int (b2i (X).1)) ∧ ∃ S, h' = HP (sA (sA Z 60 S) 54 (rwN (Z.2.1 54) (X).2 l))) := by
  obtain ⟨hc, c20, hl, l8, ok, hf, hdi, hfb⟩ := id mi
  refine XW.iload 41 dX4_isSwapped_39 rfl rfl ?_
  refine XW.aload_n 42 dX4_isSwapped_41 rfl rfl ?_
  refine XW.getf 45 (v := .ref 54) f4_7 dX4_isSwapped_42 rfl rfl rfl ?_
  refine XW.iconst 46 dX4_isSwapped_45 (v := 0) (by decide) rfl ?_
  refine XW.iald 47 0 dX4_isSwapped_46 rfl rfl (by omega) (by decide) rfl ?_
  refine XW.icmp_geN 141 50 0 c dX4_isSwapped_47 (by decide) rfl rfl hc (by omega) (by omega) (fun c_47 => ?_) (fun c_47 => ?_)
  · refine XW.weak [true, true, true, true, false, true] (L' := [some (.ref 53), some (.float (lsV (apG (nE (Z.2.1 54)) (nR (Z.2.1 54))) (rv (mP (Z.2.1 54))) l)), some (.int (nI k)), some (.int ((mP (Z.2.1 54)) k)), none, none]) rfl ?_
    exact l_ksw_141 mi hfit hG kl hS KK
  · refine XW.aload_n 51 dX4_isSwapped_50 rfl rfl ?_
    refine XW.getf 54 (v := .ref 54) f4_7 dX4_isSwapped_51 rfl rfl rfl ?_
    refine XW.bipush 56 dX4_isSwapped_54 (v := 61) (by decide) rfl ?_
    refine XW.iald 57 61 dX4_isSwapped_56 rfl rfl (by omega) (by decide) rfl ?_
    refine XW.iload_n 58 dX4_isSwapped_57 rfl rfl ?_
    refine XW.callS 61 (vs := [.int (Z.2.1 54 61), .int ((mP (Z.2.1 54)) k)]) (rest := []) (mcr := 0) (msr := 0) c4_136 dX4_isSwapped_58 rfl (by decide) (Nat.le_of_ble_eq_true rfl) rfl rfl (Nat.le_of_ble_eq_true rfl) rfl (k_has _ _ _) (fun r h1 hq => ?_)
    obtain ⟨rfl, rfl⟩ := hq
    refine XW.eqs (st' := [.int (b2i (bitB (Z.2.1 54 61) ((mP (Z.2.1 54)) k)))]) rfl rfl rfl ?_
    refine XW.if_neB 141 64 dX4_isSwapped_61 (by decide) rfl (fun c_61 => ?_) (fun c_61 => ?_)
    · refine XW.weak [true, true, true, true, false, true] (L' := [some (.ref 53), some (.float (lsV (apG (nE (Z.2.1 54)) (nR (Z.2.1 54))) (rv (mP (Z.2.1 54))) l)), some (.int (nI k)), some (.int ((mP (Z.2.1 54)) k)), none, none]) rfl ?_
      exact l_ksw_141 mi hfit hG kl hS KK
    · rw [hnf] at c_61; cases c_61
set_option maxHeartbeats 400000 in
set_option maxRecDepth 100000 in
theorem l_ksw_o {Z : xZ} {c l : Nat} (mi : MI (Z.2.1 54) c l) {fit : Int32} (hfit : Z.1 53 8 = fit) (hG : gapOK (Z.2.2.1 59) (nE (Z.2.1 54)) (nR (Z.2.1 54)) c) : ∀ (n : Nat) (k : Nat) (S : Nat → Int32), k ≤ l → l < k + n → (∀ p, p < l → S p = (mP (Z.2.1 54)) p) → XW mX4_isSwapped 2 0 0 18 [some (.ref 53), some (.float (lsV (apG (nE (Z.2.1 54)) (nR (Z.2.1 54))) (rv (mP (Z.2.1 54))) l)), some (.int (nI k)), none, none, none] [] (HP (sA Z 60 S)) (fun r h' => r = some (.int (b2i (swO (apG (nE (Z.2.1 54)) (nR (Z.2.1 54))) (fit &&& (rbF (mP (Z.2.1 54)) l ^^^ (-1))) (Z.2.1 54 61) (mP (Z.2.1 54)) l c (l - k) k).1)) ∧ ∃ S, h' = HP (sA (sA Z 60 S) 54 (rwN (Z.2.1 54) (swO (apG (nE (Z.2.1 54)) (nR (Z.2.1 54))) (fit &&& (rbF (mP (Z.2.1 54)) l ^^^ (-1))) (Z.2.1 54 61) (mP (Z.2.1 54)) l c (l - k) k).2 l))) := by
  intro n
  induction n with
  | zero => intro k S g0 g1 g2; omega
  | succ n ih =>
    intro k S g0 g1 g2
    obtain ⟨hc, c20, hl, l8, ok, hf, hdi, hfb⟩ := id mi
    refine XW.iload_n 19 dX4_isSwapped_18 rfl rfl ?_
    refine XW.aload_n 20 dX4_isSwapped_19 rfl rfl ?_
    refine XW.getf 23 (v := .ref 54) f4_7 dX4_isSwapped_20 rfl rfl rfl ?_
    refine XW.bipush 25 dX4_isSwapped_23 (v := 120) (by decide) rfl ?_
    refine XW.iald 26 120 dX4_isSwapped_25 rfl rfl (by omega) (by decide) rfl ?_
    refine XW.icmp_geN 154 29 k l dX4_isSwapped_26 (by decide) rfl rfl hl (by omega) (by omega) (fun c_26 => ?_) (fun c_26 => ?_)
    · refine XW.iconst 155 dX4_isSwapped_154 (v := 0) (by decide) rfl ?_
      exact XW.iret dX4_isSwapped_155 rfl (by rw [show l - k = 0 by omega]; exact ⟨rfl, S, by show _ = HP (sA (sA Z 60 S) 54 (rwN (Z.2.1 54) (mP (Z.2.1 54)) l)); rw [rwN_self hl]; rfl⟩)
    · refine XW.aload_n 30 dX4_isSwapped_29 rfl rfl ?_
      refine XW.getf 33 (v := .ref 60) f4_29 dX4_isSwapped_30 rfl rfl rfl ?_
      refine XW.iload_n 34 dX4_isSwapped_33 rfl rfl ?_
      refine XW.iald 35 k dX4_isSwapped_34 rfl rfl (by omega) (by decide) rfl ?_
      refine XW.istore_n 36 (L' := [some (.ref 53), some (.float (lsV (apG (nE (Z.2.1 54)) (nR (Z.2.1 54))) (rv (mP (Z.2.1 54))) l)), some (.int (nI k)), some (.int (S k)), none, none]) dX4_isSwapped_35 (by decide) rfl rfl rfl ?_
      refine XW.iconst 37 dX4_isSwapped_36 (v := 0) (by decide) rfl ?_
      refine XW.istore 39 (L' := [some (.ref 53), some (.float (lsV (apG (nE (Z.2.1 54)) (nR (Z.2.1 54))) (rv (mP (Z.2.1 54))) l)), some (.int (nI k)), some (.int (S k)), some (.int 0), none]) dX4_isSwapped_37 (by decide) rfl rfl rfl ?_
      refine XW.eqs (L' := [some (.ref 53), some (.float (lsV (apG (nE (Z.2.1 54)) (nR (Z.2.1 54))) (rv (mP (Z.2.1 54))) l)), some (.int (nI k)), some (.int ((mP (Z.2.1 54)) k)), some (.int (nI 0)), none]) (by rw [show S k = (mP (Z.2.1 54)) k from g2 k (by omega)]; rfl) rfl rfl ?_
      refine XW.eqs rfl rfl rfl ?_
      by_cases hx : bitB (Z.2.1 54 61) ((mP (Z.2.1 54)) k) = true
      · refine XW.post (l_ksw_x mi hfit hG (by omega) hx (fun p hp _ => g2 p hp) (fun S' hS' => ih (k + 1) S' (by omega) (by omega) hS')) (fun r h1 hq => ?_)
        rw [show l - k = (l - (k + 1)) + 1 by omega, swO_x hx]; exact hq
      · have hx : bitB (Z.2.1 54 61) ((mP (Z.2.1 54)) k) = false := by simpa using hx
        cases hs : swI (apG (nE (Z.2.1 54)) (nR (Z.2.1 54))) (fit &&& (rbF (mP (Z.2.1 54)) l ^^^ (-1))) (mP (Z.2.1 54)) l k c 0 with
        | some r =>
          refine XW.post (l_ksw_i mi hfit hG (by omega) hx (X := (true, r)) (fun q => by rw [hs] at q; cases q) (c + 1) 0 S (by omega) (by omega) (fun p hp _ => g2 p hp) (fun r' q => by rw [show c - 0 = c from rfl, hs] at q; cases q; rfl) (fun q => q)) (fun r' h1 hq => ?_)
          rw [show l - k = (l - (k + 1)) + 1 by omega, swO_s hx hs]; exact hq
        | none =>
          refine XW.post (l_ksw_i mi hfit hG (by omega) hx (fun _ S' hS' => ih (k + 1) S' (by omega) (by omega) hS') (c + 1) 0 S (by omega) (by omega) (fun p hp _ => g2 p hp) (fun r' q => by rw [show c - 0 = c from rfl, hs] at q; cases q) (fun q => q)) (fun r' h1 hq => ?_)
          rw [show l - k = (l - (k + 1)) + 1 by omega, swO_n hx hs]; exact hq
set_option maxHeartbeats 400000 in
set_option maxRecDepth 100000 in
theorem k_isSwapped {Z : xZ} {c l : Nat} (mi : MI (Z.2.1 54) c l) {fit : Int32} (hfit : Z.1 53 8 = fit) (hG : gapOK (Z.2.2.1 59) (nE (Z.2.1 54)) (nR (Z.2.1 54)) c) : XC mX4_isSwapped 2 0 0 [.ref 53] (HP Z) (fun r h' => r = some (.int (b2i (swO (apG (nE (Z.2.1 54)) (nR (Z.2.1 54))) (fit &&& (rbF (mP (Z.2.1 54)) l ^^^ (-1))) (Z.2.1 54 61) (mP (Z.2.1 54)) l c l 0).1)) ∧ ∃ S, h' = HP (sA (sA Z 60 S) 54 (rwN (Z.2.1 54) (swO (apG (nE (Z.2.1 54)) (nR (Z.2.1 54))) (fit &&& (rbF (mP (Z.2.1 54)) l ^^^ (-1))) (Z.2.1 54 61) (mP (Z.2.1 54)) l c l 0).2 l))) := by
  show XW mX4_isSwapped 2 0 0 0 [some (.ref 53), none, none, none, none, none] [] (HP Z) _
  obtain ⟨hc, c20, hl, l8, ok, hf, hdi, hfb⟩ := id mi
  refine XW.aload_n 1 dX4_isSwapped_0 rfl rfl ?_
  refine XW.callV 4 (vs := []) (rest := []) (mcr := 0) (msr := 0) c4_161 dX4_isSwapped_1 rfl rfl (by decide) (Nat.le_of_ble_eq_true rfl) rfl rfl (Nat.le_of_ble_eq_true rfl) rfl (k_takesPalette mi) (fun r h1 hq => ?_)
  obtain ⟨rfl, S, hS, rfl⟩ := hq
  refine XW.aload_n 5 dX4_isSwapped_4 rfl rfl ?_
  refine XW.aload_n 6 dX4_isSwapped_5 rfl rfl ?_
  refine XW.getf 9 (v := .ref 54) f4_7 dX4_isSwapped_6 rfl rfl rfl ?_
  refine XW.bipush 11 dX4_isSwapped_9 (v := 120) (by decide) rfl ?_
  refine XW.iald 12 120 dX4_isSwapped_11 rfl rfl (by omega) (by decide) rfl ?_
  refine XW.callV 15 (vs := [.int (Z.2.1 54 120)]) (rest := []) (mcr := 0) (msr := 0) c4_164 dX4_isSwapped_12 rfl rfl (by decide) (Nat.le_of_ble_eq_true rfl) rfl rfl (Nat.le_of_ble_eq_true rfl) rfl (f_least (Z := Z) mi hS hf hdi hG) (fun r h1 hq => ?_)
  obtain ⟨rfl, rfl⟩ := hq
  refine XW.eqs (st' := [.float (lsV (apG (nE (Z.2.1 54)) (nR (Z.2.1 54))) (rv (mP (Z.2.1 54))) l)]) rfl rfl rfl ?_
  refine XW.fstore_n 16 (L' := [some (.ref 53), some (.float (lsV (apG (nE (Z.2.1 54)) (nR (Z.2.1 54))) (rv (mP (Z.2.1 54))) l)), none, none, none, none]) dX4_isSwapped_15 (by decide) rfl rfl rfl ?_
  refine XW.iconst 17 dX4_isSwapped_16 (v := 0) (by decide) rfl ?_
  refine XW.istore_n 18 (L' := [some (.ref 53), some (.float (lsV (apG (nE (Z.2.1 54)) (nR (Z.2.1 54))) (rv (mP (Z.2.1 54))) l)), some (.int 0), none, none, none]) dX4_isSwapped_17 (by decide) rfl rfl rfl ?_
  exact l_ksw_o mi hfit hG (l + 1) 0 S (by omega) (by omega) hS
theorem sA4 {Y : xZ} {S A S' B : Nat → Int32} : sA (sA (sA (sA Y 60 S) 54 A) 60 S') 54 B = sA (sA Y 60 S') 54 B := by
  rw [sA_comm (sA Y 60 S) (a := 54) (b := 60) (by omega) A S', sA_same, sA_same]
theorem f_swap {Z : xZ} {c l : Nat} (mi : MI (Z.2.1 54) c l) {G : Nat → UInt32} {S Rr : Nat → Int32} (hR : rowOK Rr l c) (hRd : rowDI Rr l) (hG : gapOK G (nE (Z.2.1 54)) (nR (Z.2.1 54)) c) : XC mX4_isSwapped 2 0 0 [.ref 53] (HP (sA (sA (sF (sI Z 53 8 (fbF (nR (Z.2.1 54)) (nG (Z.2.1 54)) (nL (Z.2.1 54)) c)) 59 G) 60 S) 54 (rwN (Z.2.1 54) Rr l))) (fun r h' => r = some (.int (b2i (swR (apG (nE (Z.2.1 54)) (nR (Z.2.1 54))) (fbF (nR (Z.2.1 54)) (nG (Z.2.1 54)) (nL (Z.2.1 54)) c) (Z.2.1 54 61) l c Rr).1)) ∧ ∃ S', h' = HP (sA (sA (sF (sI Z 53 8 (fbF (nR (Z.2.1 54)) (nG (Z.2.1 54)) (nL (Z.2.1 54)) c)) 59 G) 60 S') 54 (rwN (Z.2.1 54) ((swR (apG (nE (Z.2.1 54)) (nR (Z.2.1 54))) (fbF (nR (Z.2.1 54)) (nG (Z.2.1 54)) (nL (Z.2.1 54)) c) (Z.2.1 54 61) l c Rr).2) l))) := by
  have m2 : MI ((sA (sA (sF (sI Z 53 8 (fbF (nR (Z.2.1 54)) (nG (Z.2.1 54)) (nL (Z.2.1 54)) c)) 59 G) 60 S) 54 (rwN (Z.2.1 54) Rr l)).2.1 54) c l := MI.rw' mi mi.2.2.2.1 hR hRd
  have e1 : nR ((sA (sA (sF (sI Z 53 8 (fbF (nR (Z.2.1 54)) (nG (Z.2.1 54)) (nL (Z.2.1 54)) c)) 59 G) 60 S) 54 (rwN (Z.2.1 54) Rr l)).2.1 54) = (nR (Z.2.1 54)) := rwN_R
  have e2 : nE ((sA (sA (sF (sI Z 53 8 (fbF (nR (Z.2.1 54)) (nG (Z.2.1 54)) (nL (Z.2.1 54)) c)) 59 G) 60 S) 54 (rwN (Z.2.1 54) Rr l)).2.1 54) = (nE (Z.2.1 54)) := rwN_E
  have e3 : mP ((sA (sA (sF (sI Z 53 8 (fbF (nR (Z.2.1 54)) (nG (Z.2.1 54)) (nL (Z.2.1 54)) c)) 59 G) 60 S) 54 (rwN (Z.2.1 54) Rr l)).2.1 54) = Rr := rwN_P
  have h := k_isSwapped (Z := sA (sA (sF (sI Z 53 8 (fbF (nR (Z.2.1 54)) (nG (Z.2.1 54)) (nL (Z.2.1 54)) c)) 59 G) 60 S) 54 (rwN (Z.2.1 54) Rr l)) m2 (fit := (fbF (nR (Z.2.1 54)) (nG (Z.2.1 54)) (nL (Z.2.1 54)) c)) rfl (by rw [e1, e2]; exact hG)
  rw [e1, e2, e3] at h
  refine XW.post h (fun r h1 hq => ?_)
  obtain ⟨q1, S', q2⟩ := hq
  refine ⟨q1, S', q2.trans (congrArg HP ?_)⟩
  rw [sA4]
  show sA _ 54 (rwN (rwN (Z.2.1 54) Rr l) _ l) = _
  rw [rwN_rw]; rfl
set_option maxHeartbeats 400000 in
set_option maxRecDepth 100000 in
theorem l_kswaps {Z : xZ} {c l : Nat} (mi : MI (Z.2.1 54) c l) {G : Nat → UInt32} (hG : gapOK G (nE (Z.2.1 54)) (nR (Z.2.1 54)) c) : ∀ (n : Nat) (k : Nat) (S Rr : Nat → Int32), k ≤ 60 → 60 < k + n → rowOK Rr l c → rowDI Rr l → XW mX4_swapsAll 5 0 0 6 [some (.ref 53), some (.int (nI k))] [] (HP (sA (sA (sF (sI Z 53 8 (fbF (nR (Z.2.1 54)) (nG (Z.2.1 54)) (nL (Z.2.1 54)) c)) 59 G) 60 S) 54 (rwN (Z.2.1 54) Rr l))) (fun q h' => q = some (.int (nI (saF (apG (nE (Z.2.1 54)) (nR (Z.2.1 54))) (fbF (nR (Z.2.1 54)) (nG (Z.2.1 54)) (nL (Z.2.1 54)) c) (Z.2.1 54 61) l c (60 - k) k Rr).1)) ∧ ∃ S, h' = HP (sA (sA (sF (sI Z 53 8 (fbF (nR (Z.2.1 54)) (nG (Z.2.1 54)) (nL (Z.2.1 54)) c)) 59 G) 60 S) 54 (rwN (Z.2.1 54) ((saF (apG (nE (Z.2.1 54)) (nR (Z.2.1 54))) (fbF (nR (Z.2.1 54)) (nG (Z.2.1 54)) (nL (Z.2.1 54)) c) (Z.2.1 54 61) l c (60 - k) k Rr).2) l))) := by
  intro n
  induction n with
  | zero => intro k S Rr g0 g1 g2 g3; omega
  | succ n ih =>
    intro k S Rr g0 g1 g2 g3
    obtain ⟨hc, c20, hl, l8, ok, hf, hdi, hfb⟩ := id mi
    have hR := g2
    have hRd := g3
    refine XW.iload_n 7 dX4_swapsAll_6 rfl rfl ?_
    refine XW.bipush 9 dX4_swapsAll_7 (v := 60) (by decide) rfl ?_
    refine XW.icmp_geN 25 12 k 60 dX4_swapsAll_9 (by decide) rfl rfl rfl (by omega) (by omega) (fun c_9 => ?_) (fun c_9 => ?_)
    · have k60 : 60 - k = 0 := by omega
      refine XW.iload_n 26 dX4_swapsAll_25 rfl rfl ?_
      exact XW.iret dX4_swapsAll_26 rfl (⟨by rw [k60]; rfl, S, by rw [k60]; rfl⟩)
    · refine XW.aload_n 13 dX4_swapsAll_12 rfl rfl ?_
      refine XW.callV 16 (vs := []) (rest := []) (mcr := 0) (msr := 0) c4_167 dX4_swapsAll_13 rfl rfl (by decide) (Nat.le_of_ble_eq_true rfl) rfl rfl (Nat.le_of_ble_eq_true rfl) rfl (f_swap (Z := Z) mi hR hRd hG) (fun r h1 hq => ?_)
      obtain ⟨rfl, S', rfl⟩ := hq
      refine XW.eqs (st' := [.int (b2i ((swR (apG (nE (Z.2.1 54)) (nR (Z.2.1 54))) (fbF (nR (Z.2.1 54)) (nG (Z.2.1 54)) (nL (Z.2.1 54)) c) (Z.2.1 54 61) l c Rr).1))]) rfl rfl rfl ?_
      refine XW.if_eqB 25 19 dX4_swapsAll_16 (by decide) rfl (fun c_16 => ?_) (fun c_16 => ?_)
      · have k1 : 60 - k = (60 - (k + 1)) + 1 := by omega
        refine XW.iload_n 26 dX4_swapsAll_25 rfl rfl ?_
        exact XW.iret dX4_swapsAll_26 rfl (⟨by rw [k1, saF_f c_16], S', by rw [k1, saF_f c_16, swR_f c_16]⟩)
      · refine XW.iinc 22 (y := nI (k + 1)) (L' := [some (.ref 53), some (.int (nI (k + 1)))]) dX4_swapsAll_19 rfl (na rfl rfl) (by decide) rfl rfl rfl ?_
        refine XW.goto 6 dX4_swapsAll_22 (by decide) ?_
        refine XW.post (ih (k + 1) _ _ (by omega) (by omega) (swR_ok hR hRd (by omega)).1 (swR_ok hR hRd (by omega)).2) (fun r h1 hq => ?_)
        rw [show 60 - k = (60 - (k + 1)) + 1 by omega, saF_t c_16]; exact hq
set_option maxHeartbeats 400000 in
set_option maxRecDepth 100000 in
theorem k_swapsAll {Z : xZ} {c l : Nat} (mi : MI (Z.2.1 54) c l)  : XC mX4_swapsAll 5 0 0 [.ref 53] (HP Z) (fun q h' => q = some (.int (nI (saF (apG (nE (Z.2.1 54)) (nR (Z.2.1 54))) (fbF (nR (Z.2.1 54)) (nG (Z.2.1 54)) (nL (Z.2.1 54)) c) (Z.2.1 54 61) l c 60 0 (mP (Z.2.1 54))).1)) ∧ ∃ G S, h' = HP (sA (sA (sF (sI Z 53 8 (fbF (nR (Z.2.1 54)) (nG (Z.2.1 54)) (nL (Z.2.1 54)) c)) 59 G) 60 S) 54 (rwN (Z.2.1 54) ((saF (apG (nE (Z.2.1 54)) (nR (Z.2.1 54))) (fbF (nR (Z.2.1 54)) (nG (Z.2.1 54)) (nL (Z.2.1 54)) c) (Z.2.1 54 61) l c 60 0 (mP (Z.2.1 54))).2) l))) := by
  show XW mX4_swapsAll 5 0 0 0 [some (.ref 53), none] [] (HP Z) _
  obtain ⟨hc, c20, hl, l8, ok, hf, hdi, hfb⟩ := id mi
  refine XW.aload_n 1 dX4_swapsAll_0 rfl rfl ?_
  refine XW.callV 4 (vs := []) (rest := []) (mcr := 0) (msr := 0) c4_142 dX4_swapsAll_1 rfl rfl (by decide) (Nat.le_of_ble_eq_true rfl) rfl rfl (Nat.le_of_ble_eq_true rfl) rfl (k_laysFar mi) (fun r h1 hq => ?_)
  obtain ⟨rfl, G, hG, rfl⟩ := hq
  refine XW.iconst 5 dX4_swapsAll_4 (v := 0) (by decide) rfl ?_
  refine XW.istore_n 6 (L' := [some (.ref 53), some (.int 0)]) dX4_swapsAll_5 (by decide) rfl rfl rfl ?_
  refine XW.eqs (L' := [some (.ref 53), some (.int (nI 0))]) (h' := HP (sA (sA (sF (sI Z 53 8 (fbF (nR (Z.2.1 54)) (nG (Z.2.1 54)) (nL (Z.2.1 54)) c)) 59 G) 60 (Z.2.1 60)) 54 (rwN (Z.2.1 54) (mP (Z.2.1 54)) l))) (by rfl) rfl (by rw [rwN_self hl]; rfl) ?_
  refine XW.post (l_kswaps mi hG 61 0 (Z.2.1 60) (mP (Z.2.1 54)) (by omega) (by omega) hf hdi) (fun r h1 hq => by obtain ⟨q1, S, q2⟩ := hq; exact ⟨q1, G, S, q2⟩)
set_option maxHeartbeats 400000 in
set_option maxRecDepth 100000 in
theorem k_leastNow {Z : xZ} {c l : Nat} (mi : MI (Z.2.1 54) c l)  : XC mX4_leastNow 5 0 0 [.ref 53] (HP Z) (fun r h' => r = some (.int (lsV (apG (nE (Z.2.1 54)) (nR (Z.2.1 54))) (rv (mP (Z.2.1 54))) l).toInt32) ∧ ∃ G S, h' = HP (sA (sF (sI Z 53 8 (fbF (nR (Z.2.1 54)) (nG (Z.2.1 54)) (nL (Z.2.1 54)) c)) 59 G) 60 S)) := by
  show XW mX4_leastNow 5 0 0 0 [some (.ref 53)] [] (HP Z) _
  obtain ⟨hc, c20, hl, l8, ok, hf, hdi, hfb⟩ := id mi
  have okc := ok_cut ok
  refine XW.aload_n 1 dX4_leastNow_0 rfl rfl ?_
  refine XW.callV 4 (vs := []) (rest := []) (mcr := 0) (msr := 0) c4_142 dX4_leastNow_1 rfl rfl (by decide) (Nat.le_of_ble_eq_true rfl) rfl rfl (Nat.le_of_ble_eq_true rfl) rfl (k_laysFar mi) (fun r h1 hq => ?_)
  obtain ⟨rfl, G, hG, rfl⟩ := hq
  refine XW.aload_n 5 dX4_leastNow_4 rfl rfl ?_
  refine XW.callV 8 (vs := []) (rest := []) (mcr := 0) (msr := 0) c4_161 dX4_leastNow_5 rfl rfl (by decide) (Nat.le_of_ble_eq_true rfl) rfl rfl (Nat.le_of_ble_eq_true rfl) rfl (k_takesPalette (Z := sF (sI Z 53 8 (fbF (nR (Z.2.1 54)) (nG (Z.2.1 54)) (nL (Z.2.1 54)) c)) 59 G) mi) (fun r h1 hq => ?_)
  obtain ⟨rfl, S, hS, rfl⟩ := hq
  refine XW.aload_n 9 dX4_leastNow_8 rfl rfl ?_
  refine XW.aload_n 10 dX4_leastNow_9 rfl rfl ?_
  refine XW.getf 13 (v := .ref 54) f4_7 dX4_leastNow_10 rfl rfl rfl ?_
  refine XW.bipush 15 dX4_leastNow_13 (v := 120) (by decide) rfl ?_
  refine XW.iald 16 120 dX4_leastNow_15 rfl rfl (by omega) (by decide) rfl ?_
  refine XW.callV 19 (vs := [.int (Z.2.1 54 120)]) (rest := []) (mcr := 0) (msr := 0) c4_164 dX4_leastNow_16 rfl rfl (by decide) (Nat.le_of_ble_eq_true rfl) rfl rfl (Nat.le_of_ble_eq_true rfl) rfl (f_least (Z := sF (sI Z 53 8 (fbF (nR (Z.2.1 54)) (nG (Z.2.1 54)) (nL (Z.2.1 54)) c)) 59 G) mi hS hf hdi hG) (fun r h1 hq => ?_)
  obtain ⟨rfl, rfl⟩ := hq
  refine XW.eqs (st' := [.float (lsV (apG (nE (Z.2.1 54)) (nR (Z.2.1 54))) (rv (mP (Z.2.1 54))) l)]) rfl rfl rfl ?_
  refine XW.callS 22 (vs := [.float (lsV (apG (nE (Z.2.1 54)) (nR (Z.2.1 54))) (rv (mP (Z.2.1 54))) l)]) (rest := []) (mcr := 0) (msr := 0) c4_117 dX4_leastNow_19 rfl (by decide) (Nat.le_of_ble_eq_true rfl) rfl rfl (Nat.le_of_ble_eq_true rfl) rfl (k_bitsOf _ _ (Or.inl (okB_ls okc hf c20))) (fun r h1 hq => ?_)
  obtain ⟨rfl, rfl⟩ := hq
  refine XW.eqs (st' := [.int ((lsV (apG (nE (Z.2.1 54)) (nR (Z.2.1 54))) (rv (mP (Z.2.1 54))) l).toInt32)]) rfl rfl rfl ?_
  exact XW.iret dX4_leastNow_22 rfl (⟨rfl, G, S, rfl⟩)
set_option maxHeartbeats 400000 in
set_option maxRecDepth 100000 in
theorem l_knn_i {Z : xZ} {c l : Nat} (mi : MI (Z.2.1 54) c l) (hG : gapOK (Z.2.2.1 59) (nE (Z.2.1 54)) (nR (Z.2.1 54)) c) {i : Nat} (il : i < l) (KK : XW mX4_nearestNow 5 0 0 10 [some (.ref 53), some (.int ((npO (apG (nE (Z.2.1 54)) (nR (Z.2.1 54))) (rv (mP (Z.2.1 54))) l (i + 1)).1)), some (.float ((npO (apG (nE (Z.2.1 54)) (nR (Z.2.1 54))) (rv (mP (Z.2.1 54))) l (i + 1)).2)), some (.int (nI (i + 1))), none, none] [] (HP Z) (fun r h' => r = some (.int (npO (apG (nE (Z.2.1 54)) (nR (Z.2.1 54))) (rv (mP (Z.2.1 54))) l l).1) ∧ h' = HP Z)) : ∀ (n : Nat) (t : Nat), i + 1 + t ≤ l → l < i + 1 + t + n → XW mX4_nearestNow 5 0 0 26 [some (.ref 53), some (.int ((npI (apG (nE (Z.2.1 54)) (nR (Z.2.1 54))) (rv (mP (Z.2.1 54))) i (npO (apG (nE (Z.2.1 54)) (nR (Z.2.1 54))) (rv (mP (Z.2.1 54))) l i) t).1)), some (.float ((npI (apG (nE (Z.2.1 54)) (nR (Z.2.1 54))) (rv (mP (Z.2.1 54))) i (npO (apG (nE (Z.2.1 54)) (nR (Z.2.1 54))) (rv (mP (Z.2.1 54))) l i) t).2)), some (.int (nI i)), some (.int (nI (i + 1 + t))), none] [] (HP Z) (fun r h' => r = some (.int (npO (apG (nE (Z.2.1 54)) (nR (Z.2.1 54))) (rv (mP (Z.2.1 54))) l l).1) ∧ h' = HP Z) := by
  intro n
  induction n with
  | zero => intro t g0 g1; omega
  | succ n ih =>
    intro t g0 g1
    obtain ⟨hc, c20, hl, l8, ok, hf, hdi, hfb⟩ := id mi
    have okc := ok_cut ok
    refine XW.iload 28 dX4_nearestNow_26 rfl rfl ?_
    refine XW.aload_n 29 dX4_nearestNow_28 rfl rfl ?_
    refine XW.getf 32 (v := .ref 54) f4_7 dX4_nearestNow_29 rfl rfl rfl ?_
    refine XW.bipush 34 dX4_nearestNow_32 (v := 120) (by decide) rfl ?_
    refine XW.iald 35 120 dX4_nearestNow_34 rfl rfl (by omega) (by decide) rfl ?_
    refine XW.icmp_geN 97 38 (i + 1 + t) l dX4_nearestNow_35 (by decide) rfl rfl hl (by omega) (by omega) (fun c_35 => ?_) (fun c_35 => ?_)
    · refine XW.iinc 100 (y := nI (i + 1)) (L' := [some (.ref 53), some (.int ((npI (apG (nE (Z.2.1 54)) (nR (Z.2.1 54))) (rv (mP (Z.2.1 54))) i (npO (apG (nE (Z.2.1 54)) (nR (Z.2.1 54))) (rv (mP (Z.2.1 54))) l i) t).1)), some (.float ((npI (apG (nE (Z.2.1 54)) (nR (Z.2.1 54))) (rv (mP (Z.2.1 54))) i (npO (apG (nE (Z.2.1 54)) (nR (Z.2.1 54))) (rv (mP (Z.2.1 54))) l i) t).2)), some (.int (nI (i + 1))), some (.int (nI (i + 1 + t))), none]) dX4_nearestNow_97 rfl (na rfl rfl) (by decide) rfl rfl rfl ?_
      refine XW.goto 10 dX4_nearestNow_100 (by decide) ?_
      refine XW.weak [true, true, true, true, false, true] (L' := [some (.ref 53), some (.int ((npI (apG (nE (Z.2.1 54)) (nR (Z.2.1 54))) (rv (mP (Z.2.1 54))) i (npO (apG (nE (Z.2.1 54)) (nR (Z.2.1 54))) (rv (mP (Z.2.1 54))) l i) t).1)), some (.float ((npI (apG (nE (Z.2.1 54)) (nR (Z.2.1 54))) (rv (mP (Z.2.1 54))) i (npO (apG (nE (Z.2.1 54)) (nR (Z.2.1 54))) (rv (mP (Z.2.1 54))) l i) t).2)), some (.int (nI (i + 1))), none, none]) rfl ?_
      refine XW.eqs (L' := [some (.ref 53), some (.int ((npO (apG (nE (Z.2.1 54)) (nR (Z.2.1 54))) (rv (mP (Z.2.1 54))) l (i + 1)).1)), some (.float ((npO (apG (nE (Z.2.1 54)) (nR (Z.2.1 54))) (rv (mP (Z.2.1 54))) l (i + 1)).2)), some (.int (nI (i + 1))), none, none]) (by rw [show npO (apG (nE (Z.2.1 54)) (nR (Z.2.1 54))) (rv (mP (Z.2.1 54))) l (i + 1) = npI (apG (nE (Z.2.1 54)) (nR (Z.2.1 54))) (rv (mP (Z.2.1 54))) i (npO (apG (nE (Z.2.1 54)) (nR (Z.2.1 54))) (rv (mP (Z.2.1 54))) l i) (l - (i + 1)) from rfl, show l - (i + 1) = t by omega]) rfl rfl ?_
      exact KK
    · have b1 := (hf (i) (by omega)).2
      have b2 := (hf (i + 1 + t) (by omega)).2
      have b3 := hdi (i) (i + 1 + t) (by omega) (by omega)
      have b4 := hG _ _ b1 b2 b3
      have b5 : NF (Z.2.2.1 59 (20 * rv (mP (Z.2.1 54)) (i) + rv (mP (Z.2.1 54)) (i + 1 + t))) := by rw [b4]; exact apG_NF okc (by omega) (by omega)
      refine XW.aload_n 39 dX4_nearestNow_38 rfl rfl ?_
      refine XW.getf 42 (v := .ref 59) f4_25 dX4_nearestNow_39 rfl rfl rfl ?_
      refine XW.bipush 44 dX4_nearestNow_42 (v := 20) (by decide) rfl ?_
      refine XW.aload_n 45 dX4_nearestNow_44 rfl rfl ?_
      refine XW.getf 48 (v := .ref 54) f4_7 dX4_nearestNow_45 rfl rfl rfl ?_
      refine XW.bipush 50 dX4_nearestNow_48 (v := 121) (by decide) rfl ?_
      refine XW.iload_n 51 dX4_nearestNow_50 rfl rfl ?_
      refine XW.iadd 52 dX4_nearestNow_51 rfl ?_
      refine XW.iald 53 (121 + i) dX4_nearestNow_52 rfl (na rfl rfl) (by omega) (by decide) rfl ?_
      refine XW.imul 54 dX4_nearestNow_53 rfl ?_
      refine XW.aload_n 55 dX4_nearestNow_54 rfl rfl ?_
      refine XW.getf 58 (v := .ref 54) f4_7 dX4_nearestNow_55 rfl rfl rfl ?_
      refine XW.bipush 60 dX4_nearestNow_58 (v := 121) (by decide) rfl ?_
      refine XW.iload 62 dX4_nearestNow_60 rfl rfl ?_
      refine XW.iadd 63 dX4_nearestNow_62 rfl ?_
      refine XW.iald 64 (121 + (i + 1 + t)) dX4_nearestNow_63 rfl (na rfl rfl) (by omega) (by decide) rfl ?_
      refine XW.iadd 65 dX4_nearestNow_64 rfl ?_
      refine XW.fald 66 ((20 * (rv (mP (Z.2.1 54)) i)) + (rv (mP (Z.2.1 54)) (i + 1 + t))) dX4_nearestNow_65 rfl (na (nm rfl (hf i (by omega)).1) (hf (i + 1 + t) (by omega)).1) (by omega) (by decide) rfl ?_
      refine XW.fstore 68 (L' := [some (.ref 53), some (.int ((npI (apG (nE (Z.2.1 54)) (nR (Z.2.1 54))) (rv (mP (Z.2.1 54))) i (npO (apG (nE (Z.2.1 54)) (nR (Z.2.1 54))) (rv (mP (Z.2.1 54))) l i) t).1)), some (.float ((npI (apG (nE (Z.2.1 54)) (nR (Z.2.1 54))) (rv (mP (Z.2.1 54))) i (npO (apG (nE (Z.2.1 54)) (nR (Z.2.1 54))) (rv (mP (Z.2.1 54))) l i) t).2)), some (.int (nI i)), some (.int (nI (i + 1 + t))), some (.float (Z.2.2.1 59 ((20 * (rv (mP (Z.2.1 54)) i)) + (rv (mP (Z.2.1 54)) (i + 1 + t)))))]) dX4_nearestNow_66 (by decide) rfl rfl rfl ?_
      refine XW.iload_n 69 dX4_nearestNow_68 rfl rfl ?_
      refine XW.iconst 70 dX4_nearestNow_69 (v := -1) (by decide) rfl ?_
      refine XW.icmp_eq 80 73 dX4_nearestNow_70 (by decide) rfl (fun c_70 => ?_) (fun c_70 => ?_)
      · refine XW.bipush 82 dX4_nearestNow_80 (v := 10) (by decide) rfl ?_
        refine XW.iload_n 83 dX4_nearestNow_82 rfl rfl ?_
        refine XW.imul 84 dX4_nearestNow_83 rfl ?_
        refine XW.iload 86 dX4_nearestNow_84 rfl rfl ?_
        refine XW.iadd 87 dX4_nearestNow_86 rfl ?_
        refine XW.istore_n 88 (L' := [some (.ref 53), some (.int ((10 * (nI i)) + (nI (i + 1 + t)))), some (.float ((npI (apG (nE (Z.2.1 54)) (nR (Z.2.1 54))) (rv (mP (Z.2.1 54))) i (npO (apG (nE (Z.2.1 54)) (nR (Z.2.1 54))) (rv (mP (Z.2.1 54))) l i) t).2)), some (.int (nI i)), some (.int (nI (i + 1 + t))), some (.float (Z.2.2.1 59 ((20 * (rv (mP (Z.2.1 54)) i)) + (rv (mP (Z.2.1 54)) (i + 1 + t)))))]) dX4_nearestNow_87 (by decide) rfl rfl rfl ?_
        refine XW.fload 90 dX4_nearestNow_88 rfl rfl ?_
        refine XW.fstore_n 91 (L' := [some (.ref 53), some (.int ((10 * (nI i)) + (nI (i + 1 + t)))), some (.float (Z.2.2.1 59 ((20 * (rv (mP (Z.2.1 54)) i)) + (rv (mP (Z.2.1 54)) (i + 1 + t))))), some (.int (nI i)), some (.int (nI (i + 1 + t))), some (.float (Z.2.2.1 59 ((20 * (rv (mP (Z.2.1 54)) i)) + (rv (mP (Z.2.1 54)) (i + 1 + t)))))]) dX4_nearestNow_90 (by decide) rfl rfl rfl ?_
        refine XW.iinc 94 (y := nI (i + 1 + t + 1)) (L' := [some (.ref 53), some (.int ((10 * (nI i)) + (nI (i + 1 + t)))), some (.float (Z.2.2.1 59 ((20 * (rv (mP (Z.2.1 54)) i)) + (rv (mP (Z.2.1 54)) (i + 1 + t))))), some (.int (nI i)), some (.int (nI (i + 1 + t + 1))), some (.float (Z.2.2.1 59 ((20 * (rv (mP (Z.2.1 54)) i)) + (rv (mP (Z.2.1 54)) (i + 1 + t)))))]) dX4_nearestNow_91 rfl (na rfl rfl) (by decide) rfl rfl rfl ?_
        refine XW.goto 26 dX4_nearestNow_94 (by decide) ?_
        refine XW.weak [true, true, true, true, true, false] (L' := [some (.ref 53), some (.int ((10 * (nI i)) + (nI (i + 1 + t)))), some (.float (Z.2.2.1 59 ((20 * (rv (mP (Z.2.1 54)) i)) + (rv (mP (Z.2.1 54)) (i + 1 + t))))), some (.int (nI i)), some (.int (nI (i + 1 + t + 1))), none]) rfl ?_
        refine XW.eqs (L' := [some (.ref 53), some (.int ((npI (apG (nE (Z.2.1 54)) (nR (Z.2.1 54))) (rv (mP (Z.2.1 54))) i (npO (apG (nE (Z.2.1 54)) (nR (Z.2.1 54))) (rv (mP (Z.2.1 54))) l i) (t + 1)).1)), some (.float ((npI (apG (nE (Z.2.1 54)) (nR (Z.2.1 54))) (rv (mP (Z.2.1 54))) i (npO (apG (nE (Z.2.1 54)) (nR (Z.2.1 54))) (rv (mP (Z.2.1 54))) l i) (t + 1)).2)), some (.int (nI i)), some (.int (nI (i + 1 + (t + 1)))), none]) (by rw [npI_t (by first | exact Or.inl c_70 | exact Or.inr (b4 ▸ c_77)), ← b4]; rfl) rfl rfl ?_
        exact ih (t + 1) (by omega) (by omega)
      · refine XW.fload 75 dX4_nearestNow_73 rfl rfl ?_
        refine XW.fload_n 76 dX4_nearestNow_75 rfl rfl ?_
        refine XW.fcmpU 77 dX4_nearestNow_76 b5 (npI_NF (npO_NF (rowNF okc hf c20) i (by omega)) _ (fun k hk => rowNF okc hf c20 i (i + 1 + k) (by omega) (by omega))) rfl ?_
        refine XW.if_geU 91 80 dX4_nearestNow_77 (by decide) rfl (fun c_77 => ?_) (fun c_77 => ?_)
        · refine XW.iinc 94 (y := nI (i + 1 + t + 1)) (L' := [some (.ref 53), some (.int ((npI (apG (nE (Z.2.1 54)) (nR (Z.2.1 54))) (rv (mP (Z.2.1 54))) i (npO (apG (nE (Z.2.1 54)) (nR (Z.2.1 54))) (rv (mP (Z.2.1 54))) l i) t).1)), some (.float ((npI (apG (nE (Z.2.1 54)) (nR (Z.2.1 54))) (rv (mP (Z.2.1 54))) i (npO (apG (nE (Z.2.1 54)) (nR (Z.2.1 54))) (rv (mP (Z.2.1 54))) l i) t).2)), some (.int (nI i)), some (.int (nI (i + 1 + t + 1))), some (.float (Z.2.2.1 59 ((20 * (rv (mP (Z.2.1 54)) i)) + (rv (mP (Z.2.1 54)) (i + 1 + t)))))]) dX4_nearestNow_91 rfl (na rfl rfl) (by decide) rfl rfl rfl ?_
          refine XW.goto 26 dX4_nearestNow_94 (by decide) ?_
          refine XW.weak [true, true, true, true, true, false] (L' := [some (.ref 53), some (.int ((npI (apG (nE (Z.2.1 54)) (nR (Z.2.1 54))) (rv (mP (Z.2.1 54))) i (npO (apG (nE (Z.2.1 54)) (nR (Z.2.1 54))) (rv (mP (Z.2.1 54))) l i) t).1)), some (.float ((npI (apG (nE (Z.2.1 54)) (nR (Z.2.1 54))) (rv (mP (Z.2.1 54))) i (npO (apG (nE (Z.2.1 54)) (nR (Z.2.1 54))) (rv (mP (Z.2.1 54))) l i) t).2)), some (.int (nI i)), some (.int (nI (i + 1 + t + 1))), none]) rfl ?_
          refine XW.eqs (L' := [some (.ref 53), some (.int ((npI (apG (nE (Z.2.1 54)) (nR (Z.2.1 54))) (rv (mP (Z.2.1 54))) i (npO (apG (nE (Z.2.1 54)) (nR (Z.2.1 54))) (rv (mP (Z.2.1 54))) l i) (t + 1)).1)), some (.float ((npI (apG (nE (Z.2.1 54)) (nR (Z.2.1 54))) (rv (mP (Z.2.1 54))) i (npO (apG (nE (Z.2.1 54)) (nR (Z.2.1 54))) (rv (mP (Z.2.1 54))) l i) (t + 1)).2)), some (.int (nI i)), some (.int (nI (i + 1 + (t + 1)))), none]) (by rw [npI_f c_70 (b4 ▸ c_77)]; rfl) rfl rfl ?_
          exact ih (t + 1) (by omega) (by omega)
        · refine XW.bipush 82 dX4_nearestNow_80 (v := 10) (by decide) rfl ?_
          refine XW.iload_n 83 dX4_nearestNow_82 rfl rfl ?_
          refine XW.imul 84 dX4_nearestNow_83 rfl ?_
          refine XW.iload 86 dX4_nearestNow_84 rfl rfl ?_
          refine XW.iadd 87 dX4_nearestNow_86 rfl ?_
          refine XW.istore_n 88 (L' := [some (.ref 53), some (.int ((10 * (nI i)) + (nI (i + 1 + t)))), some (.float ((npI (apG (nE (Z.2.1 54)) (nR (Z.2.1 54))) (rv (mP (Z.2.1 54))) i (npO (apG (nE (Z.2.1 54)) (nR (Z.2.1 54))) (rv (mP (Z.2.1 54))) l i) t).2)), some (.int (nI i)), some (.int (nI (i + 1 + t))), some (.float (Z.2.2.1 59 ((20 * (rv (mP (Z.2.1 54)) i)) + (rv (mP (Z.2.1 54)) (i + 1 + t)))))]) dX4_nearestNow_87 (by decide) rfl rfl rfl ?_
          refine XW.fload 90 dX4_nearestNow_88 rfl rfl ?_
          refine XW.fstore_n 91 (L' := [some (.ref 53), some (.int ((10 * (nI i)) + (nI (i + 1 + t)))), some (.float (Z.2.2.1 59 ((20 * (rv (mP (Z.2.1 54)) i)) + (rv (mP (Z.2.1 54)) (i + 1 + t))))), some (.int (nI i)), some (.int (nI (i + 1 + t))), some (.float (Z.2.2.1 59 ((20 * (rv (mP (Z.2.1 54)) i)) + (rv (mP (Z.2.1 54)) (i + 1 + t)))))]) dX4_nearestNow_90 (by decide) rfl rfl rfl ?_
          refine XW.iinc 94 (y := nI (i + 1 + t + 1)) (L' := [some (.ref 53), some (.int ((10 * (nI i)) + (nI (i + 1 + t)))), some (.float (Z.2.2.1 59 ((20 * (rv (mP (Z.2.1 54)) i)) + (rv (mP (Z.2.1 54)) (i + 1 + t))))), some (.int (nI i)), some (.int (nI (i + 1 + t + 1))), some (.float (Z.2.2.1 59 ((20 * (rv (mP (Z.2.1 54)) i)) + (rv (mP (Z.2.1 54)) (i + 1 + t)))))]) dX4_nearestNow_91 rfl (na rfl rfl) (by decide) rfl rfl rfl ?_
          refine XW.goto 26 dX4_nearestNow_94 (by decide) ?_
          refine XW.weak [true, true, true, true, true, false] (L' := [some (.ref 53), some (.int ((10 * (nI i)) + (nI (i + 1 + t)))), some (.float (Z.2.2.1 59 ((20 * (rv (mP (Z.2.1 54)) i)) + (rv (mP (Z.2.1 54)) (i + 1 + t))))), some (.int (nI i)), some (.int (nI (i + 1 + t + 1))), none]) rfl ?_
          refine XW.eqs (L' := [some (.ref 53), some (.int ((npI (apG (nE (Z.2.1 54)) (nR (Z.2.1 54))) (rv (mP (Z.2.1 54))) i (npO (apG (nE (Z.2.1 54)) (nR (Z.2.1 54))) (rv (mP (Z.2.1 54))) l i) (t + 1)).1)), some (.float ((npI (apG (nE (Z.2.1 54)) (nR (Z.2.1 54))) (rv (mP (Z.2.1 54))) i (npO (apG (nE (Z.2.1 54)) (nR (Z.2.1 54))) (rv (mP (Z.2.1 54))) l i) (t + 1)).2)), some (.int (nI i)), some (.int (nI (i + 1 + (t + 1)))), none]) (by rw [npI_t (by first | exact Or.inl c_70 | exact Or.inr (b4 ▸ c_77)), ← b4]; rfl) rfl rfl ?_
          exact ih (t + 1) (by omega) (by omega)
set_option maxHeartbeats 400000 in
set_option maxRecDepth 100000 in
theorem l_knn_o {Z : xZ} {c l : Nat} (mi : MI (Z.2.1 54) c l) (hG : gapOK (Z.2.2.1 59) (nE (Z.2.1 54)) (nR (Z.2.1 54)) c) : ∀ (n : Nat) (i : Nat), i ≤ l → l < i + n → XW mX4_nearestNow 5 0 0 10 [some (.ref 53), some (.int ((npO (apG (nE (Z.2.1 54)) (nR (Z.2.1 54))) (rv (mP (Z.2.1 54))) l i).1)), some (.float ((npO (apG (nE (Z.2.1 54)) (nR (Z.2.1 54))) (rv (mP (Z.2.1 54))) l i).2)), some (.int (nI i)), none, none] [] (HP Z) (fun r h' => r = some (.int (npO (apG (nE (Z.2.1 54)) (nR (Z.2.1 54))) (rv (mP (Z.2.1 54))) l l).1) ∧ h' = HP Z) := by
  intro n
  induction n with
  | zero => intro i g0 g1; omega
  | succ n ih =>
    intro i g0 g1
    obtain ⟨hc, c20, hl, l8, ok, hf, hdi, hfb⟩ := id mi
    refine XW.iload_n 11 dX4_nearestNow_10 rfl rfl ?_
    refine XW.aload_n 12 dX4_nearestNow_11 rfl rfl ?_
    refine XW.getf 15 (v := .ref 54) f4_7 dX4_nearestNow_12 rfl rfl rfl ?_
    refine XW.bipush 17 dX4_nearestNow_15 (v := 120) (by decide) rfl ?_
    refine XW.iald 18 120 dX4_nearestNow_17 rfl rfl (by omega) (by decide) rfl ?_
    refine XW.icmp_geN 103 21 i l dX4_nearestNow_18 (by decide) rfl rfl hl (by omega) (by omega) (fun c_18 => ?_) (fun c_18 => ?_)
    · refine XW.iload_n 104 dX4_nearestNow_103 rfl rfl ?_
      exact XW.iret dX4_nearestNow_104 rfl (⟨by rw [show i = l by omega], rfl⟩)
    · refine XW.iload_n 22 dX4_nearestNow_21 rfl rfl ?_
      refine XW.iconst 23 dX4_nearestNow_22 (v := 1) (by decide) rfl ?_
      refine XW.iadd 24 dX4_nearestNow_23 rfl ?_
      refine XW.istore 26 (L' := [some (.ref 53), some (.int ((npO (apG (nE (Z.2.1 54)) (nR (Z.2.1 54))) (rv (mP (Z.2.1 54))) l i).1)), some (.float ((npO (apG (nE (Z.2.1 54)) (nR (Z.2.1 54))) (rv (mP (Z.2.1 54))) l i).2)), some (.int (nI i)), some (.int ((nI i) + 1)), none]) dX4_nearestNow_24 (by decide) rfl rfl rfl ?_
      refine XW.eqs (L' := [some (.ref 53), some (.int ((npI (apG (nE (Z.2.1 54)) (nR (Z.2.1 54))) (rv (mP (Z.2.1 54))) i (npO (apG (nE (Z.2.1 54)) (nR (Z.2.1 54))) (rv (mP (Z.2.1 54))) l i) 0).1)), some (.float ((npI (apG (nE (Z.2.1 54)) (nR (Z.2.1 54))) (rv (mP (Z.2.1 54))) i (npO (apG (nE (Z.2.1 54)) (nR (Z.2.1 54))) (rv (mP (Z.2.1 54))) l i) 0).2)), some (.int (nI i)), some (.int (nI (i + 1 + 0))), none]) (by rw [nI_1]; rfl) rfl rfl ?_
      exact l_knn_i mi hG (by omega) (ih (i + 1) (by omega) (by omega)) (l + 1) 0 (by omega) (by omega)
set_option maxHeartbeats 400000 in
set_option maxRecDepth 100000 in
theorem k_nearestNow {Z : xZ} {c l : Nat} (mi : MI (Z.2.1 54) c l)  : XC mX4_nearestNow 5 0 0 [.ref 53] (HP Z) (fun r h' => r = some (.int (npO (apG (nE (Z.2.1 54)) (nR (Z.2.1 54))) (rv (mP (Z.2.1 54))) l l).1) ∧ ∃ G, h' = HP (sF (sI Z 53 8 (fbF (nR (Z.2.1 54)) (nG (Z.2.1 54)) (nL (Z.2.1 54)) c)) 59 G)) := by
  show XW mX4_nearestNow 5 0 0 0 [some (.ref 53), none, none, none, none, none] [] (HP Z) _
  obtain ⟨hc, c20, hl, l8, ok, hf, hdi, hfb⟩ := id mi
  refine XW.aload_n 1 dX4_nearestNow_0 rfl rfl ?_
  refine XW.callV 4 (vs := []) (rest := []) (mcr := 0) (msr := 0) c4_142 dX4_nearestNow_1 rfl rfl (by decide) (Nat.le_of_ble_eq_true rfl) rfl rfl (Nat.le_of_ble_eq_true rfl) rfl (k_laysFar mi) (fun r h1 hq => ?_)
  obtain ⟨rfl, G, hG, rfl⟩ := hq
  refine XW.iconst 5 dX4_nearestNow_4 (v := -1) (by decide) rfl ?_
  refine XW.istore_n 6 (L' := [some (.ref 53), some (.int (-1)), none, none, none, none]) dX4_nearestNow_5 (by decide) rfl rfl rfl ?_
  refine XW.fconst0 7 dX4_nearestNow_6 rfl ?_
  refine XW.fstore_n 8 (L' := [some (.ref 53), some (.int (-1)), some (.float FP.fconst0), none, none, none]) dX4_nearestNow_7 (by decide) rfl rfl rfl ?_
  refine XW.iconst 9 dX4_nearestNow_8 (v := 0) (by decide) rfl ?_
  refine XW.istore_n 10 (L' := [some (.ref 53), some (.int (-1)), some (.float FP.fconst0), some (.int 0), none, none]) dX4_nearestNow_9 (by decide) rfl rfl rfl ?_
  refine XW.eqs (L' := [some (.ref 53), some (.int ((npO (apG (nE (Z.2.1 54)) (nR (Z.2.1 54))) (rv (mP (Z.2.1 54))) l 0).1)), some (.float ((npO (apG (nE (Z.2.1 54)) (nR (Z.2.1 54))) (rv (mP (Z.2.1 54))) l 0).2)), some (.int (nI 0)), none, none]) (by rfl) rfl rfl ?_
  refine XW.post (l_knn_o (Z := sF (sI Z 53 8 (fbF (nR (Z.2.1 54)) (nG (Z.2.1 54)) (nL (Z.2.1 54)) c)) 59 G) mi hG (l + 1) 0 (by omega) (by omega)) (fun r h1 hq => ⟨hq.1, G, hq.2⟩)
