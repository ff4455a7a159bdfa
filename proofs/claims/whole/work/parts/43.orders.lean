/-! The class: orders -/
def rO (a : Int32) : Int32 := (a >>> ((16 : Int32) &&& 31)) &&& 255
def gO (a : Int32) : Int32 := (a >>> ((8 : Int32) &&& 31)) &&& 255
def bO (a : Int32) : Int32 := a &&& 255
/-- why an ORDER would be refused -/
def woF (kd a b col fx : Int32) : Int32 := if kd = 99 then wcF (rO a) (gO a) (bO a) col else if kd = 102 then wxF a b col else if kd = 108 then (if wlF 0 a = 0 then wlF 1 b else -2) else if kd = 112 then wfF a fx else 0
theorem bc_fxR {fx : Int32} {row : Nat → Int32} {c : Nat} (c20 : c ≤ 20) (h : ∀ j, j < 32 → bt fx j = true → j < c) : bcF fx = nI (fxR fx row c).2 ∧ (fxR fx row c).2 ≤ 20 := bc_fxR' c20 h
/-- what an ORDER does -/
def OBr (kd a b : Int32) (W V : xZ) : Prop := (kd = 99 ∧ ∃ c, W.1 1 0 = nI c ∧ c < 20 ∧ V = sI (sA W 2 (up3 (W.2.1 2) (3 * c) (rO a) (gO a) (bO a))) 1 0 (nI (c + 1))) ∨ (kd = 102 ∧ V = sI W 1 5 (fxF (W.1 1 5) a b)) ∨ (kd = 108 ∧ V = sA (sA W 5 (upd (W.2.1 5) 0 a)) 5 (upd (upd (W.2.1 5) 0 a) 1 b)) ∨
  (kd = 112 ∧ ∃ c n G, W.1 1 0 = nI c ∧ c ≤ 20 ∧ a = nI n ∧ n ≤ 8 ∧ V = sI (sA (sF W 51 G) 6 (fillF (apG (W.2.1 4) (W.2.1 2)) (W.2.1 2) (fbF (W.2.1 2) (W.2.1 3) (W.2.1 5) c) (W.1 1 5) (W.2.1 6) c n).1) 1 7 (nI (fillF (apG (W.2.1 4) (W.2.1 2)) (W.2.1 2) (fbF (W.2.1 2) (W.2.1 3) (W.2.1 5) c) (W.1 1 5) (W.2.1 6) c n).2)) ∨
  (¬ kd = 99 ∧ ¬ kd = 102 ∧ ¬ kd = 108 ∧ ¬ kd = 112 ∧ ∃ c l G, W.1 1 0 = nI c ∧ c ≤ 20 ∧ W.1 1 7 = nI l ∧ l ≤ 8 ∧ V = sA (sF W 51 G) 6 (saF (apG (W.2.1 4) (W.2.1 2)) (fbF (W.2.1 2) (W.2.1 3) (W.2.1 5) c) (W.1 1 5) l c 60 0 (W.2.1 6)).2)
theorem and255 (x : Int32) : isP (x &&& 255) := by
  obtain ⟨j, h1, h2⟩ := pk_andE x (m := 255) 8 (by decide)
  rw [h2]
  exact inF_iff.mpr ⟨nI_pos' (by omega), by rw [show (255 : Int32) = nI 255 from rfl, nI_leI (by omega) (by omega)]; omega⟩
theorem rgbO (a : Int32) : rgbF (rO a) (gO a) (bO a) = true := by
  unfold rgbF; rw [show inF (rO a) 0 255 = true from and255 _, show inF (gO a) 0 255 = true from and255 _, show inF (bO a) 0 255 = true from and255 _]; rfl
set_option maxHeartbeats 400000 in
set_option maxRecDepth 100000 in
theorem c_whyNoOrder {Z : xZ} {c l st len : Nat} {kp : Nat → Nat} (ci : CI Z c l st len kp) (kd a b : Int32) : XC mX3_whyNoOrder 3 0 0 [.ref 0, .int kd, .int a, .int b] (HP Z) (fun r h' => r = some (.int (woF kd a b (Z.1 1 0) (Z.1 1 5))) ∧ h' = HP Z) := by
  show XW mX3_whyNoOrder 3 0 0 0 [some (.ref 0), some (.int kd), some (.int a), some (.int b)] [] (HP Z) _
  obtain ⟨hc, c20, hl, l8, ok, hf, hdi, hfb, hst, st5, hk, hlen, l120⟩ := id ci
  refine XW.iload_n 1 dX3_whyNoOrder_0 rfl rfl ?_
  by_cases e1 : kd = 99
  · refine XW.lookup 44 dX3_whyNoOrder_1 (by decide) (by rw [e1] <;> rfl) (by decide) ?_
    refine XW.aload_n 45 dX3_whyNoOrder_44 rfl rfl ?_
    refine XW.iload_n 46 dX3_whyNoOrder_45 rfl rfl ?_
    refine XW.callS 49 (vs := [.int a]) (rest := [.ref 0]) (mcr := 0) (msr := 0) c3_247 dX3_whyNoOrder_46 rfl (by decide) (Nat.le_of_ble_eq_true rfl) rfl rfl (Nat.le_of_ble_eq_true rfl) rfl (c_redOf _ _) (fun r h1 hq => ?_)
    obtain ⟨rfl, rfl⟩ := hq
    refine XW.iload_n 50 dX3_whyNoOrder_49 rfl rfl ?_
    refine XW.callS 53 (vs := [.int a]) (rest := [.int (rO a), .ref 0]) (mcr := 0) (msr := 0) c3_250 dX3_whyNoOrder_50 rfl (by decide) (Nat.le_of_ble_eq_true rfl) rfl rfl (Nat.le_of_ble_eq_true rfl) rfl (c_greenOf _ _) (fun r h1 hq => ?_)
    obtain ⟨rfl, rfl⟩ := hq
    refine XW.iload_n 54 dX3_whyNoOrder_53 rfl rfl ?_
    refine XW.callS 57 (vs := [.int a]) (rest := [.int (gO a), .int (rO a), .ref 0]) (mcr := 0) (msr := 0) c3_253 dX3_whyNoOrder_54 rfl (by decide) (Nat.le_of_ble_eq_true rfl) rfl rfl (Nat.le_of_ble_eq_true rfl) rfl (c_blueOf _ _) (fun r h1 hq => ?_)
    obtain ⟨rfl, rfl⟩ := hq
    refine XW.callV 60 (vs := [.int (rO a), .int (gO a), .int (bO a)]) (rest := []) (mcr := 0) (msr := 0) c3_42 dX3_whyNoOrder_57 rfl rfl (by decide) (Nat.le_of_ble_eq_true rfl) rfl rfl (Nat.le_of_ble_eq_true rfl) rfl (c_whyNoColour _ _ _) (fun r h1 hq => ?_)
    obtain ⟨rfl, rfl⟩ := hq
    exact XW.iret dX3_whyNoOrder_60 rfl (⟨by unfold woF; rw [if_pos e1], rfl⟩)
  · have n_e1 := i32_ne (z := 99) (by decide) e1
    by_cases e2 : kd = 102
    · refine XW.lookup 61 dX3_whyNoOrder_1 (by decide) (by rw [e2] <;> rfl) (by decide) ?_
      refine XW.aload_n 62 dX3_whyNoOrder_61 rfl rfl ?_
      refine XW.iload_n 63 dX3_whyNoOrder_62 rfl rfl ?_
      refine XW.iload_n 64 dX3_whyNoOrder_63 rfl rfl ?_
      refine XW.callV 67 (vs := [.int a, .int b]) (rest := []) (mcr := 0) (msr := 0) c3_91 dX3_whyNoOrder_64 rfl rfl (by decide) (Nat.le_of_ble_eq_true rfl) rfl rfl (Nat.le_of_ble_eq_true rfl) rfl (c_whyNotFixed _ _) (fun r h1 hq => ?_)
      obtain ⟨rfl, rfl⟩ := hq
      exact XW.iret dX3_whyNoOrder_67 rfl (⟨by unfold woF; rw [if_neg e1, if_pos e2], rfl⟩)
    · have n_e2 := i32_ne (z := 102) (by decide) e2
      by_cases e3 : kd = 108
      · refine XW.lookup 68 dX3_whyNoOrder_1 (by decide) (by rw [e3] <;> rfl) (by decide) ?_
        refine XW.aload_n 69 dX3_whyNoOrder_68 rfl rfl ?_
        refine XW.iconst 70 dX3_whyNoOrder_69 (v := 0) (by decide) rfl ?_
        refine XW.iload_n 71 dX3_whyNoOrder_70 rfl rfl ?_
        refine XW.callV 74 (vs := [.int 0, .int a]) (rest := []) (mcr := 0) (msr := 0) c3_84 dX3_whyNoOrder_71 rfl rfl (by decide) (Nat.le_of_ble_eq_true rfl) rfl rfl (Nat.le_of_ble_eq_true rfl) rfl (c_whyNoLimit _ _) (fun r h1 hq => ?_)
        obtain ⟨rfl, rfl⟩ := hq
        refine XW.if_eq 82 77 dX3_whyNoOrder_74 (by decide) rfl (fun c_74 => ?_) (fun c_74 => ?_)
        · refine XW.aload_n 83 dX3_whyNoOrder_82 rfl rfl ?_
          refine XW.iconst 84 dX3_whyNoOrder_83 (v := 1) (by decide) rfl ?_
          refine XW.iload_n 85 dX3_whyNoOrder_84 rfl rfl ?_
          refine XW.callV 88 (vs := [.int 1, .int b]) (rest := []) (mcr := 0) (msr := 0) c3_84 dX3_whyNoOrder_85 rfl rfl (by decide) (Nat.le_of_ble_eq_true rfl) rfl rfl (Nat.le_of_ble_eq_true rfl) rfl (c_whyNoLimit _ _) (fun r h1 hq => ?_)
          obtain ⟨rfl, rfl⟩ := hq
          exact XW.iret dX3_whyNoOrder_88 rfl (⟨by unfold woF; rw [if_neg e1, if_neg e2, if_pos e3, if_pos c_74], rfl⟩)
        · refine XW.bipush 79 dX3_whyNoOrder_77 (v := -2) (by decide) rfl ?_
          refine XW.goto 88 dX3_whyNoOrder_79 (by decide) ?_
          exact XW.iret dX3_whyNoOrder_88 rfl (⟨by unfold woF; rw [if_neg e1, if_neg e2, if_pos e3, if_neg c_74], rfl⟩)
      · have n_e3 := i32_ne (z := 108) (by decide) e3
        by_cases e4 : kd = 112
        · refine XW.lookup 89 dX3_whyNoOrder_1 (by decide) (by rw [e4] <;> rfl) (by decide) ?_
          refine XW.aload_n 90 dX3_whyNoOrder_89 rfl rfl ?_
          refine XW.iload_n 91 dX3_whyNoOrder_90 rfl rfl ?_
          refine XW.callV 94 (vs := [.int a]) (rest := []) (mcr := 0) (msr := 0) c3_132 dX3_whyNoOrder_91 rfl rfl (by decide) (Nat.le_of_ble_eq_true rfl) rfl rfl (Nat.le_of_ble_eq_true rfl) rfl (c_whyNoFilling _) (fun r h1 hq => ?_)
          obtain ⟨rfl, rfl⟩ := hq
          exact XW.iret dX3_whyNoOrder_94 rfl (⟨by unfold woF; rw [if_neg e1, if_neg e2, if_neg e3, if_pos e4], rfl⟩)
        · have n_e4 := i32_ne (z := 112) (by decide) e4
          refine XW.lookup 95 (off := 94) dX3_whyNoOrder_1 (by decide) ((if_neg n_e1).trans ((if_neg n_e2).trans ((if_neg n_e3).trans ((if_neg n_e4).trans rfl)))) (by decide) ?_
          refine XW.iconst 96 dX3_whyNoOrder_95 (v := 0) (by decide) rfl ?_
          exact XW.iret dX3_whyNoOrder_96 rfl (⟨by unfold woF; rw [if_neg e1, if_neg e2, if_neg e3, if_neg e4], rfl⟩)
set_option maxHeartbeats 400000 in
set_option maxRecDepth 100000 in
theorem ob_c {Z : xZ} {c l st len : Nat} {kp : Nat → Nat} (ci : CI Z c l st len kp) {kd : Int32} (a b : Int32) (e : kd = 99) (c19 : c < 20) : XC mX3_obey 8 0 0 [.ref 0, .int kd, .int a, .int b] (HP Z) (fun r h' => r = none ∧ ∃ V, OBr kd a b Z V ∧ (∃ c' l', CI V c' l' st len kp) ∧ h' = HP V) := by
  show XW mX3_obey 8 0 0 0 [some (.ref 0), some (.int kd), some (.int a), some (.int b)] [] (HP Z) _
  obtain ⟨hc, c20, hl, l8, ok, hf, hdi, hfb, hst, st5, hk, hlen, l120⟩ := id ci
  refine XW.iload_n 1 dX3_obey_0 rfl rfl ?_
  refine XW.lookup 44 dX3_obey_1 (by decide) (by rw [e] <;> rfl) (by decide) ?_
  refine XW.aload_n 45 dX3_obey_44 rfl rfl ?_
  refine XW.getf 48 (v := .ref 1) f3_10 dX3_obey_45 rfl rfl rfl ?_
  refine XW.iload_n 49 dX3_obey_48 rfl rfl ?_
  refine XW.callS 52 (vs := [.int a]) (rest := [.ref 1]) (mcr := 0) (msr := 0) c3_247 dX3_obey_49 rfl (by decide) (Nat.le_of_ble_eq_true rfl) rfl rfl (Nat.le_of_ble_eq_true rfl) rfl (c_redOf _ _) (fun r h1 hq => ?_)
  obtain ⟨rfl, rfl⟩ := hq
  refine XW.iload_n 53 dX3_obey_52 rfl rfl ?_
  refine XW.callS 56 (vs := [.int a]) (rest := [.int (rO a), .ref 1]) (mcr := 0) (msr := 0) c3_250 dX3_obey_53 rfl (by decide) (Nat.le_of_ble_eq_true rfl) rfl rfl (Nat.le_of_ble_eq_true rfl) rfl (c_greenOf _ _) (fun r h1 hq => ?_)
  obtain ⟨rfl, rfl⟩ := hq
  refine XW.iload_n 57 dX3_obey_56 rfl rfl ?_
  refine XW.callS 60 (vs := [.int a]) (rest := [.int (gO a), .int (rO a), .ref 1]) (mcr := 0) (msr := 0) c3_253 dX3_obey_57 rfl (by decide) (Nat.le_of_ble_eq_true rfl) rfl rfl (Nat.le_of_ble_eq_true rfl) rfl (c_blueOf _ _) (fun r h1 hq => ?_)
  obtain ⟨rfl, rfl⟩ := hq
  refine XW.callV 63 (vs := [.int (rO a), .int (gO a), .int (bO a)]) (rest := []) (mcr := 0) (msr := 0) c3_53 dX3_obey_60 rfl rfl (by decide) (Nat.le_of_ble_eq_true rfl) rfl rfl (Nat.le_of_ble_eq_true rfl) rfl (c_addColour (rO a) (gO a) (bO a) hc c19) (fun r h1 hq => ?_)
  obtain ⟨rfl, rfl⟩ := hq
  refine XW.eqs (st' := [.int (Z.1 1 0)]) rfl rfl rfl ?_
  refine XW.pop 64 dX3_obey_63 rfl rfl ?_
  refine XW.goto 130 dX3_obey_64 (by decide) ?_
  exact XW.vret dX3_obey_130 trivial (⟨rfl, _, Or.inl ⟨e, c, hc, c19, rfl⟩, ⟨_, _, CI_add ci c19 (rgbO a)⟩, by rw [show Z.1 1 0 + 1 = nI (c + 1) from na hc rfl]⟩)
set_option maxHeartbeats 400000 in
set_option maxRecDepth 100000 in
theorem ob_f {Z : xZ} {c l st len : Nat} {kp : Nat → Nat} (ci : CI Z c l st len kp) {kd : Int32} (a b : Int32) {k : Nat} (e : kd = 102) (ha : a = nI k) (kc : k < c) : XC mX3_obey 8 0 0 [.ref 0, .int kd, .int a, .int b] (HP Z) (fun r h' => r = none ∧ ∃ V, OBr kd a b Z V ∧ (∃ c' l', CI V c' l' st len kp) ∧ h' = HP V) := by
  show XW mX3_obey 8 0 0 0 [some (.ref 0), some (.int kd), some (.int a), some (.int b)] [] (HP Z) _
  obtain ⟨hc, c20, hl, l8, ok, hf, hdi, hfb, hst, st5, hk, hlen, l120⟩ := id ci
  refine XW.iload_n 1 dX3_obey_0 rfl rfl ?_
  refine XW.lookup 67 dX3_obey_1 (by decide) (by rw [e] <;> rfl) (by decide) ?_
  refine XW.aload_n 68 dX3_obey_67 rfl rfl ?_
  refine XW.getf 71 (v := .ref 1) f3_10 dX3_obey_68 rfl rfl rfl ?_
  refine XW.iload_n 72 dX3_obey_71 rfl rfl ?_
  refine XW.iload_n 73 dX3_obey_72 rfl rfl ?_
  refine XW.callV 76 (vs := [.int a, .int b]) (rest := []) (mcr := 0) (msr := 0) c3_94 dX3_obey_73 rfl rfl (by decide) (Nat.le_of_ble_eq_true rfl) rfl rfl (Nat.le_of_ble_eq_true rfl) rfl (c_setFixed _ _) (fun r h1 hq => ?_)
  obtain ⟨rfl, rfl⟩ := hq
  refine XW.eqs (st' := [.int (bcF (fxF (Z.1 1 5) a b))]) rfl rfl rfl ?_
  refine XW.pop 77 dX3_obey_76 rfl rfl ?_
  refine XW.goto 130 dX3_obey_77 (by decide) ?_
  exact XW.vret dX3_obey_130 trivial (⟨rfl, _, Or.inr (Or.inl ⟨e, rfl⟩), ⟨_, _, CI_fix ci ha kc⟩, rfl⟩)
set_option maxHeartbeats 400000 in
set_option maxRecDepth 100000 in
theorem ob_l {Z : xZ} {c l st len : Nat} {kp : Nat → Nat} (ci : CI Z c l st len kp) {kd : Int32} (a b : Int32) (e : kd = 108) (h1 : isP a) (h2 : isP b) : XC mX3_obey 8 0 0 [.ref 0, .int kd, .int a, .int b] (HP Z) (fun r h' => r = none ∧ ∃ V, OBr kd a b Z V ∧ (∃ c' l', CI V c' l' st len kp) ∧ h' = HP V) := by
  show XW mX3_obey 8 0 0 0 [some (.ref 0), some (.int kd), some (.int a), some (.int b)] [] (HP Z) _
  obtain ⟨hc, c20, hl, l8, ok, hf, hdi, hfb, hst, st5, hk, hlen, l120⟩ := id ci
  refine XW.iload_n 1 dX3_obey_0 rfl rfl ?_
  refine XW.lookup 80 dX3_obey_1 (by decide) (by rw [e] <;> rfl) (by decide) ?_
  refine XW.aload_n 81 dX3_obey_80 rfl rfl ?_
  refine XW.getf 84 (v := .ref 1) f3_10 dX3_obey_81 rfl rfl rfl ?_
  refine XW.iconst 85 dX3_obey_84 (v := 0) (by decide) rfl ?_
  refine XW.iload_n 86 dX3_obey_85 rfl rfl ?_
  refine XW.callV 89 (vs := [.int 0, .int a]) (rest := []) (mcr := 0) (msr := 0) c3_88 dX3_obey_86 rfl rfl (by decide) (Nat.le_of_ble_eq_true rfl) rfl rfl (Nat.le_of_ble_eq_true rfl) rfl (c_setLimit (k := 0) _ rfl (by decide)) (fun r h1 hq => ?_)
  obtain ⟨rfl, rfl⟩ := hq
  refine XW.eqs (st' := [.int (Z.2.1 5 0)]) rfl rfl rfl ?_
  refine XW.pop 90 dX3_obey_89 rfl rfl ?_
  refine XW.aload_n 91 dX3_obey_90 rfl rfl ?_
  refine XW.getf 94 (v := .ref 1) f3_10 dX3_obey_91 rfl rfl rfl ?_
  refine XW.iconst 95 dX3_obey_94 (v := 1) (by decide) rfl ?_
  refine XW.iload_n 96 dX3_obey_95 rfl rfl ?_
  refine XW.callV 99 (vs := [.int 1, .int b]) (rest := []) (mcr := 0) (msr := 0) c3_88 dX3_obey_96 rfl rfl (by decide) (Nat.le_of_ble_eq_true rfl) rfl rfl (Nat.le_of_ble_eq_true rfl) rfl (c_setLimit (k := 1) _ rfl (by decide)) (fun r h1 hq => ?_)
  obtain ⟨rfl, rfl⟩ := hq
  refine XW.eqs (st' := [.int (upd (Z.2.1 5) 0 a 1)]) rfl rfl rfl ?_
  refine XW.pop 100 dX3_obey_99 rfl rfl ?_
  refine XW.goto 130 dX3_obey_100 (by decide) ?_
  exact XW.vret dX3_obey_130 trivial (⟨rfl, _, Or.inr (Or.inr (Or.inl ⟨e, rfl⟩)), ⟨_, _, CI_lim (Y := sA Z 5 (upd (Z.2.1 5) 0 a)) (CI_lim ci h1) h2⟩, rfl⟩)
set_option maxHeartbeats 400000 in
set_option maxRecDepth 100000 in
theorem ob_p {Z : xZ} {c l st len : Nat} {kp : Nat → Nat} (ci : CI Z c l st len kp) {kd : Int32} (a b : Int32) {n : Nat} (e : kd = 112) (hn : a = nI n) (n8 : n ≤ 8) (hfx : (fxR (Z.1 1 5) (Z.2.1 6) c).2 ≤ n) : XC mX3_obey 8 0 0 [.ref 0, .int kd, .int a, .int b] (HP Z) (fun r h' => r = none ∧ ∃ V, OBr kd a b Z V ∧ (∃ c' l', CI V c' l' st len kp) ∧ h' = HP V) := by
  show XW mX3_obey 8 0 0 0 [some (.ref 0), some (.int kd), some (.int a), some (.int b)] [] (HP Z) _
  obtain ⟨hc, c20, hl, l8, ok, hf, hdi, hfb, hst, st5, hk, hlen, l120⟩ := id ci
  refine XW.iload_n 1 dX3_obey_0 rfl rfl ?_
  refine XW.lookup 103 dX3_obey_1 (by decide) (by rw [e] <;> rfl) (by decide) ?_
  refine XW.aload_n 104 dX3_obey_103 rfl rfl ?_
  refine XW.getf 107 (v := .ref 50) f3_38 dX3_obey_104 rfl rfl rfl ?_
  refine XW.aload_n 108 dX3_obey_107 rfl rfl ?_
  refine XW.getf 111 (v := .ref 1) f3_10 dX3_obey_108 rfl rfl rfl ?_
  refine XW.iload_n 112 dX3_obey_111 rfl rfl ?_
  refine XW.callV 115 (vs := [.ref 1, .int a]) (rest := []) (mcr := 0) (msr := 0) c3_135 dX3_obey_112 rfl rfl (by decide) (Nat.le_of_ble_eq_true rfl) rfl rfl (Nat.le_of_ble_eq_true rfl) rfl (c_fill (n := n) hn n8 hc c20 (by omega) ok) (fun r h1 hq => ?_)
  obtain ⟨rfl, G, hG, rfl⟩ := hq
  refine XW.goto 130 dX3_obey_115 (by decide) ?_
  exact XW.vret dX3_obey_130 trivial (⟨rfl, _, Or.inr (Or.inr (Or.inr (Or.inl ⟨e, c, n, G, hc, c20, hn, n8, rfl⟩))), ⟨_, _, CI_row ci (fillF_ok (by omega) n8 hfx).2.2 (fillF_ok (by omega) n8 hfx).1 (fillF_ok (by omega) n8 hfx).2.1⟩, rfl⟩)
set_option maxHeartbeats 400000 in
set_option maxRecDepth 100000 in
theorem ob_s {Z : xZ} {c l st len : Nat} {kp : Nat → Nat} (ci : CI Z c l st len kp) {kd : Int32} (a b : Int32) (e1 : ¬ kd = 99) (e2 : ¬ kd = 102) (e3 : ¬ kd = 108) (e4 : ¬ kd = 112) : XC mX3_obey 8 0 0 [.ref 0, .int kd, .int a, .int b] (HP Z) (fun r h' => r = none ∧ ∃ V, OBr kd a b Z V ∧ (∃ c' l', CI V c' l' st len kp) ∧ h' = HP V) := by
  show XW mX3_obey 8 0 0 0 [some (.ref 0), some (.int kd), some (.int a), some (.int b)] [] (HP Z) _
  obtain ⟨hc, c20, hl, l8, ok, hf, hdi, hfb, hst, st5, hk, hlen, l120⟩ := id ci
  refine XW.iload_n 1 dX3_obey_0 rfl rfl ?_
  refine XW.lookup 118 (off := 117) dX3_obey_1 (by decide) ((if_neg (i32_ne (z := 99) (by decide) e1)).trans ((if_neg (i32_ne (z := 102) (by decide) e2)).trans ((if_neg (i32_ne (z := 108) (by decide) e3)).trans ((if_neg (i32_ne (z := 112) (by decide) e4)).trans rfl)))) (by decide) ?_
  refine XW.aload_n 119 dX3_obey_118 rfl rfl ?_
  refine XW.getf 122 (v := .ref 50) f3_38 dX3_obey_119 rfl rfl rfl ?_
  refine XW.aload_n 123 dX3_obey_122 rfl rfl ?_
  refine XW.getf 126 (v := .ref 1) f3_10 dX3_obey_123 rfl rfl rfl ?_
  refine XW.callV 129 (vs := [.ref 1]) (rest := []) (mcr := 0) (msr := 0) c3_142 dX3_obey_126 rfl rfl (by decide) (Nat.le_of_ble_eq_true rfl) rfl rfl (Nat.le_of_ble_eq_true rfl) rfl (c_swapAll hc c20 hl l8 hf hdi ok) (fun r h1 hq => ?_)
  obtain ⟨rfl, G, hG, rfl⟩ := hq
  refine XW.eqs (st' := [.int (nI ((saF (apG (Z.2.1 4) (Z.2.1 2)) (fbF (Z.2.1 2) (Z.2.1 3) (Z.2.1 5) c) (Z.1 1 5) l c 60 0 (Z.2.1 6)).1))]) rfl rfl rfl ?_
  refine XW.pop 130 dX3_obey_129 rfl rfl ?_
  exact XW.vret dX3_obey_130 trivial (⟨rfl, _, Or.inr (Or.inr (Or.inr (Or.inr ⟨e1, e2, e3, e4, c, l, G, hc, c20, hl, l8, rfl⟩))), ⟨_, _, CI_row2 ci (saF_ok (by omega) 60 0 _ hf hdi).1 (saF_ok (by omega) 60 0 _ hf hdi).2⟩, rfl⟩)
theorem inF_n {x : Int32} {a b : Nat} (hb : b < 2 ^ 31) (h : inF x (nI a) (nI b) = true) (ha : a < 2 ^ 31) : ∃ j, a ≤ j ∧ j ≤ b ∧ x = nI j := by
  obtain ⟨h1, h2⟩ := inF_iff.mp h
  have h0 : ¬ x < 0 := fun q => by
    have := Int32.le_trans (nI_pos' ha) h1
    exact absurd q (Int32.not_lt.mpr this)
  obtain ⟨j, j1, j2⟩ := nI_of h0
  subst j2
  rw [nI_leI ha j1] at h1
  rw [nI_leI j1 hb] at h2
  exact ⟨j, h1, h2, rfl⟩
theorem wfF_n {x fx : Int32} {row : Nat → Int32} {c : Nat} (c20 : c ≤ 20) (hfb : ∀ j, j < 32 → bt fx j = true → j < c) (h : wfF x fx = 0) : ∃ n, 1 ≤ n ∧ n ≤ 8 ∧ x = nI n ∧ (fxR fx row c).2 ≤ n := by
  unfold wfF at h
  split at h
  · rename_i hin
    obtain ⟨n, n1, n8, hn⟩ := inF_n (a := 1) (b := 8) (by omega) hin (by omega)
    split at h
    · rename_i hle
      obtain ⟨e1, e2⟩ := bc_fxR (row := row) c20 hfb
      rw [e1, hn, nI_leI (by omega) (by omega)] at hle
      exact ⟨n, n1, n8, hn, hle⟩
    · exact absurd h (by decide)
  · exact absurd h (by decide)
/-- an ORDER that isn't refused -/
theorem c_obey {Z : xZ} {c l st len : Nat} {kp : Nat → Nat} (ci : CI Z c l st len kp) (kd a b : Int32) (e : woF kd a b (Z.1 1 0) (Z.1 1 5) = 0) : XC mX3_obey 8 0 0 [.ref 0, .int kd, .int a, .int b] (HP Z) (fun r h' => r = none ∧ ∃ V, OBr kd a b Z V ∧ (∃ c' l', CI V c' l' st len kp) ∧ h' = HP V) := by
  obtain ⟨hc, c20, hl, l8, ok, hf, hdi, hfb, hst, st5, hk, hlen, l120⟩ := id ci
  unfold woF at e
  by_cases e1 : kd = 99
  · rw [if_pos e1] at e
    refine ob_c ci a b e1 ?_
    by_cases q : c < 20
    · exact q
    · rw [wcF_f (rgbO a) (by rw [hc, show c = 20 by omega]; exact nI_nlt20)] at e
      exact absurd e (by decide)
  rw [if_neg e1] at e
  by_cases e2 : kd = 102
  · rw [if_pos e2] at e
    unfold wxF at e
    split at e
    · rename_i q
      obtain ⟨k, k1, k2⟩ := isC_n (c := c) (by omega) (by rw [← hc]; exact q.1)
      exact ob_f ci a b e2 k2 k1
    · exact absurd e (by decide)
  rw [if_neg e2] at e
  by_cases e3 : kd = 108
  · rw [if_pos e3] at e
    split at e
    · rename_i q
      unfold wlF at q e
      split at q
      · rename_i q1
        split at e
        · rename_i q2
          exact ob_l ci a b e3 q1.2 q2.2
        · exact absurd e (by decide)
      · exact absurd q (by decide)
    · exact absurd e (by decide)
  rw [if_neg e3] at e
  by_cases e4 : kd = 112
  · rw [if_pos e4] at e
    obtain ⟨n, n1, n8, hn, hx⟩ := wfF_n (row := Z.2.1 6) c20 hfb e
    exact ob_p ci a b e4 hn n8 hx
  · exact ob_s ci a b e1 e2 e3 e4
