/-! The class: leaving a state -/
theorem c_leave {Z : xZ} {st : Nat} {kp : Nat → Nat} (hst : Z.1 0 2 = nI st) (st5 : st ≤ 5) (hk : keptIs Z kp) : XC mX3_leaveState 3 0 0 [.ref 0] (HP Z) (fun r h' => r = none ∧ ∃ Y, LV st Z Y ∧ h' = HP Y) := by
  show XW mX3_leaveState 3 0 0 0 [some (.ref 0)] [] (HP Z) _
  have h6 := hk.1 st (by omega)
  refine XW.aload_n 1 dX3_leaveState_0 rfl rfl ?_
  refine XW.callV 4 (vs := []) (rest := []) (mcr := 0) (msr := 0) c3_194 dX3_leaveState_1 rfl rfl (by decide) (Nat.le_of_ble_eq_true rfl) rfl rfl (Nat.le_of_ble_eq_true rfl) rfl (c_noteState hst st5 h6.1 h6.2) (fun r h1 hq => ?_)
  obtain ⟨rfl, rfl⟩ := hq
  refine XW.aload_n 5 dX3_leaveState_4 rfl rfl ?_
  have hst2 : (becZ Z (8 + 6 * kp st) 1).1 0 2 = nI st := by rw [bec_Io Z (by omega)]; exact hst
  by_cases h : st < 5
  · refine XW.callV 8 (vs := []) (rest := []) (mcr := 0) (msr := 0) c3_219 dX3_leaveState_5 rfl rfl (by decide) (Nat.le_of_ble_eq_true rfl) rfl rfl (Nat.le_of_ble_eq_true rfl) rfl (c_keep1 hst2 h) (fun r h1 hq => ?_)
    obtain ⟨rfl, rfl⟩ := hq
    exact XW.vret dX3_leaveState_8 trivial ⟨rfl, _, LV_1 h hk, rfl⟩
  · have e5 : st = 5 := by omega
    subst e5
    refine XW.callV 8 (vs := []) (rest := []) (mcr := 0) (msr := 0) c3_219 dX3_leaveState_5 rfl rfl (by decide) (Nat.le_of_ble_eq_true rfl) rfl rfl (Nat.le_of_ble_eq_true rfl) rfl (c_keep2 hst2 (hk.1 0 (by omega)).2 ⟨_, (hk.1 0 (by omega)).1, rfl⟩ (hk.1 1 (by omega)).2 ⟨_, (hk.1 1 (by omega)).1, rfl⟩ (hk.1 2 (by omega)).2 ⟨_, (hk.1 2 (by omega)).1, rfl⟩ (hk.1 3 (by omega)).2 ⟨_, (hk.1 3 (by omega)).1, rfl⟩ (hk.1 4 (by omega)).2 ⟨_, (hk.1 4 (by omega)).1, rfl⟩ (hk.1 5 (by omega)).2 ⟨_, (hk.1 5 (by omega)).1, rfl⟩) (fun r h1 hq => ?_)
    obtain ⟨rfl, rfl⟩ := hq
    exact XW.vret dX3_leaveState_8 trivial ⟨rfl, _, LV_2 hst hk, rfl⟩
