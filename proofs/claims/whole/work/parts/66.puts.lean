/-! Both sides together: calls that change -/
section Upd
variable {N : Nat → Int32} {a k : Nat} {v x y z : Int32}
theorem up3_x {f : Nat → Int32} {j : Nat} (h : j ≠ k ∧ j ≠ k + 1 ∧ j ≠ k + 2) : up3 f k x y z j = f j := by unfold up3; rw [upd_o h.2.2, upd_o h.2.1, upd_o h.1]
theorem nR_o (h : a < 1 ∨ 61 ≤ a) : nR (upd N a v) = nR N := by
  funext j; unfold nR; split
  · exact upd_o (by omega)
  · rfl
theorem nE_o (h : a < 62 ∨ 114 ≤ a) : nE (upd N a v) = nE N := by
  funext j; unfold nE; split
  · exact upd_o (by omega)
  · rfl
theorem nL_o (h : a < 114 ∨ 117 ≤ a) : nL (upd N a v) = nL N := by
  funext j; unfold nL; split
  · exact upd_o (by omega)
  · rfl
theorem nG_o (h : a < 117 ∨ 120 ≤ a) : nG (upd N a v) = nG N := by
  funext j; unfold nG; split
  · exact upd_o (by omega)
  · rfl
theorem mP_o (h : a < 121) : mP (upd N a v) = mP N := by
  funext j; exact upd_o (by omega)
theorem nR_i (h : k < 60) : nR (upd N (1 + k) v) = upd (nR N) k v := by
  funext j
  by_cases e : j = k
  · subst e; rw [upd_s]; unfold nR; rw [if_pos h, upd_s]
  · rw [upd_o e]; unfold nR; split
    · exact upd_o (by omega)
    · rfl
theorem nE_i (h : k < 52) : nE (upd N (62 + k) v) = upd (nE N) k v := by
  funext j
  by_cases e : j = k
  · subst e; rw [upd_s]; unfold nE; rw [if_pos h, upd_s]
  · rw [upd_o e]; unfold nE; split
    · exact upd_o (by omega)
    · rfl
theorem nL_i (h : k < 3) : nL (upd N (114 + k) v) = upd (nL N) k v := by
  funext j
  by_cases e : j = k
  · subst e; rw [upd_s]; unfold nL; rw [if_pos h, upd_s]
  · rw [upd_o e]; unfold nL; split
    · exact upd_o (by omega)
    · rfl
theorem nG_i (h : k < 3) : nG (upd N (117 + k) v) = upd (nG N) k v := by
  funext j
  by_cases e : j = k
  · subst e; rw [upd_s]; unfold nG; rw [if_pos h, upd_s]
  · rw [upd_o e]; unfold nG; split
    · exact upd_o (by omega)
    · rfl
theorem nR_3 (h : k + 2 < 60) : nR (up3 N (1 + k) x y z) = up3 (nR N) k x y z := by
  unfold up3
  rw [show 1 + k + 2 = 1 + (k + 2) by omega, show 1 + k + 1 = 1 + (k + 1) by omega, nR_i (by omega), nR_i (by omega), nR_i (by omega)]
theorem nG_3 : nG (up3 N 117 x y z) = up3 (nG N) 0 x y z := by
  unfold up3
  rw [show 117 + 2 = 117 + (0 + 2) by omega, show 117 + 1 = 117 + (0 + 1) by omega, nG_i (by omega), nG_i (by omega), show 117 = 117 + 0 by omega, nG_i (by omega)]
theorem nR_3o (h : 61 ≤ a) : nR (up3 N a x y z) = nR N := by unfold up3; rw [nR_o (by omega), nR_o (by omega), nR_o (by omega)]
theorem nE_3o (h : a + 2 < 62 ∨ 114 ≤ a) : nE (up3 N a x y z) = nE N := by unfold up3; rw [nE_o (by omega), nE_o (by omega), nE_o (by omega)]
theorem nL_3o (h : a + 2 < 114 ∨ 117 ≤ a) : nL (up3 N a x y z) = nL N := by unfold up3; rw [nL_o (by omega), nL_o (by omega), nL_o (by omega)]
theorem nG_3o (h : a + 2 < 117 ∨ 120 ≤ a) : nG (up3 N a x y z) = nG N := by unfold up3; rw [nG_o (by omega), nG_o (by omega), nG_o (by omega)]
theorem mP_3o (h : a + 2 < 121) : mP (up3 N a x y z) = mP N := by unfold up3; rw [mP_o (by omega), mP_o (by omega), mP_o (by omega)]
theorem ot_R (h : k + 2 < 60) : otF (nR N) k x y z = otF N (1 + k) x y z := by
  unfold otF
  rw [nR_eq (by omega), nR_eq (by omega), nR_eq (by omega)]; rfl
end Upd
section Nrm
variable {W : xZ} {N : Nat → Int32} {c : Nat} {x y z v : Int32}
theorem NRM.add (h : NRM W N) (c19 : c < 20) : NRM (sI (sA W 2 (up3 (W.2.1 2) (3 * c) x y z)) 1 0 (nI (c + 1))) (upd (up3 N (1 + 3 * c) x y z) 0 (nI (c + 1))) := by
  obtain ⟨h0, h5, h7, a2, a3, a4, a5, a6⟩ := h
  refine ⟨by rw [sI_1, upd_s], ?_, ?_, ?_, ?_, ?_, ?_, ?_⟩
  · rw [upd_o (by omega), up3_x (by omega)]; exact h5
  · rw [upd_o (by omega), up3_x (by omega)]; exact h7
  · rw [nR_o (by omega), nR_3 (by omega), ← a2]; rfl
  · rw [nG_o (by omega), nG_3o (by omega)]; exact a3
  · rw [nE_o (by omega), nE_3o (by omega)]; exact a4
  · rw [nL_o (by omega), nL_3o (by omega)]; exact a5
  · rw [mP_o (by omega), mP_3o (by omega)]; exact a6
theorem NRM.paint (h : NRM W N) {i : Nat} (i20 : i < 20) : NRM (sA W 2 (up3 (W.2.1 2) (3 * i) x y z)) (up3 N (1 + 3 * i) x y z) := by
  obtain ⟨h0, h5, h7, a2, a3, a4, a5, a6⟩ := h
  refine ⟨?_, ?_, ?_, ?_, ?_, ?_, ?_, ?_⟩
  · rw [up3_x (by omega)]; exact h0
  · rw [up3_x (by omega)]; exact h5
  · rw [up3_x (by omega)]; exact h7
  · rw [nR_3 (by omega), ← a2]; rfl
  · rw [nG_3o (by omega)]; exact a3
  · rw [nE_3o (by omega)]; exact a4
  · rw [nL_3o (by omega)]; exact a5
  · rw [mP_3o (by omega)]; exact a6
theorem NRM.ground (h : NRM W N) : NRM (sA W 3 (up3 (W.2.1 3) 0 x y z)) (up3 N 117 x y z) := by
  obtain ⟨h0, h5, h7, a2, a3, a4, a5, a6⟩ := h
  refine ⟨?_, ?_, ?_, ?_, ?_, ?_, ?_, ?_⟩
  · rw [up3_x (by omega)]; exact h0
  · rw [up3_x (by omega)]; exact h5
  · rw [up3_x (by omega)]; exact h7
  · rw [nR_3o (by omega)]; exact a2
  · rw [nG_3, ← a3]; rfl
  · rw [nE_3o (by omega)]; exact a4
  · rw [nL_3o (by omega)]; exact a5
  · rw [mP_3o (by omega)]; exact a6
theorem NRM.eye (h : NRM W N) {k : Nat} (hk : k < 52) : NRM (sA W 4 (upd (W.2.1 4) k v)) (upd N (62 + k) v) := by
  obtain ⟨h0, h5, h7, a2, a3, a4, a5, a6⟩ := h
  refine ⟨?_, ?_, ?_, ?_, ?_, ?_, ?_, ?_⟩
  · rw [upd_o (by omega)]; exact h0
  · rw [upd_o (by omega)]; exact h5
  · rw [upd_o (by omega)]; exact h7
  · rw [nR_o (by omega)]; exact a2
  · rw [nG_o (by omega)]; exact a3
  · rw [nE_i hk, ← a4]; rfl
  · rw [nL_o (by omega)]; exact a5
  · rw [mP_o (by omega)]; exact a6
theorem NRM.lim (h : NRM W N) {k : Nat} (hk : k < 3) : NRM (sA W 5 (upd (W.2.1 5) k v)) (upd N (114 + k) v) := by
  obtain ⟨h0, h5, h7, a2, a3, a4, a5, a6⟩ := h
  refine ⟨?_, ?_, ?_, ?_, ?_, ?_, ?_, ?_⟩
  · rw [upd_o (by omega)]; exact h0
  · rw [upd_o (by omega)]; exact h5
  · rw [upd_o (by omega)]; exact h7
  · rw [nR_o (by omega)]; exact a2
  · rw [nG_o (by omega)]; exact a3
  · rw [nE_o (by omega)]; exact a4
  · rw [nL_i hk, ← a5]; rfl
  · rw [mP_o (by omega)]; exact a6
theorem NRM.fix (h : NRM W N) : NRM (sI W 1 5 v) (upd N 61 v) := by
  obtain ⟨h0, h5, h7, a2, a3, a4, a5, a6⟩ := h
  refine ⟨?_, ?_, ?_, ?_, ?_, ?_, ?_, ?_⟩
  · rw [upd_o (by omega)]; exact h0
  · rw [upd_s, sI_1]
  · rw [upd_o (by omega)]; exact h7
  · rw [nR_o (by omega)]; exact a2
  · rw [nG_o (by omega)]; exact a3
  · rw [nE_o (by omega)]; exact a4
  · rw [nL_o (by omega)]; exact a5
  · rw [mP_o (by omega)]; exact a6
theorem NRM.row (h : NRM W N) {R : Nat → Int32} {l : Nat} {G : Nat → UInt32} : NRM (sI (sA (sF W 51 G) 6 R) 1 7 (nI l)) (rwN N R l) := by
  obtain ⟨h0, h5, h7, a2, a3, a4, a5, a6⟩ := h
  refine ⟨?_, ?_, ?_, ?_, ?_, ?_, ?_, ?_⟩
  · rw [rwN_lt (by omega)]; exact h0
  · rw [rwN_lt (by omega)]; exact h5
  · rw [sI_1]; exact (if_pos rfl).symm
  · rw [rwN_R]; exact a2
  · rw [rwN_G]; exact a3
  · rw [rwN_E]; exact a4
  · rw [rwN_L]; exact a5
  · rw [rwN_P]; rfl
theorem NRM.row2 (h : NRM W N) {R : Nat → Int32} {l : Nat} {G : Nat → UInt32} (hl : N 120 = nI l) : NRM (sA (sF W 51 G) 6 R) (rwN N R l) := by
  obtain ⟨h0, h5, h7, a2, a3, a4, a5, a6⟩ := h
  refine ⟨?_, ?_, ?_, ?_, ?_, ?_, ?_, ?_⟩
  · rw [rwN_lt (by omega)]; exact h0
  · rw [rwN_lt (by omega)]; exact h5
  · rw [show rwN N R l 120 = nI l from if_pos rfl, ← hl]; exact h7
  · rw [rwN_R]; exact a2
  · rw [rwN_G]; exact a3
  · rw [rwN_E]; exact a4
  · rw [rwN_L]; exact a5
  · rw [rwN_P]; rfl
/-- the scene at 1 is what counts -/
theorem NRM.of {V : xZ} (h : NRM W N) (h1 : ∀ j, V.1 1 j = W.1 1 j) (h2 : ∀ a, a < 7 → V.2.1 a = W.2.1 a) : NRM V N := by
  obtain ⟨h0, h5, h7, a2, a3, a4, a5, a6⟩ := h
  exact ⟨by rw [h1]; exact h0, by rw [h1]; exact h5, by rw [h1]; exact h7, by rw [h2 2 (by omega)]; exact a2, by rw [h2 3 (by omega)]; exact a3, by rw [h2 4 (by omega)]; exact a4, by rw [h2 5 (by omega)]; exact a5, by rw [h2 6 (by omega)]; exact a6⟩
end Nrm
section Puts
variable {Z Y : xZ} {c l st len : Nat} {kp : Nat → Nat}
theorem LV.nrm (lv : LV st Z Y) (ns : NS Z c l st len kp) : NRM Y (Z.2.1 54) := ns.2.1.of (fun j => lv.1 1 j (by omega)) (fun a ha => lv.2.1 a (by omega))
theorem LV.mi (lv : LV st Z Y) (ns : NS Z c l st len kp) : MI (Y.2.1 54) c l := by rw [lv.2.1 54 (by omega)]; exact ns.mi
theorem LV.st3 (lv : LV st Z Y) (ns : NS Z c l st len kp) : Y.1 53 3 = nI st := by rw [lv.1 53 3 (by omega)]; exact ns.st3
/-- from what the one left to what both have -/
theorem SIM_w2 {X : xZ} {N2 Q : Nat → Int32} (ns : NS Z c l st len kp) (lv : LV st Z Y) {c' l' : Nat} (hC : ∀ kp', CI Y c l (nst st) len kp' → CI X c' l' (nst st) len kp') (fr : FR X Y) (hQ : RMB st (Y.2.1 54) (Y.2.1 56) Q) (hn : NRM X N2) (h6 : X.1 53 6 = Y.1 53 6) (h57 : X.2.1 57 = Y.2.1 57) (h44 : X.2.1 44 = Y.2.1 44) (h58 : X.2.1 58 = Y.2.1 58) (h46 : X.2.1 46 = Y.2.1 46) : SIM (sA (sI (sA X 56 Q) 53 3 (nI (nst st))) 54 N2) := by
  rw [lv.2.1 54 (by omega), lv.2.1 56 (by omega)] at hQ
  exact SIM_wr (c' := c') (l' := l') ns lv hC (((fr.a (by omega)).i (by omega)).a (by omega)) hQ hn (sI_1 (sA X 56 Q) 53 3 _) h6 h57 h44 h58 h46
end Puts
