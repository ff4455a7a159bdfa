/-! Both sides together: digest; what the orders are read as -/
theorem pr_digest {Z : xZ} {c l st len : Nat} {kp : Nat → Nat} (ns : NS Z c l st len kp) : XC mX3_digest 9 0 0 [.ref 0] (HP Z) (fun r h1 => ∃ x Y, r = some (.long x) ∧ h1 = HP Y ∧ XC mX4_digest 9 0 0 [.ref 53] (HP Y) (fun r2 h2 => r2 = some (.long x) ∧ ∃ W, SIM W ∧ h2 = HP W)) := by
  have hln : Z.1 45 1 = nI len := ns.ci.2.2.2.2.2.2.2.2.2.2.2.1
  have hst : Z.1 0 2 = nI st := ns.ci.2.2.2.2.2.2.2.2.1
  refine XW.post (t_digest ns.ci) (fun r h1 hq => ?_)
  obtain ⟨rfl, G, rfl⟩ := hq
  refine ⟨_, _, rfl, rfl, XW.post (XW.deep (d := 7) (by decide) (u_digest (Z := sF Z 51 G) (c := c) (l := l) ns.mi)) (fun r2 h2 hq => ?_)⟩
  obtain ⟨rfl, j, f8, G2, S, rfl⟩ := hq
  refine ⟨?_, _, ?_, rfl⟩
  · rw [ns.2.2.2, hln, hst, ns.i0, ns.i5, ns.i7, ns.a2, ns.a3, ns.a4, ns.a5, ns.a6, bc_ft ns.c20, ← ftM_cut c ns.c20]
    show some (Value.long (dgA (dgT (Z.2.1 57 0) (Z.2.1 57 1) (Z.2.1 57 2) _ _ _ (Z.1 53 6) (Z.1 53 3) _ _ _ _ _ _ _ _) _ _ _ _ _ _ _ _ _)) = _
    rw [ns.ln, ns.st3]
    rfl
  · exact SIM_junk ns.sim (fun a j h _ => sI_2 Z _ (by omega)) rfl rfl (fun a h => sA_2 Z _ (by omega)) rfl
theorem fig_n {c : Int32} (h : ¬ figF c = -1) : ∃ w, w < 16 ∧ figF c = nI w := by
  unfold figF at h ⊢
  split at h
  · rename_i e
    rw [if_pos e]
    obtain ⟨h1, h2⟩ := inF_iff.mp e
    obtain ⟨j, j1, j2⟩ := nI_of2 (M := 57) (n := 57) (by decide) (Int32.not_lt.mpr (Int32.le_trans (by decide) h1)) h2
    rw [j2, show (48 : Int32) = nI 48 from rfl, nI_leI (by omega) (by omega)] at h1
    exact ⟨j - 48, by omega, ns j2 rfl h1⟩
  · rename_i e
    rw [if_neg e]
    split at h
    · rename_i e2
      rw [if_pos e2]
      obtain ⟨h1, h2⟩ := inF_iff.mp e2
      obtain ⟨j, j1, j2⟩ := nI_of2 (M := 102) (n := 102) (by decide) (Int32.not_lt.mpr (Int32.le_trans (by decide) h1)) h2
      rw [j2, show (97 : Int32) = nI 97 from rfl, nI_leI (by omega) (by omega)] at h1
      exact ⟨j - 97 + 10, by omega, na (ns j2 rfl h1) rfl⟩
    · exact absurd rfl h
theorem sxA_six {b : Nat → Int32} {len : Nat} : ∀ (m k w : Nat) (v : Int32), v = nI w → (sxA b len m k v).1 = true → ∃ w', w' < (w + 1) * 16 ^ m ∧ (sxA b len m k v).2.2 = nI w'
  | 0, k, w, v, hv, _ => ⟨w, by omega, hv⟩
  | m + 1, k, w, v, hv, h => by
    by_cases e : figF (bh b len k) = -1
    · rw [sxA_f e] at h; cases h
    · rw [sxA_t e] at h ⊢
      obtain ⟨f, f1, f2⟩ := fig_n e
      obtain ⟨w', h1, h2⟩ := sxA_six m (k + 1) (16 * w + f) (16 * v + figF (bh b len k)) (na (nm rfl hv) f2) h
      refine ⟨w', ?_, h2⟩
      have h3 : (16 * w + f + 1) * 16 ^ m ≤ (16 * (w + 1)) * 16 ^ m := Nat.mul_le_mul_right _ (by omega)
      have h4 : 16 * (w + 1) * 16 ^ m = (w + 1) * 16 ^ (m + 1) := by rw [Nat.pow_succ, Nat.mul_comm 16 (w + 1), Nat.mul_assoc, Nat.mul_comm 16 (16 ^ m)]
      omega
theorem sxF_six {b : Nat → Int32} {len k : Nat} (h : (sxF b len k).1 = true) : six (sxF b len k).2.2 := by
  obtain ⟨w, h1, h2⟩ := sxA_six (b := b) (len := len) 6 (skF b len k) 0 0 rfl h
  exact ⟨w, by have e : (0 + 1) * 16 ^ 6 = 2 ^ 24 := by decide
               omega, h2⟩
theorem oC_six {b : Nat → Int32} {len q k : Nat} {f1 f2 : Nat → Int32} (h : (oC b len q k f1 f2).1 = true) (e : bh b len k = 99) : six ((oC b len q k f1 f2).2.2.1 q) := by
  unfold oC at h ⊢
  rw [if_pos e] at h ⊢
  split at h
  · rename_i g
    rw [if_pos g]
    show six (upd f1 q (sxF b len (k + 1)).2.2 q)
    rw [upd_s]; exact sxF_six g
  · cases h
theorem rdC_six {b : Nat → Int32} {len : Nat} : ∀ m q k kn f1 f2, (∀ j, j < q → kn j = 99 → six (f1 j)) → ∀ j, j < (rdC b len m q k kn f1 f2).2.1 → (rdC b len m q k kn f1 f2).2.2.2.1 j = 99 → six ((rdC b len m q k kn f1 f2).2.2.2.2.1 j)
  | 0, q, k, kn, f1, f2, h => h
  | m + 1, q, k, kn, f1, f2, h => by
    by_cases g : k < len
    · cases hb : (oC b len q k f1 f2).1 with
      | true =>
        rw [rdC_t g hb]
        refine rdC_six m _ _ _ _ _ (fun j hj hk => ?_)
        by_cases e : j = q
        · subst e; rw [upd_s] at hk; exact oC_six hb hk
        · rw [upd_o e] at hk
          rw [(oC_keep e).1]
          exact h j (by omega) hk
      | false =>
        rw [rdC_f g hb]
        intro j hj hk
        have hj : j < q := hj
        have hk : upd kn q (bh b len k) j = 99 := hk
        have e : j ≠ q := by omega
        rw [upd_o e] at hk
        show six ((oC b len q k f1 f2).2.2.1 j)
        rw [(oC_keep e).1]
        exact h j hj hk
    · rw [rdC_e g]; exact h
theorem rdAll_six {b : Nat → Int32} {len : Nat} {kn f1 f2 : Nat → Int32} : ∀ j, j < (rdAll b len kn f1 f2).2.1 → (rdAll b len kn f1 f2).2.2.2.1 j = 99 → six ((rdAll b len kn f1 f2).2.2.2.2.1 j) := by
  unfold rdAll
  split
  · intro j hj; exact absurd hj (Nat.not_lt_zero j)
  · exact rdC_six _ _ _ _ _ _ (fun j hj => absurd hj (Nat.not_lt_zero j))
section Ord
variable {W V : xZ} {N : Nat → Int32} {c l : Nat} {kd a b : Int32}
/-- an order that the one may do, the other may -/
theorem wo_ok (nr : NRM W N) (mi : MI N c l) : woF kd a b (W.1 1 0) (W.1 1 5) = 0 ↔ okN kd a b N = true := by
  have c20 := mi.2.1
  have hb : bcF (N 61) = biF (N 61) 20 := bc_bi c20 mi.2.2.2.2.2.2.2
  rw [nr.1, nr.2.1]
  unfold woF okN
  by_cases k1 : kd = 99
  · rw [if_pos k1, if_pos k1, mi.c, mi.1]
    rcases Nat.lt_or_ge c 20 with q | q
    · rw [wcF_o (rgbO a) (nI_lt20 q)]; simp [q]
    · rw [show c = 20 by omega, wcF_f (rgbO a) nI_nlt20]; decide
  rw [if_neg k1, if_neg k1]
  by_cases k2 : kd = 102
  · rw [if_pos k2, if_pos k2]
    unfold wxF
    cases h1 : isC a (N 0) <;> cases h2 : inF b 0 1 <;> simp
  rw [if_neg k2, if_neg k2]
  by_cases k3 : kd = 108
  · rw [if_pos k3, if_pos k3]
    unfold wlF
    rw [show inF 0 0 2 = true from rfl, show inF 1 0 2 = true from rfl]
    cases h1 : inF a 0 255 <;> cases h2 : inF b 0 255 <;> simp
  rw [if_neg k3, if_neg k3]
  by_cases k4 : kd = 112
  · rw [if_pos k4, if_pos k4]
    unfold wfF
    rw [hb]
    cases h1 : inF a 1 8
    · simp
    · by_cases h2 : biF (N 61) 20 ≤ a
      · simp [h2]
      · simp [h2]
  rw [if_neg k4, if_neg k4]
  simp
theorem ob_nx (nr : NRM W N) (mi : MI N c l) (h6 : kd = 99 → six a) (ok : okN kd a b N = true) (ob : OBr kd a b W V) : NRM V (nxN kd a b N) := by
  have c20 := mi.2.1
  have l8 := mi.2.2.2.1
  unfold okN at ok
  unfold nxN
  rcases ob with ⟨k1, c', hc, c19, rfl⟩ | ⟨k1, rfl⟩ | ⟨k1, rfl⟩ | ⟨k1, c', n, G, hc, c20', ha, n8, rfl⟩ | ⟨k1, k2, k3, k4, c', l', G, hc, c20', hl, l8', rfl⟩
  · have e : c' = c := (nI_eq (by omega) (by omega)).mp (by rw [← hc, nr.1, mi.1])
    subst e
    rw [if_pos k1, mi.c]
    obtain ⟨w, w1, w2⟩ := h6 k1
    rw [w2, rO_eq w1, ← w2]
    exact nr.add c19
  · rw [k1] at ok ⊢
    rw [if_neg (by decide), if_pos rfl] at ok ⊢
    obtain ⟨o1, o2⟩ := and_f ok
    obtain ⟨i, ic, hx⟩ := isC_n (c := c) (by omega) (by rw [← mi.1]; exact o1)
    obtain ⟨q, q1, hy⟩ := in_n (n := 1) (by decide) o2
    rw [← fx_eq hx (by omega) hy q1, nr.2.1]
    exact nr.fix
  · rw [k1, if_neg (by decide), if_neg (by decide), if_pos rfl]
    exact (nr.lim (k := 0) (v := a) (by omega)).lim (k := 1) (v := b) (by omega)
  · have e : c' = c := (nI_eq (by omega) (by omega)).mp (by rw [← hc, nr.1, mi.1])
    subst e
    rw [k1, if_neg (by decide), if_neg (by decide), if_neg (by decide), if_pos rfl]
    have en : a.toNatClampNeg = n := by rw [ha, nI_clamp (by omega)]
    rw [en]
    unfold flN apN fbN
    rw [mi.c]
    obtain ⟨n0, n5, n7, a2, a3, a4, a5, a6⟩ := id nr
    rw [a2, a3, a4, a5, a6, n5]
    exact nr.row
  · have e : c' = c := (nI_eq (by omega) (by omega)).mp (by rw [← hc, nr.1, mi.1])
    have e2 : l' = l := (nI_eq (by omega) (by omega)).mp (by rw [← hl, nr.2.2.1, mi.2.2.1])
    subst e
    subst e2
    rw [if_neg k1, if_neg k2, if_neg k3, if_neg k4]
    unfold swN apN fbN
    rw [mi.c, mi.l]
    obtain ⟨n0, n5, n7, a2, a3, a4, a5, a6⟩ := id nr
    rw [a2, a3, a4, a5, a6, n5]
    exact nr.row2 mi.2.2.1
end Ord
