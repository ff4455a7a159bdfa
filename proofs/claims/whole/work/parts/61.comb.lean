/-! Sets of so many colours: rows that rise, and their numbers -/
/-- a rising row of n numbers below c -/
def VR (n c : Nat) (p : Nat → Nat) : Prop := (∀ k, k < n → p k < c) ∧ ∀ a b, a < b → b < n → p a < p b
/-- its set as a number -/
def sN (p : Nat → Nat) : Nat → Nat
  | 0 => 0
  | n + 1 => 2 ^ p n + sN p n
theorem VR.less {n c : Nat} {p : Nat → Nat} (h : VR (n + 1) c p) : VR n (p n) p :=
  ⟨fun k hk => h.2 k n hk (by omega), fun a b h1 h2 => h.2 a b h1 (by omega)⟩
theorem VR.more {n c d : Nat} {p : Nat → Nat} (h : VR n c p) (hd : c ≤ d) : VR n d p :=
  ⟨fun k hk => Nat.lt_of_lt_of_le (h.1 k hk) hd, h.2⟩
theorem sN_lt {p : Nat → Nat} : ∀ n c, VR n c p → sN p n < 2 ^ c
  | 0, c, _ => Nat.two_pow_pos c
  | n + 1, c, h => by
    have h1 := sN_lt n (p n) h.less
    have h2 : 2 ^ (p n + 1) ≤ 2 ^ c := Nat.pow_le_pow_right (by decide) (h.1 n (by omega))
    rw [Nat.pow_succ] at h2
    show 2 ^ p n + sN p n < 2 ^ c
    omega
theorem sN_bit {p : Nat → Nat} : ∀ n c, VR n c p → ∀ j, (sN p n).testBit j = true ↔ ∃ k, k < n ∧ p k = j
  | 0, c, _, j => by
    show (0 : Nat).testBit j = true ↔ _
    rw [Nat.zero_testBit]
    exact ⟨fun h => (by cases h), fun ⟨k, hk, _⟩ => absurd hk (Nat.not_lt_zero k)⟩
  | n + 1, c, h, j => by
    have ih := sN_bit n (p n) h.less j
    have hl := sN_lt n (p n) h.less
    show (2 ^ p n + sN p n).testBit j = true ↔ _
    rcases Nat.lt_trichotomy j (p n) with q | q | q
    · rw [Nat.testBit_two_pow_add_gt q, ih]
      exact ⟨fun ⟨k, hk, e⟩ => ⟨k, by omega, e⟩, fun ⟨k, hk, e⟩ => ⟨k, by
        rcases Nat.lt_or_ge k n with r | r
        · exact r
        · have : k = n := by omega
          subst this; omega, e⟩⟩
    · subst q
      rw [Nat.testBit_two_pow_add_eq, Nat.testBit_lt_two_pow hl]
      exact ⟨fun _ => ⟨n, by omega, rfl⟩, fun _ => rfl⟩
    · have : (2 ^ p n + sN p n).testBit j = false := by
        apply Nat.testBit_lt_two_pow
        have h2 : 2 ^ (p n + 1) ≤ 2 ^ j := Nat.pow_le_pow_right (by decide) q
        rw [Nat.pow_succ] at h2
        omega
      rw [this]
      refine ⟨fun h => (by cases h), fun ⟨k, hk, e⟩ => ?_⟩
      rcases Nat.lt_or_ge k n with r | r
      · have := h.2 k n r (by omega); omega
      · have : k = n := by omega
        subst this; omega
theorem sN_congr {p q : Nat → Nat} : ∀ n, (∀ k, k < n → p k = q k) → sN p n = sN q n
  | 0, _ => rfl
  | n + 1, h => by
    show 2 ^ p n + sN p n = 2 ^ q n + sN q n
    rw [h n (by omega), sN_congr n (fun k hk => h k (by omega))]
/-- all of them, rising -/
def comb (n : Nat) (c : Nat) : List Nat := match n, c with
  | 0, _ => [0]
  | _ + 1, 0 => []
  | n + 1, c + 1 => comb (n + 1) c ++ (comb n c).map (fun x => 2 ^ c + x)
theorem comb_0 {c : Nat} : comb 0 c = [0] := by unfold comb; rfl
theorem comb_s {n c : Nat} : comb (n + 1) (c + 1) = comb (n + 1) c ++ (comb n c).map (fun x => 2 ^ c + x) := by rw [comb]
theorem comb_e {n : Nat} : comb (n + 1) 0 = [] := by unfold comb; rfl
theorem comb_of {p : Nat → Nat} : ∀ c n, VR n c p → sN p n ∈ comb n c
  | c, 0, _ => by rw [comb_0]; exact List.mem_singleton.mpr rfl
  | 0, n + 1, h => absurd (h.1 0 (by omega)) (by omega)
  | c + 1, n + 1, h => by
    rw [comb_s, List.mem_append]
    rcases Nat.lt_or_ge (p n) c with q | q
    · refine Or.inl (comb_of c (n + 1) ⟨fun k hk => ?_, h.2⟩)
      rcases Nat.lt_or_ge k n with r | r
      · have := h.2 k n r (by omega); omega
      · have : k = n := by omega
        subst this; exact q
    · have e : p n = c := by have := h.1 n (by omega); omega
      refine Or.inr (List.mem_map.mpr ⟨sN p n, comb_of c n (e ▸ h.less), ?_⟩)
      show 2 ^ c + sN p n = 2 ^ p n + sN p n
      rw [e]
theorem comb_to : ∀ c n x, x ∈ comb n c → ∃ p, VR n c p ∧ x = sN p n
  | c, 0, x, h => by
    rw [comb_0, List.mem_singleton] at h
    exact ⟨fun _ => 0, ⟨fun k hk => absurd hk (by omega), fun a b _ hb => absurd hb (by omega)⟩, h⟩
  | 0, n + 1, x, h => by rw [comb_e] at h; cases h
  | c + 1, n + 1, x, h => by
    rw [comb_s, List.mem_append] at h
    rcases h with h | h
    · obtain ⟨p, hp, e⟩ := comb_to c (n + 1) x h
      exact ⟨p, hp.more (by omega), e⟩
    · obtain ⟨y, hy, e⟩ := List.mem_map.mp h
      obtain ⟨p, hp, e2⟩ := comb_to c n y hy
      have a1 : ∀ k, k < n → (if k < n then p k else c) = p k := fun k hk => if_pos hk
      refine ⟨fun k => if k < n then p k else c, ⟨fun k hk => ?_, fun a b h1 h2 => ?_⟩, ?_⟩
      · show (if k < n then p k else c) < c + 1
        split
        · rename_i q; have := hp.1 k q; omega
        · omega
      · show (if a < n then p a else c) < (if b < n then p b else c)
        rw [a1 a (by omega)]
        split
        · rename_i q; exact hp.2 a b h1 q
        · exact hp.1 a (by omega)
      · show x = 2 ^ (if n < n then p n else c) + sN (fun k => if k < n then p k else c) n
        rw [if_neg (by omega), sN_congr n a1, ← e, e2]
/-- those below 2^c -/
theorem comb_iff {n c x : Nat} (hc : c ≤ 20) : (x ∈ comb n 20 ∧ x < 2 ^ c) ↔ ∃ p, VR n c p ∧ x = sN p n := by
  constructor
  · rintro ⟨h1, h2⟩
    obtain ⟨p, hp, e⟩ := comb_to 20 n x h1
    refine ⟨p, ⟨fun k hk => ?_, hp.2⟩, e⟩
    refine Nat.lt_of_not_le fun hl => ?_
    have hb := (sN_bit n 20 hp (p k)).mpr ⟨k, hk, rfl⟩
    rw [← e] at hb
    have h3 := Nat.ge_two_pow_of_testBit hb
    have h4 : 2 ^ c ≤ 2 ^ p k := Nat.pow_le_pow_right (by decide) hl
    omega
  · rintro ⟨p, hp, e⟩
    exact ⟨e ▸ comb_of 20 n (hp.more hc), e ▸ sN_lt n c hp⟩
/-- one comes behind the other, as the class has it -/
def chk : List Nat → Bool
  | [] => true
  | [a] => decide (nI 1048576 ≤ nxtF (nI a))
  | a :: b :: l => Nat.blt a b && (decide (nxtF (nI a) = nI b) && chk (b :: l))
theorem chk_1 : chk (comb 1 20) = true := by decide +kernel
theorem chk_2 : chk (comb 2 20) = true := by decide +kernel
theorem chk_3 : chk (comb 3 20) = true := by decide +kernel
set_option maxRecDepth 100000 in
theorem chk_4 : chk (comb 4 20) = true := by decide +kernel
theorem len_comb : (comb 1 20).length ≤ 4845 ∧ (comb 2 20).length ≤ 4845 ∧ (comb 3 20).length ≤ 4845 ∧ (comb 4 20).length ≤ 4845 := by decide +kernel
theorem head_comb : (comb 1 20).head? = some 1 ∧ (comb 2 20).head? = some 3 ∧ (comb 3 20).head? = some 7 ∧ (comb 4 20).head? = some 15 := by decide +kernel
theorem comb_ok {n : Nat} (h1 : 1 ≤ n) (h4 : n ≤ 4) : ∃ l, comb n 20 = (2 ^ n - 1) :: l ∧ chk ((2 ^ n - 1) :: l) = true ∧ l.length < 4845 := by
  have key : ∀ (L : List Nat) (v : Nat), L.head? = some v → chk L = true → L.length ≤ 4845 → ∃ l, L = v :: l ∧ chk (v :: l) = true ∧ l.length < 4845 := by
    intro L v e1 e2 e3
    cases L with
    | nil => cases e1
    | cons a l => cases e1; exact ⟨l, rfl, e2, by simpa [Nat.lt_iff_add_one_le] using e3⟩
  match n, h1, h4 with
  | 1, _, _ => exact key _ 1 head_comb.1 chk_1 len_comb.1
  | 2, _, _ => exact key _ 3 head_comb.2.1 chk_2 len_comb.2.1
  | 3, _, _ => exact key _ 7 head_comb.2.2.1 chk_3 len_comb.2.2.1
  | 4, _, _ => exact key _ 15 head_comb.2.2.2 chk_4 len_comb.2.2.2
theorem chk_gt : ∀ (l : List Nat) (a : Nat), chk (a :: l) = true → ∀ x ∈ l, a < x
  | [], a, _, x, hx => by cases hx
  | b :: l, a, h, x, hx => by
    rw [chk, Bool.and_eq_true, Bool.and_eq_true] at h
    have h1 : a < b := by have := h.1; simp [Nat.blt] at this; omega
    rcases List.mem_cons.mp hx with e | e
    · rw [e]; exact h1
    · exact Nat.lt_trans h1 (chk_gt l b h.2.2 x e)
/-- the best of some sets: its bits, or -1; its LEAST -/
def ARG (ap : Nat → Nat → UInt32) (al fx : Int32) (V : Nat → Prop) (b : Int32) (m : UInt32) : Prop :=
  (∀ s, V s → s < 2 ^ 20) ∧ ((b = -1 ∧ ∀ s, V s → maySet al fx (nI s) = false) ∨ ∃ s, V s ∧ maySet al fx (nI s) = true ∧ b = nI s ∧ m = ownF ap (nI s) ∧ ∀ t, V t → maySet al fx (nI t) = true → ownF ap (nI t) < m ∨ (ownF ap (nI t) = m ∧ s ≤ t))
section Arg
variable {ap : Nat → Nat → UInt32} {al fx : Int32} {V W : Nat → Prop} {b : Int32} {m : UInt32} {x : Nat}
theorem ARG.iff (h : ARG ap al fx V b m) (e : ∀ s, V s ↔ W s) : ARG ap al fx W b m := by
  have : V = W := funext fun s => propext (e s)
  exact this ▸ h
theorem ARG.one {b2 : Int32} {m2 : UInt32} (h : ARG ap al fx V b m) (h2 : ARG ap al fx V b2 m2) : b = b2 := by
  obtain ⟨-, h⟩ := h
  obtain ⟨-, h2⟩ := h2
  rcases h with ⟨e, h⟩ | ⟨s, v, ms, e, em, h⟩
  · rcases h2 with ⟨e2, h2⟩ | ⟨s2, v2, ms2, e2, em2, h2⟩
    · rw [e, e2]
    · rw [h s2 v2] at ms2; cases ms2
  · rcases h2 with ⟨e2, h2⟩ | ⟨s2, v2, ms2, e2, em2, h2⟩
    · rw [h2 s v] at ms; cases ms
    · have a1 := h s2 v2 ms2
      have a2 := h2 s v ms
      rw [← em2] at a1
      rw [← em] at a2
      have : s = s2 := by
        rcases a1 with a1 | ⟨a1, a3⟩
        · rcases a2 with a2 | ⟨a2, a4⟩
          · exact absurd (UInt32.lt_trans a1 a2) (UInt32.lt_irrefl _)
          · rw [a2] at a1; exact absurd a1 (UInt32.lt_irrefl _)
        · rcases a2 with a2 | ⟨a2, a4⟩
          · rw [a1] at a2; exact absurd a2 (UInt32.lt_irrefl _)
          · omega
      rw [e, e2, this]
theorem ARG.skip (h : ARG ap al fx V b m) (x20 : x < 2 ^ 20) (hx : maySet al fx (nI x) = false) : ARG ap al fx (fun s => V s ∨ s = x) b m := by
  obtain ⟨h0, h⟩ := h
  refine ⟨fun s hs => hs.elim (h0 s) (fun e => e ▸ x20), ?_⟩
  rcases h with ⟨e, h⟩ | ⟨s, v, ms, e, em, h⟩
  · exact Or.inl ⟨e, fun s hs => hs.elim (h s) (fun q => q ▸ hx)⟩
  · refine Or.inr ⟨s, Or.inl v, ms, e, em, fun t ht mt => ?_⟩
    rcases ht with ht | ht
    · exact h t ht mt
    · rw [ht, hx] at mt; cases mt
theorem ARG.new (h : ARG ap al fx V b m) (x20 : x < 2 ^ 20) (hx : maySet al fx (nI x) = true) (hb : b = -1 ∨ m < ownF ap (nI x) ∨ (ownF ap (nI x) = m ∧ ¬ b ≤ nI x)) : ARG ap al fx (fun s => V s ∨ s = x) (nI x) (ownF ap (nI x)) := by
  obtain ⟨h0, h⟩ := h
  refine ⟨fun s hs => hs.elim (h0 s) (fun e => e ▸ x20), Or.inr ⟨x, Or.inr rfl, hx, rfl, rfl, fun t ht mt => ?_⟩⟩
  rcases ht with ht | ht
  · rcases h with ⟨e, h⟩ | ⟨s, v, ms, e, em, h⟩
    · rw [h t ht] at mt; cases mt
    · have a := h t ht mt
      rcases hb with hb | hb | ⟨hb, hc⟩
      · exact absurd (e ▸ hb) (nI_ne_m1 (by have := h0 s v; omega))
      · rcases a with a | ⟨a, -⟩
        · exact Or.inl (UInt32.lt_trans a hb)
        · rw [a]; exact Or.inl hb
      · rw [hb]
        rcases a with a | ⟨a, a2⟩
        · exact Or.inl a
        · refine Or.inr ⟨a, ?_⟩
          rw [e, nI_leI (by have := h0 s v; omega) (by omega)] at hc
          omega
  · rw [ht]; exact Or.inr ⟨rfl, Nat.le_refl _⟩
theorem ARG.keep (h : ARG ap al fx V b m) (x20 : x < 2 ^ 20) (hx : maySet al fx (nI x) = true) (hb : ¬ b = -1) (h1 : ¬ m < ownF ap (nI x)) (h2 : ownF ap (nI x) = m → b ≤ nI x) : ARG ap al fx (fun s => V s ∨ s = x) b m := by
  obtain ⟨h0, h⟩ := h
  refine ⟨fun s hs => hs.elim (h0 s) (fun e => e ▸ x20), ?_⟩
  rcases h with ⟨e, h⟩ | ⟨s, v, ms, e, em, h⟩
  · exact absurd e hb
  · refine Or.inr ⟨s, Or.inl v, ms, e, em, fun t ht mt => ?_⟩
    rcases ht with ht | ht
    · exact h t ht mt
    · rw [ht]
      by_cases q : ownF ap (nI x) = m
      · refine Or.inr ⟨q, ?_⟩
        have := h2 q
        rw [e, nI_leI (by have := h0 s v; omega) (by omega)] at this
        exact this
      · refine Or.inl ?_
        rw [UInt32.lt_iff_toNat_lt] at h1 ⊢
        have : ¬ (ownF ap (nI x)).toNat = m.toNat := fun e => q (UInt32.toNat_inj.mp e)
        omega
theorem ARG.none : ARG ap al fx (fun _ => False) (-1) m := ⟨fun _ h => h.elim, Or.inl ⟨rfl, fun _ h => h.elim⟩⟩
end Arg
/-- the class: the sets from s on -/
theorem bs_list {ap : Nat → Nat → UInt32} {al fx : Int32} {c : Nat} (hc : c ≤ 20) : ∀ (l : List Nat) (s k : Nat) (fd : Int32) (g : UInt32) (V : Nat → Prop), chk (s :: l) = true → s < 2 ^ 20 → (∀ x ∈ l, x < 2 ^ 20) → l.length < k → (∀ x, V x → x < s) → ARG ap al fx V fd g → ∃ m, ARG ap al fx (fun x => V x ∨ (x ∈ s :: l ∧ x < 2 ^ c)) (bsF ap al fx (nI (2 ^ c)) k fd g (nI s)) m := by
  have pc : 2 ^ c ≤ 2 ^ 20 := Nat.pow_le_pow_right (by decide) hc
  intro l
  induction l with
  | nil =>
    intro s k fd g V ch s20 hl hk hV h
    by_cases q : 2 ^ c ≤ s
    · rw [bsF_e ((nI_leI (by omega) (by omega)).mpr q)]
      refine ⟨g, h.iff fun x => ⟨Or.inl, fun y => y.elim id (fun y => ?_)⟩⟩
      rw [List.mem_singleton] at y; omega
    · obtain ⟨k', rfl⟩ : ∃ k', k = k' + 1 := ⟨k - 1, by simp at hk; omega⟩
      have q' : ¬ nI (2 ^ c) ≤ nI s := fun r => q ((nI_leI (by omega) (by omega)).mp r)
      have hn : nI (2 ^ c) ≤ nxtF (nI s) := by
        have h1 : nI 1048576 ≤ nxtF (nI s) := of_decide_eq_true ch
        have h2 : nI (2 ^ c) ≤ nI 1048576 := (nI_leI (by omega) (by omega)).mpr (by omega)
        exact Int32.le_trans h2 h1
      have fin : ∀ x, (V x ∨ x = s) ↔ (V x ∨ (x ∈ [s] ∧ x < 2 ^ c)) := fun x => by
        rw [List.mem_singleton]
        exact ⟨fun y => y.elim Or.inl (fun e => Or.inr ⟨e, by omega⟩), fun y => y.elim Or.inl (fun e => Or.inr e.1)⟩
      by_cases r : maySet al fx (nI s) = true ∧ (fd = -1 ∨ g < ownF ap (nI s))
      · rw [bsF_t q' r.1 r.2, bsF_e hn]
        exact ⟨_, (h.new s20 r.1 (r.2.elim Or.inl (fun y => Or.inr (Or.inl y)))).iff fin⟩
      · rw [bsF_f q' r, bsF_e hn]
        refine ⟨g, ?_⟩
        cases hm : maySet al fx (nI s) with
        | false => exact (h.skip s20 hm).iff fin
        | true =>
          have r2 : ¬ (fd = -1 ∨ g < ownF ap (nI s)) := fun y => r ⟨hm, y⟩
          refine (h.keep s20 hm (fun y => r2 (Or.inl y)) (fun y => r2 (Or.inr y)) (fun _ => ?_)).iff fin
          rcases h.2 with ⟨e, -⟩ | ⟨s2, v, -, e, -⟩
          · exact absurd (Or.inl e) r2
          · rw [e, nI_leI (by have := hV s2 v; omega) (by omega)]; exact Nat.le_of_lt (hV s2 v)
  | cons a l ih =>
    intro s k fd g V ch s20 hl hk hV h
    have ch0 := ch
    rw [chk, Bool.and_eq_true, Bool.and_eq_true] at ch
    have hsa : s < a := by have := ch.1; simp [Nat.blt] at this; omega
    have hn : nxtF (nI s) = nI a := of_decide_eq_true ch.2.1
    by_cases q : 2 ^ c ≤ s
    · rw [bsF_e ((nI_leI (by omega) (by omega)).mpr q)]
      refine ⟨g, h.iff fun x => ⟨Or.inl, fun y => y.elim id (fun y => ?_)⟩⟩
      rcases List.mem_cons.mp y.1 with e | e
      · omega
      · have := chk_gt (a :: l) s ch0 x e; omega
    · obtain ⟨k', rfl⟩ : ∃ k', k = k' + 1 := ⟨k - 1, by simp at hk; omega⟩
      have q' : ¬ nI (2 ^ c) ≤ nI s := fun r => q ((nI_leI (by omega) (by omega)).mp r)
      have a20 : a < 2 ^ 20 := hl a List.mem_cons_self
      have fin : ∀ x, ((V x ∨ x = s) ∨ (x ∈ a :: l ∧ x < 2 ^ c)) ↔ (V x ∨ (x ∈ s :: a :: l ∧ x < 2 ^ c)) := fun x => by
        constructor
        · rintro ((y | y) | y)
          · exact Or.inl y
          · exact Or.inr ⟨y ▸ List.mem_cons_self, by omega⟩
          · exact Or.inr ⟨List.mem_cons_of_mem _ y.1, y.2⟩
        · rintro (y | y)
          · exact Or.inl (Or.inl y)
          · rcases List.mem_cons.mp y.1 with e | e
            · exact Or.inl (Or.inr e)
            · exact Or.inr ⟨e, y.2⟩
      have go : ∀ fd' g', ARG ap al fx (fun x => V x ∨ x = s) fd' g' → ∃ m, ARG ap al fx (fun x => V x ∨ (x ∈ s :: a :: l ∧ x < 2 ^ c)) (bsF ap al fx (nI (2 ^ c)) k' fd' g' (nI a)) m := by
        intro fd' g' h'
        obtain ⟨m, hm⟩ := ih a k' fd' g' _ ch.2.2 a20 (fun x hx => hl x (List.mem_cons_of_mem _ hx)) (by simp at hk; omega) (fun x hx => hx.elim (fun y => Nat.lt_trans (hV x y) hsa) (fun y => y ▸ hsa)) h'
        exact ⟨m, hm.iff fin⟩
      by_cases r : maySet al fx (nI s) = true ∧ (fd = -1 ∨ g < ownF ap (nI s))
      · rw [bsF_t q' r.1 r.2, hn]
        exact go _ _ (h.new s20 r.1 (r.2.elim Or.inl (fun y => Or.inr (Or.inl y))))
      · rw [bsF_f q' r, hn]
        refine go _ _ ?_
        cases hm : maySet al fx (nI s) with
        | false => exact h.skip s20 hm
        | true =>
          have r2 : ¬ (fd = -1 ∨ g < ownF ap (nI s)) := fun y => r ⟨hm, y⟩
          refine h.keep s20 hm (fun y => r2 (Or.inl y)) (fun y => r2 (Or.inr y)) (fun _ => ?_)
          rcases h.2 with ⟨e, -⟩ | ⟨s2, v, -, e, -⟩
          · exact absurd (Or.inl e) r2
          · rw [e, nI_leI (by have := hV s2 v; omega) (by omega)]; exact Nat.le_of_lt (hV s2 v)
/-- all sets of n of c COLOURS -/
def VA (n c : Nat) : Nat → Prop := fun x => ∃ p, VR n c p ∧ x = sN p n
/-- what the class finds -/
theorem bs_all {ap : Nat → Nat → UInt32} {al fx : Int32} {n c : Nat} (n1 : 1 ≤ n) (n4 : n ≤ 4) (hc : c ≤ 20) : ∃ m, ARG ap al fx (VA n c) (bsF ap al fx (nI (2 ^ c)) 4845 (-1) FP.fconst0 (nI (2 ^ n - 1))) m := by
  obtain ⟨l, e1, e2, e3⟩ := comb_ok n1 n4
  have lt20 : ∀ x ∈ comb n 20, x < 2 ^ 20 := fun x hx => by
    obtain ⟨p, hp, e⟩ := comb_to 20 n x hx
    rw [e]; exact sN_lt n 20 hp
  rw [e1] at lt20
  obtain ⟨m, hm⟩ := bs_list (ap := ap) (al := al) (fx := fx) hc l (2 ^ n - 1) 4845 (-1) FP.fconst0 (fun _ => False) e2 (lt20 _ List.mem_cons_self) (fun x hx => lt20 x (List.mem_cons_of_mem _ hx)) e3 (fun _ h => h.elim) ARG.none
  refine ⟨m, hm.iff fun x => ?_⟩
  rw [← e1]
  show (False ∨ _) ↔ VA n c x
  rw [comb_iff hc]
  exact ⟨fun y => y.elim False.elim id, Or.inr⟩
