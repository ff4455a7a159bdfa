/-! The two digests -/
def dg (h : Int64) (v : Int32) : Int64 := 31 * h + v.toInt64
def dgC (rgb gr lm row : Nat → Int32) (fx : Int32) (l : Nat) (i : Nat) (h : Int64) : Int64 := dg (dg (dg (dg (dg (dg (dg h (rgb (3 * i))) (rgb (3 * i + 1))) (rgb (3 * i + 2))) (b2i (bitB fx (nI i)))) (b2i (fitC rgb gr lm i))) (plF row (nI i) l 0)) (lightC rgb (3 * i)).toInt32
def dgA (D : Int64) (ap : Nat → Nat → UInt32) (rgb gr ey lm row : Nat → Int32) (fx : Int32) (c l : Nat) : Int64 := dg (dg (itF (fun k h => dg h (row k)) (itF (fun k h => dg h (ey k)) (itF (dgC rgb gr lm row fx l) D c) 52) l) (lsV ap (rv row) l).toInt32) (npO ap (rv row) l l).1
def dgT (t0 t1 t2 t3 t4 t5 t6 t7 c0 c1 c2 c3 c4 c5 c6 c7 : Int32) : Int64 := dg (dg (dg (dg (dg (dg (dg (dg (dg (dg (dg (dg (dg (dg (dg (dg 2619 t0) t1) t2) t3) t4) t5) t6) t7) c0) c1) c2) c3) c4) c5) c6) c7
theorem isC_i {i c : Nat} {x : Int32} (h : i < c) (hc : x = nI c) (c20 : c ≤ 20) : isC (nI i) x = true := by
  subst hc
  unfold isC
  rw [decide_eq_false (by rw [show (0 : Int32) = nI 0 from rfl, nI_ltI (by omega) (by omega)]; omega), decide_eq_false (by rw [nI_leI (by omega) (by omega)]; omega)]; rfl
set_option maxHeartbeats 400000 in
set_option maxRecDepth 100000 in
theorem l_dig_194 {Z : xZ} {c l st len : Nat} {kp : Nat → Nat} (ci : CI Z c l st len kp) {D : Int64} : XW mX3_digest 9 0 0 194 [some (.ref 0), some (.long (itF (fun k h => dg h (Z.2.1 6 k)) (itF (fun k h => dg h (Z.2.1 4 k)) (itF (dgC (Z.2.1 2) (Z.2.1 3) (Z.2.1 5) (Z.2.1 6) (Z.1 1 5) l) D c) 52) l)), none, some (.int (nI l)), none] [] (HP Z) (fun r h' => r = some (.long (dgA D (apG (Z.2.1 4) (Z.2.1 2)) (Z.2.1 2) (Z.2.1 3) (Z.2.1 4) (Z.2.1 5) (Z.2.1 6) (Z.1 1 5) c l)) ∧ ∃ G, h' = HP (sF Z 51 G)) := by
  obtain ⟨hc, c20, hl, l8, ok, hf, hdi, hfb, hst, st5, hk, hlen, l120⟩ := id ci
  refine XW.ldc2 197 k3_227 dX3_digest_194 rfl ?_
  refine XW.lload_n 198 dX3_digest_197 rfl rfl ?_
  refine XW.lmul 199 dX3_digest_198 rfl ?_
  refine XW.aload_n 200 dX3_digest_199 rfl rfl ?_
  refine XW.callV 203 (vs := []) (rest := [.long (31 * (itF (fun k h => dg h (Z.2.1 6 k)) (itF (fun k h => dg h (Z.2.1 4 k)) (itF (dgC (Z.2.1 2) (Z.2.1 3) (Z.2.1 5) (Z.2.1 6) (Z.1 1 5) l) D c) 52) l))]) (mcr := 0) (msr := 0) c3_241 dX3_digest_200 rfl rfl (by decide) (Nat.le_of_ble_eq_true rfl) rfl rfl (Nat.le_of_ble_eq_true rfl) rfl (t_least ci) (fun r h1 hq => ?_)
  obtain ⟨rfl, G, rfl⟩ := hq
  refine XW.eqs (st' := [.int ((lsV (apG (Z.2.1 4) (Z.2.1 2)) (rv (Z.2.1 6)) l).toInt32), .long (31 * (itF (fun k h => dg h (Z.2.1 6 k)) (itF (fun k h => dg h (Z.2.1 4 k)) (itF (dgC (Z.2.1 2) (Z.2.1 3) (Z.2.1 5) (Z.2.1 6) (Z.1 1 5) l) D c) 52) l))]) rfl rfl rfl ?_
  refine XW.i2l 204 dX3_digest_203 rfl ?_
  refine XW.ladd 205 dX3_digest_204 rfl ?_
  refine XW.lstore_n 206 (L' := [some (.ref 0), some (.long ((31 * (itF (fun k h => dg h (Z.2.1 6 k)) (itF (fun k h => dg h (Z.2.1 4 k)) (itF (dgC (Z.2.1 2) (Z.2.1 3) (Z.2.1 5) (Z.2.1 6) (Z.1 1 5) l) D c) 52) l)) + (((lsV (apG (Z.2.1 4) (Z.2.1 2)) (rv (Z.2.1 6)) l).toInt32).toInt64))), none, some (.int (nI l)), none]) dX3_digest_205 (by decide) rfl rfl rfl ?_
  refine XW.ldc2 209 k3_227 dX3_digest_206 rfl ?_
  refine XW.lload_n 210 dX3_digest_209 rfl rfl ?_
  refine XW.lmul 211 dX3_digest_210 rfl ?_
  refine XW.aload_n 212 dX3_digest_211 rfl rfl ?_
  refine XW.callV 215 (vs := []) (rest := [.long (31 * ((31 * (itF (fun k h => dg h (Z.2.1 6 k)) (itF (fun k h => dg h (Z.2.1 4 k)) (itF (dgC (Z.2.1 2) (Z.2.1 3) (Z.2.1 5) (Z.2.1 6) (Z.1 1 5) l) D c) 52) l)) + (((lsV (apG (Z.2.1 4) (Z.2.1 2)) (rv (Z.2.1 6)) l).toInt32).toInt64)))]) (mcr := 0) (msr := 0) c3_244 dX3_digest_212 rfl rfl (by decide) (Nat.le_of_ble_eq_true rfl) rfl rfl (Nat.le_of_ble_eq_true rfl) rfl (t_nearest (Z := sF Z 51 G) (CI_gaps ci)) (fun r h1 hq => ?_)
  obtain ⟨rfl, G2, rfl⟩ := hq
  refine XW.eqs (st' := [.int ((npO (apG (Z.2.1 4) (Z.2.1 2)) (rv (Z.2.1 6)) l l).1), .long (31 * ((31 * (itF (fun k h => dg h (Z.2.1 6 k)) (itF (fun k h => dg h (Z.2.1 4 k)) (itF (dgC (Z.2.1 2) (Z.2.1 3) (Z.2.1 5) (Z.2.1 6) (Z.1 1 5) l) D c) 52) l)) + (((lsV (apG (Z.2.1 4) (Z.2.1 2)) (rv (Z.2.1 6)) l).toInt32).toInt64)))]) rfl rfl rfl ?_
  refine XW.i2l 216 dX3_digest_215 rfl ?_
  refine XW.ladd 217 dX3_digest_216 rfl ?_
  exact XW.lret dX3_digest_217 trivial (⟨rfl, G2, rfl⟩)
set_option maxHeartbeats 400000 in
set_option maxRecDepth 100000 in
theorem l_dig_160 {Z : xZ} {c l st len : Nat} {kp : Nat → Nat} (ci : CI Z c l st len kp) {D : Int64} : ∀ (n : Nat) (k : Nat), k ≤ l → l < k + n → XW mX3_digest 9 0 0 160 [some (.ref 0), some (.long (itF (fun k h => dg h (Z.2.1 6 k)) (itF (fun k h => dg h (Z.2.1 4 k)) (itF (dgC (Z.2.1 2) (Z.2.1 3) (Z.2.1 5) (Z.2.1 6) (Z.1 1 5) l) D c) 52) k)), none, some (.int (nI k)), none] [] (HP Z) (fun r h' => r = some (.long (dgA D (apG (Z.2.1 4) (Z.2.1 2)) (Z.2.1 2) (Z.2.1 3) (Z.2.1 4) (Z.2.1 5) (Z.2.1 6) (Z.1 1 5) c l)) ∧ ∃ G, h' = HP (sF Z 51 G)) := by
  intro n
  induction n with
  | zero => intro k g0 g1; omega
  | succ n ih =>
    intro k g0 g1
    obtain ⟨hc, c20, hl, l8, ok, hf, hdi, hfb, hst, st5, hk, hlen, l120⟩ := id ci
    refine XW.iload_n 161 dX3_digest_160 rfl rfl ?_
    refine XW.aload_n 162 dX3_digest_161 rfl rfl ?_
    refine XW.getf 165 (v := .ref 1) f3_10 dX3_digest_162 rfl rfl rfl ?_
    refine XW.getf 168 (v := .int (Z.1 1 7)) f3_139 dX3_digest_165 rfl rfl rfl ?_
    refine XW.icmp_geN 194 171 k l dX3_digest_168 (by decide) rfl rfl hl (by omega) (by omega) (fun c_168 => ?_) (fun c_168 => ?_)
    · refine XW.eqs (L' := [some (.ref 0), some (.long (itF (fun k h => dg h (Z.2.1 6 k)) (itF (fun k h => dg h (Z.2.1 4 k)) (itF (dgC (Z.2.1 2) (Z.2.1 3) (Z.2.1 5) (Z.2.1 6) (Z.1 1 5) l) D c) 52) l)), none, some (.int (nI l)), none]) (by rw [show k = l by omega]) rfl rfl ?_
      exact l_dig_194 ci
    · refine XW.ldc2 174 k3_227 dX3_digest_171 rfl ?_
      refine XW.lload_n 175 dX3_digest_174 rfl rfl ?_
      refine XW.lmul 176 dX3_digest_175 rfl ?_
      refine XW.aload_n 177 dX3_digest_176 rfl rfl ?_
      refine XW.getf 180 (v := .ref 1) f3_10 dX3_digest_177 rfl rfl rfl ?_
      refine XW.getf 183 (v := .ref 6) f3_146 dX3_digest_180 rfl rfl rfl ?_
      refine XW.iload_n 184 dX3_digest_183 rfl rfl ?_
      refine XW.iald 185 k dX3_digest_184 rfl rfl (by omega) (by decide) rfl ?_
      refine XW.i2l 186 dX3_digest_185 rfl ?_
      refine XW.ladd 187 dX3_digest_186 rfl ?_
      refine XW.lstore_n 188 (L' := [some (.ref 0), some (.long ((31 * (itF (fun k h => dg h (Z.2.1 6 k)) (itF (fun k h => dg h (Z.2.1 4 k)) (itF (dgC (Z.2.1 2) (Z.2.1 3) (Z.2.1 5) (Z.2.1 6) (Z.1 1 5) l) D c) 52) k)) + ((Z.2.1 6 k).toInt64))), none, some (.int (nI k)), none]) dX3_digest_187 (by decide) rfl rfl rfl ?_
      refine XW.iinc 191 (y := nI (k + 1)) (L' := [some (.ref 0), some (.long ((31 * (itF (fun k h => dg h (Z.2.1 6 k)) (itF (fun k h => dg h (Z.2.1 4 k)) (itF (dgC (Z.2.1 2) (Z.2.1 3) (Z.2.1 5) (Z.2.1 6) (Z.1 1 5) l) D c) 52) k)) + ((Z.2.1 6 k).toInt64))), none, some (.int (nI (k + 1))), none]) dX3_digest_188 rfl (na rfl rfl) (by decide) rfl rfl rfl ?_
      refine XW.goto 160 dX3_digest_191 (by decide) ?_
      refine XW.eqs (L' := [some (.ref 0), some (.long (itF (fun k h => dg h (Z.2.1 6 k)) (itF (fun k h => dg h (Z.2.1 4 k)) (itF (dgC (Z.2.1 2) (Z.2.1 3) (Z.2.1 5) (Z.2.1 6) (Z.1 1 5) l) D c) 52) (k + 1))), none, some (.int (nI (k + 1))), none]) (by rfl) rfl rfl ?_
      exact ih (k + 1) (by omega) (by omega)
set_option maxHeartbeats 400000 in
set_option maxRecDepth 100000 in
theorem l_dig_123 {Z : xZ} {c l st len : Nat} {kp : Nat → Nat} (ci : CI Z c l st len kp) {D : Int64} : ∀ (n : Nat) (k : Nat), k ≤ 52 → 52 < k + n → XW mX3_digest 9 0 0 123 [some (.ref 0), some (.long (itF (fun k h => dg h (Z.2.1 4 k)) (itF (dgC (Z.2.1 2) (Z.2.1 3) (Z.2.1 5) (Z.2.1 6) (Z.1 1 5) l) D c) k)), none, some (.int (nI k)), none] [] (HP Z) (fun r h' => r = some (.long (dgA D (apG (Z.2.1 4) (Z.2.1 2)) (Z.2.1 2) (Z.2.1 3) (Z.2.1 4) (Z.2.1 5) (Z.2.1 6) (Z.1 1 5) c l)) ∧ ∃ G, h' = HP (sF Z 51 G)) := by
  intro n
  induction n with
  | zero => intro k g0 g1; omega
  | succ n ih =>
    intro k g0 g1
    obtain ⟨hc, c20, hl, l8, ok, hf, hdi, hfb, hst, st5, hk, hlen, l120⟩ := id ci
    refine XW.iload_n 124 dX3_digest_123 rfl rfl ?_
    refine XW.aload_n 125 dX3_digest_124 rfl rfl ?_
    refine XW.getf 128 (v := .ref 1) f3_10 dX3_digest_125 rfl rfl rfl ?_
    refine XW.getf 131 (v := .ref 4) f3_81 dX3_digest_128 rfl rfl rfl ?_
    refine XW.alen 132 (v := 52) dX3_digest_131 rfl rfl rfl ?_
    refine XW.icmp_geN 158 135 k 52 dX3_digest_132 (by decide) rfl rfl rfl (by omega) (by omega) (fun c_132 => ?_) (fun c_132 => ?_)
    · refine XW.iconst 159 dX3_digest_158 (v := 0) (by decide) rfl ?_
      refine XW.istore_n 160 (L' := [some (.ref 0), some (.long (itF (fun k h => dg h (Z.2.1 4 k)) (itF (dgC (Z.2.1 2) (Z.2.1 3) (Z.2.1 5) (Z.2.1 6) (Z.1 1 5) l) D c) k)), none, some (.int 0), none]) dX3_digest_159 (by decide) rfl rfl rfl ?_
      refine XW.eqs (L' := [some (.ref 0), some (.long (itF (fun k h => dg h (Z.2.1 6 k)) (itF (fun k h => dg h (Z.2.1 4 k)) (itF (dgC (Z.2.1 2) (Z.2.1 3) (Z.2.1 5) (Z.2.1 6) (Z.1 1 5) l) D c) 52) 0)), none, some (.int (nI 0)), none]) (by rw [show k = 52 by omega]; rfl) rfl rfl ?_
      exact l_dig_160 ci (l + 1) 0 (by omega) (by omega)
    · refine XW.ldc2 138 k3_227 dX3_digest_135 rfl ?_
      refine XW.lload_n 139 dX3_digest_138 rfl rfl ?_
      refine XW.lmul 140 dX3_digest_139 rfl ?_
      refine XW.aload_n 141 dX3_digest_140 rfl rfl ?_
      refine XW.getf 144 (v := .ref 1) f3_10 dX3_digest_141 rfl rfl rfl ?_
      refine XW.getf 147 (v := .ref 4) f3_81 dX3_digest_144 rfl rfl rfl ?_
      refine XW.iload_n 148 dX3_digest_147 rfl rfl ?_
      refine XW.iald 149 k dX3_digest_148 rfl rfl (by omega) (by decide) rfl ?_
      refine XW.i2l 150 dX3_digest_149 rfl ?_
      refine XW.ladd 151 dX3_digest_150 rfl ?_
      refine XW.lstore_n 152 (L' := [some (.ref 0), some (.long ((31 * (itF (fun k h => dg h (Z.2.1 4 k)) (itF (dgC (Z.2.1 2) (Z.2.1 3) (Z.2.1 5) (Z.2.1 6) (Z.1 1 5) l) D c) k)) + ((Z.2.1 4 k).toInt64))), none, some (.int (nI k)), none]) dX3_digest_151 (by decide) rfl rfl rfl ?_
      refine XW.iinc 155 (y := nI (k + 1)) (L' := [some (.ref 0), some (.long ((31 * (itF (fun k h => dg h (Z.2.1 4 k)) (itF (dgC (Z.2.1 2) (Z.2.1 3) (Z.2.1 5) (Z.2.1 6) (Z.1 1 5) l) D c) k)) + ((Z.2.1 4 k).toInt64))), none, some (.int (nI (k + 1))), none]) dX3_digest_152 rfl (na rfl rfl) (by decide) rfl rfl rfl ?_
      refine XW.goto 123 dX3_digest_155 (by decide) ?_
      refine XW.eqs (L' := [some (.ref 0), some (.long (itF (fun k h => dg h (Z.2.1 4 k)) (itF (dgC (Z.2.1 2) (Z.2.1 3) (Z.2.1 5) (Z.2.1 6) (Z.1 1 5) l) D c) (k + 1))), none, some (.int (nI (k + 1))), none]) (by rfl) rfl rfl ?_
      exact ih (k + 1) (by omega) (by omega)
set_option maxHeartbeats 400000 in
set_option maxRecDepth 100000 in
theorem l_dig_60 {Z : xZ} {c l st len : Nat} {kp : Nat → Nat} (ci : CI Z c l st len kp) {D : Int64} : ∀ (n : Nat) (i : Nat), i ≤ c → c < i + n → XW mX3_digest 9 0 0 60 [some (.ref 0), some (.long (itF (dgC (Z.2.1 2) (Z.2.1 3) (Z.2.1 5) (Z.2.1 6) (Z.1 1 5) l) D i)), none, some (.int (nI i)), none] [] (HP Z) (fun r h' => r = some (.long (dgA D (apG (Z.2.1 4) (Z.2.1 2)) (Z.2.1 2) (Z.2.1 3) (Z.2.1 4) (Z.2.1 5) (Z.2.1 6) (Z.1 1 5) c l)) ∧ ∃ G, h' = HP (sF Z 51 G)) := by
  intro n
  induction n with
  | zero => intro i g0 g1; omega
  | succ n ih =>
    intro i g0 g1
    obtain ⟨hc, c20, hl, l8, ok, hf, hdi, hfb, hst, st5, hk, hlen, l120⟩ := id ci
    refine XW.iload_n 61 dX3_digest_60 rfl rfl ?_
    refine XW.aload_n 62 dX3_digest_61 rfl rfl ?_
    refine XW.getf 65 (v := .ref 1) f3_10 dX3_digest_62 rfl rfl rfl ?_
    refine XW.getf 68 (v := .int (Z.1 1 0)) f3_167 dX3_digest_65 rfl rfl rfl ?_
    refine XW.icmp_geN 121 71 i c dX3_digest_68 (by decide) rfl rfl hc (by omega) (by omega) (fun c_68 => ?_) (fun c_68 => ?_)
    · refine XW.iconst 122 dX3_digest_121 (v := 0) (by decide) rfl ?_
      refine XW.istore_n 123 (L' := [some (.ref 0), some (.long (itF (dgC (Z.2.1 2) (Z.2.1 3) (Z.2.1 5) (Z.2.1 6) (Z.1 1 5) l) D i)), none, some (.int 0), none]) dX3_digest_122 (by decide) rfl rfl rfl ?_
      refine XW.eqs (L' := [some (.ref 0), some (.long (itF (fun k h => dg h (Z.2.1 4 k)) (itF (dgC (Z.2.1 2) (Z.2.1 3) (Z.2.1 5) (Z.2.1 6) (Z.1 1 5) l) D c) 0)), none, some (.int (nI 0)), none]) (by rw [show i = c by omega]; rfl) rfl rfl ?_
      exact l_dig_123 ci 53 0 (by omega) (by omega)
    · refine XW.iconst 72 dX3_digest_71 (v := 0) (by decide) rfl ?_
      refine XW.istore 74 (L' := [some (.ref 0), some (.long (itF (dgC (Z.2.1 2) (Z.2.1 3) (Z.2.1 5) (Z.2.1 6) (Z.1 1 5) l) D i)), none, some (.int (nI i)), some (.int 0)]) dX3_digest_72 (by decide) rfl rfl rfl ?_
      refine XW.iload 76 dX3_digest_74 rfl rfl ?_
      refine XW.bipush 78 dX3_digest_76 (v := 6) (by decide) rfl ?_
      refine XW.icmp_geN 102 81 0 6 dX3_digest_78 (by decide) rfl rfl rfl (by omega) (by omega) (fun c_78 => ?_) (fun c_78 => ?_)
      · exact absurd c_78 (by decide)
      · refine XW.ldc2 84 k3_227 dX3_digest_81 rfl ?_
        refine XW.lload_n 85 dX3_digest_84 rfl rfl ?_
        refine XW.lmul 86 dX3_digest_85 rfl ?_
        refine XW.aload_n 87 dX3_digest_86 rfl rfl ?_
        refine XW.iload_n 88 dX3_digest_87 rfl rfl ?_
        refine XW.iload 90 dX3_digest_88 rfl rfl ?_
        refine XW.callV 93 (vs := [.int (nI i), .int 0]) (rest := [.long (31 * (itF (dgC (Z.2.1 2) (Z.2.1 3) (Z.2.1 5) (Z.2.1 6) (Z.1 1 5) l) D i))]) (mcr := 0) (msr := 0) c3_235 dX3_digest_90 rfl rfl (by decide) (Nat.le_of_ble_eq_true rfl) rfl rfl (Nat.le_of_ble_eq_true rfl) rfl (t_of_0 ci (nI i) (i := i) rfl (by omega) (isC_i (by omega) hc c20)) (fun r h1 hq => ?_)
        obtain ⟨rfl, rfl⟩ := hq
        refine XW.i2l 94 dX3_digest_93 rfl ?_
        refine XW.ladd 95 dX3_digest_94 rfl ?_
        refine XW.lstore_n 96 (L' := [some (.ref 0), some (.long ((31 * (itF (dgC (Z.2.1 2) (Z.2.1 3) (Z.2.1 5) (Z.2.1 6) (Z.1 1 5) l) D i)) + ((Z.2.1 2 (3 * i)).toInt64))), none, some (.int (nI i)), some (.int 0)]) dX3_digest_95 (by decide) rfl rfl rfl ?_
        refine XW.eqs (L' := [some (.ref 0), some (.long (dg (itF (dgC (Z.2.1 2) (Z.2.1 3) (Z.2.1 5) (Z.2.1 6) (Z.1 1 5) l) D i) (Z.2.1 2 (3 * i)))), none, some (.int (nI i)), some (.int 0)]) rfl rfl rfl ?_
        refine XW.iinc 99 (y := 1) (L' := [some (.ref 0), some (.long (dg (itF (dgC (Z.2.1 2) (Z.2.1 3) (Z.2.1 5) (Z.2.1 6) (Z.1 1 5) l) D i) (Z.2.1 2 (3 * i)))), none, some (.int (nI i)), some (.int 1)]) dX3_digest_96 rfl (by decide) (by decide) rfl rfl rfl ?_
        refine XW.goto 74 dX3_digest_99 (by decide) ?_
        refine XW.iload 76 dX3_digest_74 rfl rfl ?_
        refine XW.bipush 78 dX3_digest_76 (v := 6) (by decide) rfl ?_
        refine XW.icmp_geN 102 81 1 6 dX3_digest_78 (by decide) rfl rfl rfl (by omega) (by omega) (fun c_78 => ?_) (fun c_78 => ?_)
        · exact absurd c_78 (by decide)
        · refine XW.ldc2 84 k3_227 dX3_digest_81 rfl ?_
          refine XW.lload_n 85 dX3_digest_84 rfl rfl ?_
          refine XW.lmul 86 dX3_digest_85 rfl ?_
          refine XW.aload_n 87 dX3_digest_86 rfl rfl ?_
          refine XW.iload_n 88 dX3_digest_87 rfl rfl ?_
          refine XW.iload 90 dX3_digest_88 rfl rfl ?_
          refine XW.callV 93 (vs := [.int (nI i), .int 1]) (rest := [.long (31 * (dg (itF (dgC (Z.2.1 2) (Z.2.1 3) (Z.2.1 5) (Z.2.1 6) (Z.1 1 5) l) D i) (Z.2.1 2 (3 * i))))]) (mcr := 0) (msr := 0) c3_235 dX3_digest_90 rfl rfl (by decide) (Nat.le_of_ble_eq_true rfl) rfl rfl (Nat.le_of_ble_eq_true rfl) rfl (t_of_1 ci (nI i) (i := i) rfl (by omega) (isC_i (by omega) hc c20)) (fun r h1 hq => ?_)
          obtain ⟨rfl, rfl⟩ := hq
          refine XW.i2l 94 dX3_digest_93 rfl ?_
          refine XW.ladd 95 dX3_digest_94 rfl ?_
          refine XW.lstore_n 96 (L' := [some (.ref 0), some (.long ((31 * (dg (itF (dgC (Z.2.1 2) (Z.2.1 3) (Z.2.1 5) (Z.2.1 6) (Z.1 1 5) l) D i) (Z.2.1 2 (3 * i)))) + ((Z.2.1 2 (3 * i + 1)).toInt64))), none, some (.int (nI i)), some (.int 1)]) dX3_digest_95 (by decide) rfl rfl rfl ?_
          refine XW.eqs (L' := [some (.ref 0), some (.long (dg (dg (itF (dgC (Z.2.1 2) (Z.2.1 3) (Z.2.1 5) (Z.2.1 6) (Z.1 1 5) l) D i) (Z.2.1 2 (3 * i))) (Z.2.1 2 (3 * i + 1)))), none, some (.int (nI i)), some (.int 1)]) rfl rfl rfl ?_
          refine XW.iinc 99 (y := 2) (L' := [some (.ref 0), some (.long (dg (dg (itF (dgC (Z.2.1 2) (Z.2.1 3) (Z.2.1 5) (Z.2.1 6) (Z.1 1 5) l) D i) (Z.2.1 2 (3 * i))) (Z.2.1 2 (3 * i + 1)))), none, some (.int (nI i)), some (.int 2)]) dX3_digest_96 rfl (by decide) (by decide) rfl rfl rfl ?_
          refine XW.goto 74 dX3_digest_99 (by decide) ?_
          refine XW.iload 76 dX3_digest_74 rfl rfl ?_
          refine XW.bipush 78 dX3_digest_76 (v := 6) (by decide) rfl ?_
          refine XW.icmp_geN 102 81 2 6 dX3_digest_78 (by decide) rfl rfl rfl (by omega) (by omega) (fun c_78 => ?_) (fun c_78 => ?_)
          · exact absurd c_78 (by decide)
          · refine XW.ldc2 84 k3_227 dX3_digest_81 rfl ?_
            refine XW.lload_n 85 dX3_digest_84 rfl rfl ?_
            refine XW.lmul 86 dX3_digest_85 rfl ?_
            refine XW.aload_n 87 dX3_digest_86 rfl rfl ?_
            refine XW.iload_n 88 dX3_digest_87 rfl rfl ?_
            refine XW.iload 90 dX3_digest_88 rfl rfl ?_
            refine XW.callV 93 (vs := [.int (nI i), .int 2]) (rest := [.long (31 * (dg (dg (itF (dgC (Z.2.1 2) (Z.2.1 3) (Z.2.1 5) (Z.2.1 6) (Z.1 1 5) l) D i) (Z.2.1 2 (3 * i))) (Z.2.1 2 (3 * i + 1))))]) (mcr := 0) (msr := 0) c3_235 dX3_digest_90 rfl rfl (by decide) (Nat.le_of_ble_eq_true rfl) rfl rfl (Nat.le_of_ble_eq_true rfl) rfl (t_of_2 ci (nI i) (i := i) rfl (by omega) (isC_i (by omega) hc c20)) (fun r h1 hq => ?_)
            obtain ⟨rfl, rfl⟩ := hq
            refine XW.i2l 94 dX3_digest_93 rfl ?_
            refine XW.ladd 95 dX3_digest_94 rfl ?_
            refine XW.lstore_n 96 (L' := [some (.ref 0), some (.long ((31 * (dg (dg (itF (dgC (Z.2.1 2) (Z.2.1 3) (Z.2.1 5) (Z.2.1 6) (Z.1 1 5) l) D i) (Z.2.1 2 (3 * i))) (Z.2.1 2 (3 * i + 1)))) + ((Z.2.1 2 (3 * i + 2)).toInt64))), none, some (.int (nI i)), some (.int 2)]) dX3_digest_95 (by decide) rfl rfl rfl ?_
            refine XW.eqs (L' := [some (.ref 0), some (.long (dg (dg (dg (itF (dgC (Z.2.1 2) (Z.2.1 3) (Z.2.1 5) (Z.2.1 6) (Z.1 1 5) l) D i) (Z.2.1 2 (3 * i))) (Z.2.1 2 (3 * i + 1))) (Z.2.1 2 (3 * i + 2)))), none, some (.int (nI i)), some (.int 2)]) rfl rfl rfl ?_
            refine XW.iinc 99 (y := 3) (L' := [some (.ref 0), some (.long (dg (dg (dg (itF (dgC (Z.2.1 2) (Z.2.1 3) (Z.2.1 5) (Z.2.1 6) (Z.1 1 5) l) D i) (Z.2.1 2 (3 * i))) (Z.2.1 2 (3 * i + 1))) (Z.2.1 2 (3 * i + 2)))), none, some (.int (nI i)), some (.int 3)]) dX3_digest_96 rfl (by decide) (by decide) rfl rfl rfl ?_
            refine XW.goto 74 dX3_digest_99 (by decide) ?_
            refine XW.iload 76 dX3_digest_74 rfl rfl ?_
            refine XW.bipush 78 dX3_digest_76 (v := 6) (by decide) rfl ?_
            refine XW.icmp_geN 102 81 3 6 dX3_digest_78 (by decide) rfl rfl rfl (by omega) (by omega) (fun c_78 => ?_) (fun c_78 => ?_)
            · exact absurd c_78 (by decide)
            · refine XW.ldc2 84 k3_227 dX3_digest_81 rfl ?_
              refine XW.lload_n 85 dX3_digest_84 rfl rfl ?_
              refine XW.lmul 86 dX3_digest_85 rfl ?_
              refine XW.aload_n 87 dX3_digest_86 rfl rfl ?_
              refine XW.iload_n 88 dX3_digest_87 rfl rfl ?_
              refine XW.iload 90 dX3_digest_88 rfl rfl ?_
              refine XW.callV 93 (vs := [.int (nI i), .int 3]) (rest := [.long (31 * (dg (dg (dg (itF (dgC (Z.2.1 2) (Z.2.1 3) (Z.2.1 5) (Z.2.1 6) (Z.1 1 5) l) D i) (Z.2.1 2 (3 * i))) (Z.2.1 2 (3 * i + 1))) (Z.2.1 2 (3 * i + 2))))]) (mcr := 0) (msr := 0) c3_235 dX3_digest_90 rfl rfl (by decide) (Nat.le_of_ble_eq_true rfl) rfl rfl (Nat.le_of_ble_eq_true rfl) rfl (t_of_3 ci (nI i) (i := i) rfl (by omega) (isC_i (by omega) hc c20)) (fun r h1 hq => ?_)
              obtain ⟨rfl, rfl⟩ := hq
              refine XW.i2l 94 dX3_digest_93 rfl ?_
              refine XW.ladd 95 dX3_digest_94 rfl ?_
              refine XW.lstore_n 96 (L' := [some (.ref 0), some (.long ((31 * (dg (dg (dg (itF (dgC (Z.2.1 2) (Z.2.1 3) (Z.2.1 5) (Z.2.1 6) (Z.1 1 5) l) D i) (Z.2.1 2 (3 * i))) (Z.2.1 2 (3 * i + 1))) (Z.2.1 2 (3 * i + 2)))) + ((b2i (bitB (Z.1 1 5) (nI i))).toInt64))), none, some (.int (nI i)), some (.int 3)]) dX3_digest_95 (by decide) rfl rfl rfl ?_
              refine XW.eqs (L' := [some (.ref 0), some (.long (dg (dg (dg (dg (itF (dgC (Z.2.1 2) (Z.2.1 3) (Z.2.1 5) (Z.2.1 6) (Z.1 1 5) l) D i) (Z.2.1 2 (3 * i))) (Z.2.1 2 (3 * i + 1))) (Z.2.1 2 (3 * i + 2))) (b2i (bitB (Z.1 1 5) (nI i))))), none, some (.int (nI i)), some (.int 3)]) rfl rfl rfl ?_
              refine XW.iinc 99 (y := 4) (L' := [some (.ref 0), some (.long (dg (dg (dg (dg (itF (dgC (Z.2.1 2) (Z.2.1 3) (Z.2.1 5) (Z.2.1 6) (Z.1 1 5) l) D i) (Z.2.1 2 (3 * i))) (Z.2.1 2 (3 * i + 1))) (Z.2.1 2 (3 * i + 2))) (b2i (bitB (Z.1 1 5) (nI i))))), none, some (.int (nI i)), some (.int 4)]) dX3_digest_96 rfl (by decide) (by decide) rfl rfl rfl ?_
              refine XW.goto 74 dX3_digest_99 (by decide) ?_
              refine XW.iload 76 dX3_digest_74 rfl rfl ?_
              refine XW.bipush 78 dX3_digest_76 (v := 6) (by decide) rfl ?_
              refine XW.icmp_geN 102 81 4 6 dX3_digest_78 (by decide) rfl rfl rfl (by omega) (by omega) (fun c_78 => ?_) (fun c_78 => ?_)
              · exact absurd c_78 (by decide)
              · refine XW.ldc2 84 k3_227 dX3_digest_81 rfl ?_
                refine XW.lload_n 85 dX3_digest_84 rfl rfl ?_
                refine XW.lmul 86 dX3_digest_85 rfl ?_
                refine XW.aload_n 87 dX3_digest_86 rfl rfl ?_
                refine XW.iload_n 88 dX3_digest_87 rfl rfl ?_
                refine XW.iload 90 dX3_digest_88 rfl rfl ?_
                refine XW.callV 93 (vs := [.int (nI i), .int 4]) (rest := [.long (31 * (dg (dg (dg (dg (itF (dgC (Z.2.1 2) (Z.2.1 3) (Z.2.1 5) (Z.2.1 6) (Z.1 1 5) l) D i) (Z.2.1 2 (3 * i))) (Z.2.1 2 (3 * i + 1))) (Z.2.1 2 (3 * i + 2))) (b2i (bitB (Z.1 1 5) (nI i)))))]) (mcr := 0) (msr := 0) c3_235 dX3_digest_90 rfl rfl (by decide) (Nat.le_of_ble_eq_true rfl) rfl rfl (Nat.le_of_ble_eq_true rfl) rfl (t_of_4 ci (nI i) (i := i) rfl (by omega) (isC_i (by omega) hc c20)) (fun r h1 hq => ?_)
                obtain ⟨rfl, rfl⟩ := hq
                refine XW.i2l 94 dX3_digest_93 rfl ?_
                refine XW.ladd 95 dX3_digest_94 rfl ?_
                refine XW.lstore_n 96 (L' := [some (.ref 0), some (.long ((31 * (dg (dg (dg (dg (itF (dgC (Z.2.1 2) (Z.2.1 3) (Z.2.1 5) (Z.2.1 6) (Z.1 1 5) l) D i) (Z.2.1 2 (3 * i))) (Z.2.1 2 (3 * i + 1))) (Z.2.1 2 (3 * i + 2))) (b2i (bitB (Z.1 1 5) (nI i))))) + ((b2i (fitC (Z.2.1 2) (Z.2.1 3) (Z.2.1 5) i)).toInt64))), none, some (.int (nI i)), some (.int 4)]) dX3_digest_95 (by decide) rfl rfl rfl ?_
                refine XW.eqs (L' := [some (.ref 0), some (.long (dg (dg (dg (dg (dg (itF (dgC (Z.2.1 2) (Z.2.1 3) (Z.2.1 5) (Z.2.1 6) (Z.1 1 5) l) D i) (Z.2.1 2 (3 * i))) (Z.2.1 2 (3 * i + 1))) (Z.2.1 2 (3 * i + 2))) (b2i (bitB (Z.1 1 5) (nI i)))) (b2i (fitC (Z.2.1 2) (Z.2.1 3) (Z.2.1 5) i)))), none, some (.int (nI i)), some (.int 4)]) rfl rfl rfl ?_
                refine XW.iinc 99 (y := 5) (L' := [some (.ref 0), some (.long (dg (dg (dg (dg (dg (itF (dgC (Z.2.1 2) (Z.2.1 3) (Z.2.1 5) (Z.2.1 6) (Z.1 1 5) l) D i) (Z.2.1 2 (3 * i))) (Z.2.1 2 (3 * i + 1))) (Z.2.1 2 (3 * i + 2))) (b2i (bitB (Z.1 1 5) (nI i)))) (b2i (fitC (Z.2.1 2) (Z.2.1 3) (Z.2.1 5) i)))), none, some (.int (nI i)), some (.int 5)]) dX3_digest_96 rfl (by decide) (by decide) rfl rfl rfl ?_
                refine XW.goto 74 dX3_digest_99 (by decide) ?_
                refine XW.iload 76 dX3_digest_74 rfl rfl ?_
                refine XW.bipush 78 dX3_digest_76 (v := 6) (by decide) rfl ?_
                refine XW.icmp_geN 102 81 5 6 dX3_digest_78 (by decide) rfl rfl rfl (by omega) (by omega) (fun c_78 => ?_) (fun c_78 => ?_)
                · exact absurd c_78 (by decide)
                · refine XW.ldc2 84 k3_227 dX3_digest_81 rfl ?_
                  refine XW.lload_n 85 dX3_digest_84 rfl rfl ?_
                  refine XW.lmul 86 dX3_digest_85 rfl ?_
                  refine XW.aload_n 87 dX3_digest_86 rfl rfl ?_
                  refine XW.iload_n 88 dX3_digest_87 rfl rfl ?_
                  refine XW.iload 90 dX3_digest_88 rfl rfl ?_
                  refine XW.callV 93 (vs := [.int (nI i), .int 5]) (rest := [.long (31 * (dg (dg (dg (dg (dg (itF (dgC (Z.2.1 2) (Z.2.1 3) (Z.2.1 5) (Z.2.1 6) (Z.1 1 5) l) D i) (Z.2.1 2 (3 * i))) (Z.2.1 2 (3 * i + 1))) (Z.2.1 2 (3 * i + 2))) (b2i (bitB (Z.1 1 5) (nI i)))) (b2i (fitC (Z.2.1 2) (Z.2.1 3) (Z.2.1 5) i))))]) (mcr := 0) (msr := 0) c3_235 dX3_digest_90 rfl rfl (by decide) (Nat.le_of_ble_eq_true rfl) rfl rfl (Nat.le_of_ble_eq_true rfl) rfl (t_of_5 ci (nI i) (i := i) rfl (by omega) (isC_i (by omega) hc c20)) (fun r h1 hq => ?_)
                  obtain ⟨rfl, rfl⟩ := hq
                  refine XW.i2l 94 dX3_digest_93 rfl ?_
                  refine XW.ladd 95 dX3_digest_94 rfl ?_
                  refine XW.lstore_n 96 (L' := [some (.ref 0), some (.long ((31 * (dg (dg (dg (dg (dg (itF (dgC (Z.2.1 2) (Z.2.1 3) (Z.2.1 5) (Z.2.1 6) (Z.1 1 5) l) D i) (Z.2.1 2 (3 * i))) (Z.2.1 2 (3 * i + 1))) (Z.2.1 2 (3 * i + 2))) (b2i (bitB (Z.1 1 5) (nI i)))) (b2i (fitC (Z.2.1 2) (Z.2.1 3) (Z.2.1 5) i)))) + ((plF (Z.2.1 6) (nI i) l 0).toInt64))), none, some (.int (nI i)), some (.int 5)]) dX3_digest_95 (by decide) rfl rfl rfl ?_
                  refine XW.eqs (L' := [some (.ref 0), some (.long (dg (dg (dg (dg (dg (dg (itF (dgC (Z.2.1 2) (Z.2.1 3) (Z.2.1 5) (Z.2.1 6) (Z.1 1 5) l) D i) (Z.2.1 2 (3 * i))) (Z.2.1 2 (3 * i + 1))) (Z.2.1 2 (3 * i + 2))) (b2i (bitB (Z.1 1 5) (nI i)))) (b2i (fitC (Z.2.1 2) (Z.2.1 3) (Z.2.1 5) i))) (plF (Z.2.1 6) (nI i) l 0))), none, some (.int (nI i)), some (.int 5)]) rfl rfl rfl ?_
                  refine XW.iinc 99 (y := 6) (L' := [some (.ref 0), some (.long (dg (dg (dg (dg (dg (dg (itF (dgC (Z.2.1 2) (Z.2.1 3) (Z.2.1 5) (Z.2.1 6) (Z.1 1 5) l) D i) (Z.2.1 2 (3 * i))) (Z.2.1 2 (3 * i + 1))) (Z.2.1 2 (3 * i + 2))) (b2i (bitB (Z.1 1 5) (nI i)))) (b2i (fitC (Z.2.1 2) (Z.2.1 3) (Z.2.1 5) i))) (plF (Z.2.1 6) (nI i) l 0))), none, some (.int (nI i)), some (.int 6)]) dX3_digest_96 rfl (by decide) (by decide) rfl rfl rfl ?_
                  refine XW.goto 74 dX3_digest_99 (by decide) ?_
                  refine XW.iload 76 dX3_digest_74 rfl rfl ?_
                  refine XW.bipush 78 dX3_digest_76 (v := 6) (by decide) rfl ?_
                  refine XW.icmp_geN 102 81 6 6 dX3_digest_78 (by decide) rfl rfl rfl (by omega) (by omega) (fun c_78 => ?_) (fun c_78 => ?_)
                  · refine XW.ldc2 105 k3_227 dX3_digest_102 rfl ?_
                    refine XW.lload_n 106 dX3_digest_105 rfl rfl ?_
                    refine XW.lmul 107 dX3_digest_106 rfl ?_
                    refine XW.aload_n 108 dX3_digest_107 rfl rfl ?_
                    refine XW.iload_n 109 dX3_digest_108 rfl rfl ?_
                    refine XW.callV 112 (vs := [.int (nI i)]) (rest := [.long (31 * (dg (dg (dg (dg (dg (dg (itF (dgC (Z.2.1 2) (Z.2.1 3) (Z.2.1 5) (Z.2.1 6) (Z.1 1 5) l) D i) (Z.2.1 2 (3 * i))) (Z.2.1 2 (3 * i + 1))) (Z.2.1 2 (3 * i + 2))) (b2i (bitB (Z.1 1 5) (nI i)))) (b2i (fitC (Z.2.1 2) (Z.2.1 3) (Z.2.1 5) i))) (plF (Z.2.1 6) (nI i) l 0)))]) (mcr := 0) (msr := 0) c3_238 dX3_digest_109 rfl rfl (by decide) (Nat.le_of_ble_eq_true rfl) rfl rfl (Nat.le_of_ble_eq_true rfl) rfl (t_light_ok ci (nI i) (i := i) rfl (by omega) (isC_i (by omega) hc c20)) (fun r h1 hq => ?_)
                    obtain ⟨rfl, rfl⟩ := hq
                    refine XW.i2l 113 dX3_digest_112 rfl ?_
                    refine XW.ladd 114 dX3_digest_113 rfl ?_
                    refine XW.lstore_n 115 (L' := [some (.ref 0), some (.long ((31 * (dg (dg (dg (dg (dg (dg (itF (dgC (Z.2.1 2) (Z.2.1 3) (Z.2.1 5) (Z.2.1 6) (Z.1 1 5) l) D i) (Z.2.1 2 (3 * i))) (Z.2.1 2 (3 * i + 1))) (Z.2.1 2 (3 * i + 2))) (b2i (bitB (Z.1 1 5) (nI i)))) (b2i (fitC (Z.2.1 2) (Z.2.1 3) (Z.2.1 5) i))) (plF (Z.2.1 6) (nI i) l 0))) + (((lightC (Z.2.1 2) (3 * i)).toInt32).toInt64))), none, some (.int (nI i)), some (.int 6)]) dX3_digest_114 (by decide) rfl rfl rfl ?_
                    refine XW.eqs (L' := [some (.ref 0), some (.long (dg (dg (dg (dg (dg (dg (dg (itF (dgC (Z.2.1 2) (Z.2.1 3) (Z.2.1 5) (Z.2.1 6) (Z.1 1 5) l) D i) (Z.2.1 2 (3 * i))) (Z.2.1 2 (3 * i + 1))) (Z.2.1 2 (3 * i + 2))) (b2i (bitB (Z.1 1 5) (nI i)))) (b2i (fitC (Z.2.1 2) (Z.2.1 3) (Z.2.1 5) i))) (plF (Z.2.1 6) (nI i) l 0)) ((lightC (Z.2.1 2) (3 * i)).toInt32))), none, some (.int (nI i)), some (.int 6)]) rfl rfl rfl ?_
                    refine XW.iinc 118 (y := nI (i + 1)) (L' := [some (.ref 0), some (.long (dg (dg (dg (dg (dg (dg (dg (itF (dgC (Z.2.1 2) (Z.2.1 3) (Z.2.1 5) (Z.2.1 6) (Z.1 1 5) l) D i) (Z.2.1 2 (3 * i))) (Z.2.1 2 (3 * i + 1))) (Z.2.1 2 (3 * i + 2))) (b2i (bitB (Z.1 1 5) (nI i)))) (b2i (fitC (Z.2.1 2) (Z.2.1 3) (Z.2.1 5) i))) (plF (Z.2.1 6) (nI i) l 0)) ((lightC (Z.2.1 2) (3 * i)).toInt32))), none, some (.int (nI (i + 1))), some (.int 6)]) dX3_digest_115 rfl (na rfl rfl) (by decide) rfl rfl rfl ?_
                    refine XW.goto 60 dX3_digest_118 (by decide) ?_
                    refine XW.weak [true, true, true, true, false] (L' := [some (.ref 0), some (.long (dg (dg (dg (dg (dg (dg (dg (itF (dgC (Z.2.1 2) (Z.2.1 3) (Z.2.1 5) (Z.2.1 6) (Z.1 1 5) l) D i) (Z.2.1 2 (3 * i))) (Z.2.1 2 (3 * i + 1))) (Z.2.1 2 (3 * i + 2))) (b2i (bitB (Z.1 1 5) (nI i)))) (b2i (fitC (Z.2.1 2) (Z.2.1 3) (Z.2.1 5) i))) (plF (Z.2.1 6) (nI i) l 0)) ((lightC (Z.2.1 2) (3 * i)).toInt32))), none, some (.int (nI (i + 1))), none]) rfl ?_
                    refine XW.eqs (L' := [some (.ref 0), some (.long (itF (dgC (Z.2.1 2) (Z.2.1 3) (Z.2.1 5) (Z.2.1 6) (Z.1 1 5) l) D (i + 1))), none, some (.int (nI (i + 1))), none]) (by rfl) rfl rfl ?_
                    exact ih (i + 1) (by omega) (by omega)
                  · exact absurd c_78 (by decide)
set_option maxHeartbeats 400000 in
set_option maxRecDepth 100000 in
theorem t_digest {Z : xZ} {c l st len : Nat} {kp : Nat → Nat} (ci : CI Z c l st len kp) : XC mX3_digest 9 0 0 [.ref 0] (HP Z) (fun r h' => r = some (.long (dgA (dgT (Z.2.1 44 0) (Z.2.1 44 1) (Z.2.1 44 2) (Z.2.1 5 0) (Z.2.1 5 1) (Z.2.1 5 2) (Z.1 45 1) (Z.1 0 2) (Z.1 1 0) (bcF (fbF (Z.2.1 2) (Z.2.1 3) (Z.2.1 5) c)) (Z.1 1 5) (Z.1 1 7) (cbF (Z.2.1 4) 4) (Z.2.1 3 0) (Z.2.1 3 1) (Z.2.1 3 2)) (apG (Z.2.1 4) (Z.2.1 2)) (Z.2.1 2) (Z.2.1 3) (Z.2.1 4) (Z.2.1 5) (Z.2.1 6) (Z.1 1 5) c l)) ∧ ∃ G, h' = HP (sF Z 51 G)) := by
  show XW mX3_digest 9 0 0 0 [some (.ref 0), none, none, none, none] [] (HP Z) _
  obtain ⟨hc, c20, hl, l8, ok, hf, hdi, hfb, hst, st5, hk, hlen, l120⟩ := id ci
  refine XW.ldc2 3 k3_225 dX3_digest_0 rfl ?_
  refine XW.lstore_n 4 (L' := [some (.ref 0), some (.long 2619), none, none, none]) dX3_digest_3 (by decide) rfl rfl rfl ?_
  refine XW.iconst 5 dX3_digest_4 (v := 0) (by decide) rfl ?_
  refine XW.istore_n 6 (L' := [some (.ref 0), some (.long 2619), none, some (.int 0), none]) dX3_digest_5 (by decide) rfl rfl rfl ?_
  refine XW.iload_n 7 dX3_digest_6 rfl rfl ?_
  refine XW.bipush 9 dX3_digest_7 (v := 8) (by decide) rfl ?_
  refine XW.icmp_geN 31 12 0 8 dX3_digest_9 (by decide) rfl rfl rfl (by omega) (by omega) (fun c_9 => ?_) (fun c_9 => ?_)
  · exact absurd c_9 (by decide)
  · refine XW.ldc2 15 k3_227 dX3_digest_12 rfl ?_
    refine XW.lload_n 16 dX3_digest_15 rfl rfl ?_
    refine XW.lmul 17 dX3_digest_16 rfl ?_
    refine XW.aload_n 18 dX3_digest_17 rfl rfl ?_
    refine XW.iload_n 19 dX3_digest_18 rfl rfl ?_
    refine XW.callV 22 (vs := [.int 0]) (rest := [.long (31 * 2619)]) (mcr := 0) (msr := 0) c3_229 dX3_digest_19 rfl rfl (by decide) (Nat.le_of_ble_eq_true rfl) rfl rfl (Nat.le_of_ble_eq_true rfl) rfl (t_told_0 ci) (fun r h1 hq => ?_)
    obtain ⟨rfl, rfl⟩ := hq
    refine XW.i2l 23 dX3_digest_22 rfl ?_
    refine XW.ladd 24 dX3_digest_23 rfl ?_
    refine XW.lstore_n 25 (L' := [some (.ref 0), some (.long ((31 * 2619) + ((Z.2.1 44 0).toInt64))), none, some (.int 0), none]) dX3_digest_24 (by decide) rfl rfl rfl ?_
    refine XW.eqs (L' := [some (.ref 0), some (.long (dg 2619 (Z.2.1 44 0))), none, some (.int 0), none]) rfl rfl rfl ?_
    refine XW.iinc 28 (y := 1) (L' := [some (.ref 0), some (.long (dg 2619 (Z.2.1 44 0))), none, some (.int 1), none]) dX3_digest_25 rfl (by decide) (by decide) rfl rfl rfl ?_
    refine XW.goto 6 dX3_digest_28 (by decide) ?_
    refine XW.iload_n 7 dX3_digest_6 rfl rfl ?_
    refine XW.bipush 9 dX3_digest_7 (v := 8) (by decide) rfl ?_
    refine XW.icmp_geN 31 12 1 8 dX3_digest_9 (by decide) rfl rfl rfl (by omega) (by omega) (fun c_9 => ?_) (fun c_9 => ?_)
    · exact absurd c_9 (by decide)
    · refine XW.ldc2 15 k3_227 dX3_digest_12 rfl ?_
      refine XW.lload_n 16 dX3_digest_15 rfl rfl ?_
      refine XW.lmul 17 dX3_digest_16 rfl ?_
      refine XW.aload_n 18 dX3_digest_17 rfl rfl ?_
      refine XW.iload_n 19 dX3_digest_18 rfl rfl ?_
      refine XW.callV 22 (vs := [.int 1]) (rest := [.long (31 * (dg 2619 (Z.2.1 44 0)))]) (mcr := 0) (msr := 0) c3_229 dX3_digest_19 rfl rfl (by decide) (Nat.le_of_ble_eq_true rfl) rfl rfl (Nat.le_of_ble_eq_true rfl) rfl (t_told_1 ci) (fun r h1 hq => ?_)
      obtain ⟨rfl, rfl⟩ := hq
      refine XW.i2l 23 dX3_digest_22 rfl ?_
      refine XW.ladd 24 dX3_digest_23 rfl ?_
      refine XW.lstore_n 25 (L' := [some (.ref 0), some (.long ((31 * (dg 2619 (Z.2.1 44 0))) + ((Z.2.1 44 1).toInt64))), none, some (.int 1), none]) dX3_digest_24 (by decide) rfl rfl rfl ?_
      refine XW.eqs (L' := [some (.ref 0), some (.long (dg (dg 2619 (Z.2.1 44 0)) (Z.2.1 44 1))), none, some (.int 1), none]) rfl rfl rfl ?_
      refine XW.iinc 28 (y := 2) (L' := [some (.ref 0), some (.long (dg (dg 2619 (Z.2.1 44 0)) (Z.2.1 44 1))), none, some (.int 2), none]) dX3_digest_25 rfl (by decide) (by decide) rfl rfl rfl ?_
      refine XW.goto 6 dX3_digest_28 (by decide) ?_
      refine XW.iload_n 7 dX3_digest_6 rfl rfl ?_
      refine XW.bipush 9 dX3_digest_7 (v := 8) (by decide) rfl ?_
      refine XW.icmp_geN 31 12 2 8 dX3_digest_9 (by decide) rfl rfl rfl (by omega) (by omega) (fun c_9 => ?_) (fun c_9 => ?_)
      · exact absurd c_9 (by decide)
      · refine XW.ldc2 15 k3_227 dX3_digest_12 rfl ?_
        refine XW.lload_n 16 dX3_digest_15 rfl rfl ?_
        refine XW.lmul 17 dX3_digest_16 rfl ?_
        refine XW.aload_n 18 dX3_digest_17 rfl rfl ?_
        refine XW.iload_n 19 dX3_digest_18 rfl rfl ?_
        refine XW.callV 22 (vs := [.int 2]) (rest := [.long (31 * (dg (dg 2619 (Z.2.1 44 0)) (Z.2.1 44 1)))]) (mcr := 0) (msr := 0) c3_229 dX3_digest_19 rfl rfl (by decide) (Nat.le_of_ble_eq_true rfl) rfl rfl (Nat.le_of_ble_eq_true rfl) rfl (t_told_2 ci) (fun r h1 hq => ?_)
        obtain ⟨rfl, rfl⟩ := hq
        refine XW.i2l 23 dX3_digest_22 rfl ?_
        refine XW.ladd 24 dX3_digest_23 rfl ?_
        refine XW.lstore_n 25 (L' := [some (.ref 0), some (.long ((31 * (dg (dg 2619 (Z.2.1 44 0)) (Z.2.1 44 1))) + ((Z.2.1 44 2).toInt64))), none, some (.int 2), none]) dX3_digest_24 (by decide) rfl rfl rfl ?_
        refine XW.eqs (L' := [some (.ref 0), some (.long (dg (dg (dg 2619 (Z.2.1 44 0)) (Z.2.1 44 1)) (Z.2.1 44 2))), none, some (.int 2), none]) rfl rfl rfl ?_
        refine XW.iinc 28 (y := 3) (L' := [some (.ref 0), some (.long (dg (dg (dg 2619 (Z.2.1 44 0)) (Z.2.1 44 1)) (Z.2.1 44 2))), none, some (.int 3), none]) dX3_digest_25 rfl (by decide) (by decide) rfl rfl rfl ?_
        refine XW.goto 6 dX3_digest_28 (by decide) ?_
        refine XW.iload_n 7 dX3_digest_6 rfl rfl ?_
        refine XW.bipush 9 dX3_digest_7 (v := 8) (by decide) rfl ?_
        refine XW.icmp_geN 31 12 3 8 dX3_digest_9 (by decide) rfl rfl rfl (by omega) (by omega) (fun c_9 => ?_) (fun c_9 => ?_)
        · exact absurd c_9 (by decide)
        · refine XW.ldc2 15 k3_227 dX3_digest_12 rfl ?_
          refine XW.lload_n 16 dX3_digest_15 rfl rfl ?_
          refine XW.lmul 17 dX3_digest_16 rfl ?_
          refine XW.aload_n 18 dX3_digest_17 rfl rfl ?_
          refine XW.iload_n 19 dX3_digest_18 rfl rfl ?_
          refine XW.callV 22 (vs := [.int 3]) (rest := [.long (31 * (dg (dg (dg 2619 (Z.2.1 44 0)) (Z.2.1 44 1)) (Z.2.1 44 2)))]) (mcr := 0) (msr := 0) c3_229 dX3_digest_19 rfl rfl (by decide) (Nat.le_of_ble_eq_true rfl) rfl rfl (Nat.le_of_ble_eq_true rfl) rfl (t_told_3 ci) (fun r h1 hq => ?_)
          obtain ⟨rfl, rfl⟩ := hq
          refine XW.i2l 23 dX3_digest_22 rfl ?_
          refine XW.ladd 24 dX3_digest_23 rfl ?_
          refine XW.lstore_n 25 (L' := [some (.ref 0), some (.long ((31 * (dg (dg (dg 2619 (Z.2.1 44 0)) (Z.2.1 44 1)) (Z.2.1 44 2))) + ((Z.2.1 5 0).toInt64))), none, some (.int 3), none]) dX3_digest_24 (by decide) rfl rfl rfl ?_
          refine XW.eqs (L' := [some (.ref 0), some (.long (dg (dg (dg (dg 2619 (Z.2.1 44 0)) (Z.2.1 44 1)) (Z.2.1 44 2)) (Z.2.1 5 0))), none, some (.int 3), none]) rfl rfl rfl ?_
          refine XW.iinc 28 (y := 4) (L' := [some (.ref 0), some (.long (dg (dg (dg (dg 2619 (Z.2.1 44 0)) (Z.2.1 44 1)) (Z.2.1 44 2)) (Z.2.1 5 0))), none, some (.int 4), none]) dX3_digest_25 rfl (by decide) (by decide) rfl rfl rfl ?_
          refine XW.goto 6 dX3_digest_28 (by decide) ?_
          refine XW.iload_n 7 dX3_digest_6 rfl rfl ?_
          refine XW.bipush 9 dX3_digest_7 (v := 8) (by decide) rfl ?_
          refine XW.icmp_geN 31 12 4 8 dX3_digest_9 (by decide) rfl rfl rfl (by omega) (by omega) (fun c_9 => ?_) (fun c_9 => ?_)
          · exact absurd c_9 (by decide)
          · refine XW.ldc2 15 k3_227 dX3_digest_12 rfl ?_
            refine XW.lload_n 16 dX3_digest_15 rfl rfl ?_
            refine XW.lmul 17 dX3_digest_16 rfl ?_
            refine XW.aload_n 18 dX3_digest_17 rfl rfl ?_
            refine XW.iload_n 19 dX3_digest_18 rfl rfl ?_
            refine XW.callV 22 (vs := [.int 4]) (rest := [.long (31 * (dg (dg (dg (dg 2619 (Z.2.1 44 0)) (Z.2.1 44 1)) (Z.2.1 44 2)) (Z.2.1 5 0)))]) (mcr := 0) (msr := 0) c3_229 dX3_digest_19 rfl rfl (by decide) (Nat.le_of_ble_eq_true rfl) rfl rfl (Nat.le_of_ble_eq_true rfl) rfl (t_told_4 ci) (fun r h1 hq => ?_)
            obtain ⟨rfl, rfl⟩ := hq
            refine XW.i2l 23 dX3_digest_22 rfl ?_
            refine XW.ladd 24 dX3_digest_23 rfl ?_
            refine XW.lstore_n 25 (L' := [some (.ref 0), some (.long ((31 * (dg (dg (dg (dg 2619 (Z.2.1 44 0)) (Z.2.1 44 1)) (Z.2.1 44 2)) (Z.2.1 5 0))) + ((Z.2.1 5 1).toInt64))), none, some (.int 4), none]) dX3_digest_24 (by decide) rfl rfl rfl ?_
            refine XW.eqs (L' := [some (.ref 0), some (.long (dg (dg (dg (dg (dg 2619 (Z.2.1 44 0)) (Z.2.1 44 1)) (Z.2.1 44 2)) (Z.2.1 5 0)) (Z.2.1 5 1))), none, some (.int 4), none]) rfl rfl rfl ?_
            refine XW.iinc 28 (y := 5) (L' := [some (.ref 0), some (.long (dg (dg (dg (dg (dg 2619 (Z.2.1 44 0)) (Z.2.1 44 1)) (Z.2.1 44 2)) (Z.2.1 5 0)) (Z.2.1 5 1))), none, some (.int 5), none]) dX3_digest_25 rfl (by decide) (by decide) rfl rfl rfl ?_
            refine XW.goto 6 dX3_digest_28 (by decide) ?_
            refine XW.iload_n 7 dX3_digest_6 rfl rfl ?_
            refine XW.bipush 9 dX3_digest_7 (v := 8) (by decide) rfl ?_
            refine XW.icmp_geN 31 12 5 8 dX3_digest_9 (by decide) rfl rfl rfl (by omega) (by omega) (fun c_9 => ?_) (fun c_9 => ?_)
            · exact absurd c_9 (by decide)
            · refine XW.ldc2 15 k3_227 dX3_digest_12 rfl ?_
              refine XW.lload_n 16 dX3_digest_15 rfl rfl ?_
              refine XW.lmul 17 dX3_digest_16 rfl ?_
              refine XW.aload_n 18 dX3_digest_17 rfl rfl ?_
              refine XW.iload_n 19 dX3_digest_18 rfl rfl ?_
              refine XW.callV 22 (vs := [.int 5]) (rest := [.long (31 * (dg (dg (dg (dg (dg 2619 (Z.2.1 44 0)) (Z.2.1 44 1)) (Z.2.1 44 2)) (Z.2.1 5 0)) (Z.2.1 5 1)))]) (mcr := 0) (msr := 0) c3_229 dX3_digest_19 rfl rfl (by decide) (Nat.le_of_ble_eq_true rfl) rfl rfl (Nat.le_of_ble_eq_true rfl) rfl (t_told_5 ci) (fun r h1 hq => ?_)
              obtain ⟨rfl, rfl⟩ := hq
              refine XW.i2l 23 dX3_digest_22 rfl ?_
              refine XW.ladd 24 dX3_digest_23 rfl ?_
              refine XW.lstore_n 25 (L' := [some (.ref 0), some (.long ((31 * (dg (dg (dg (dg (dg 2619 (Z.2.1 44 0)) (Z.2.1 44 1)) (Z.2.1 44 2)) (Z.2.1 5 0)) (Z.2.1 5 1))) + ((Z.2.1 5 2).toInt64))), none, some (.int 5), none]) dX3_digest_24 (by decide) rfl rfl rfl ?_
              refine XW.eqs (L' := [some (.ref 0), some (.long (dg (dg (dg (dg (dg (dg 2619 (Z.2.1 44 0)) (Z.2.1 44 1)) (Z.2.1 44 2)) (Z.2.1 5 0)) (Z.2.1 5 1)) (Z.2.1 5 2))), none, some (.int 5), none]) rfl rfl rfl ?_
              refine XW.iinc 28 (y := 6) (L' := [some (.ref 0), some (.long (dg (dg (dg (dg (dg (dg 2619 (Z.2.1 44 0)) (Z.2.1 44 1)) (Z.2.1 44 2)) (Z.2.1 5 0)) (Z.2.1 5 1)) (Z.2.1 5 2))), none, some (.int 6), none]) dX3_digest_25 rfl (by decide) (by decide) rfl rfl rfl ?_
              refine XW.goto 6 dX3_digest_28 (by decide) ?_
              refine XW.iload_n 7 dX3_digest_6 rfl rfl ?_
              refine XW.bipush 9 dX3_digest_7 (v := 8) (by decide) rfl ?_
              refine XW.icmp_geN 31 12 6 8 dX3_digest_9 (by decide) rfl rfl rfl (by omega) (by omega) (fun c_9 => ?_) (fun c_9 => ?_)
              · exact absurd c_9 (by decide)
              · refine XW.ldc2 15 k3_227 dX3_digest_12 rfl ?_
                refine XW.lload_n 16 dX3_digest_15 rfl rfl ?_
                refine XW.lmul 17 dX3_digest_16 rfl ?_
                refine XW.aload_n 18 dX3_digest_17 rfl rfl ?_
                refine XW.iload_n 19 dX3_digest_18 rfl rfl ?_
                refine XW.callV 22 (vs := [.int 6]) (rest := [.long (31 * (dg (dg (dg (dg (dg (dg 2619 (Z.2.1 44 0)) (Z.2.1 44 1)) (Z.2.1 44 2)) (Z.2.1 5 0)) (Z.2.1 5 1)) (Z.2.1 5 2)))]) (mcr := 0) (msr := 0) c3_229 dX3_digest_19 rfl rfl (by decide) (Nat.le_of_ble_eq_true rfl) rfl rfl (Nat.le_of_ble_eq_true rfl) rfl (t_told_6 ci) (fun r h1 hq => ?_)
                obtain ⟨rfl, rfl⟩ := hq
                refine XW.i2l 23 dX3_digest_22 rfl ?_
                refine XW.ladd 24 dX3_digest_23 rfl ?_
                refine XW.lstore_n 25 (L' := [some (.ref 0), some (.long ((31 * (dg (dg (dg (dg (dg (dg 2619 (Z.2.1 44 0)) (Z.2.1 44 1)) (Z.2.1 44 2)) (Z.2.1 5 0)) (Z.2.1 5 1)) (Z.2.1 5 2))) + ((Z.1 45 1).toInt64))), none, some (.int 6), none]) dX3_digest_24 (by decide) rfl rfl rfl ?_
                refine XW.eqs (L' := [some (.ref 0), some (.long (dg (dg (dg (dg (dg (dg (dg 2619 (Z.2.1 44 0)) (Z.2.1 44 1)) (Z.2.1 44 2)) (Z.2.1 5 0)) (Z.2.1 5 1)) (Z.2.1 5 2)) (Z.1 45 1))), none, some (.int 6), none]) rfl rfl rfl ?_
                refine XW.iinc 28 (y := 7) (L' := [some (.ref 0), some (.long (dg (dg (dg (dg (dg (dg (dg 2619 (Z.2.1 44 0)) (Z.2.1 44 1)) (Z.2.1 44 2)) (Z.2.1 5 0)) (Z.2.1 5 1)) (Z.2.1 5 2)) (Z.1 45 1))), none, some (.int 7), none]) dX3_digest_25 rfl (by decide) (by decide) rfl rfl rfl ?_
                refine XW.goto 6 dX3_digest_28 (by decide) ?_
                refine XW.iload_n 7 dX3_digest_6 rfl rfl ?_
                refine XW.bipush 9 dX3_digest_7 (v := 8) (by decide) rfl ?_
                refine XW.icmp_geN 31 12 7 8 dX3_digest_9 (by decide) rfl rfl rfl (by omega) (by omega) (fun c_9 => ?_) (fun c_9 => ?_)
                · exact absurd c_9 (by decide)
                · refine XW.ldc2 15 k3_227 dX3_digest_12 rfl ?_
                  refine XW.lload_n 16 dX3_digest_15 rfl rfl ?_
                  refine XW.lmul 17 dX3_digest_16 rfl ?_
                  refine XW.aload_n 18 dX3_digest_17 rfl rfl ?_
                  refine XW.iload_n 19 dX3_digest_18 rfl rfl ?_
                  refine XW.callV 22 (vs := [.int 7]) (rest := [.long (31 * (dg (dg (dg (dg (dg (dg (dg 2619 (Z.2.1 44 0)) (Z.2.1 44 1)) (Z.2.1 44 2)) (Z.2.1 5 0)) (Z.2.1 5 1)) (Z.2.1 5 2)) (Z.1 45 1)))]) (mcr := 0) (msr := 0) c3_229 dX3_digest_19 rfl rfl (by decide) (Nat.le_of_ble_eq_true rfl) rfl rfl (Nat.le_of_ble_eq_true rfl) rfl (t_told_7 ci) (fun r h1 hq => ?_)
                  obtain ⟨rfl, rfl⟩ := hq
                  refine XW.i2l 23 dX3_digest_22 rfl ?_
                  refine XW.ladd 24 dX3_digest_23 rfl ?_
                  refine XW.lstore_n 25 (L' := [some (.ref 0), some (.long ((31 * (dg (dg (dg (dg (dg (dg (dg 2619 (Z.2.1 44 0)) (Z.2.1 44 1)) (Z.2.1 44 2)) (Z.2.1 5 0)) (Z.2.1 5 1)) (Z.2.1 5 2)) (Z.1 45 1))) + ((Z.1 0 2).toInt64))), none, some (.int 7), none]) dX3_digest_24 (by decide) rfl rfl rfl ?_
                  refine XW.eqs (L' := [some (.ref 0), some (.long (dg (dg (dg (dg (dg (dg (dg (dg 2619 (Z.2.1 44 0)) (Z.2.1 44 1)) (Z.2.1 44 2)) (Z.2.1 5 0)) (Z.2.1 5 1)) (Z.2.1 5 2)) (Z.1 45 1)) (Z.1 0 2))), none, some (.int 7), none]) rfl rfl rfl ?_
                  refine XW.iinc 28 (y := 8) (L' := [some (.ref 0), some (.long (dg (dg (dg (dg (dg (dg (dg (dg 2619 (Z.2.1 44 0)) (Z.2.1 44 1)) (Z.2.1 44 2)) (Z.2.1 5 0)) (Z.2.1 5 1)) (Z.2.1 5 2)) (Z.1 45 1)) (Z.1 0 2))), none, some (.int 8), none]) dX3_digest_25 rfl (by decide) (by decide) rfl rfl rfl ?_
                  refine XW.goto 6 dX3_digest_28 (by decide) ?_
                  refine XW.iload_n 7 dX3_digest_6 rfl rfl ?_
                  refine XW.bipush 9 dX3_digest_7 (v := 8) (by decide) rfl ?_
                  refine XW.icmp_geN 31 12 8 8 dX3_digest_9 (by decide) rfl rfl rfl (by omega) (by omega) (fun c_9 => ?_) (fun c_9 => ?_)
                  · refine XW.iconst 32 dX3_digest_31 (v := 0) (by decide) rfl ?_
                    refine XW.istore_n 33 (L' := [some (.ref 0), some (.long (dg (dg (dg (dg (dg (dg (dg (dg 2619 (Z.2.1 44 0)) (Z.2.1 44 1)) (Z.2.1 44 2)) (Z.2.1 5 0)) (Z.2.1 5 1)) (Z.2.1 5 2)) (Z.1 45 1)) (Z.1 0 2))), none, some (.int 0), none]) dX3_digest_32 (by decide) rfl rfl rfl ?_
                    refine XW.iload_n 34 dX3_digest_33 rfl rfl ?_
                    refine XW.bipush 36 dX3_digest_34 (v := 8) (by decide) rfl ?_
                    refine XW.icmp_geN 58 39 0 8 dX3_digest_36 (by decide) rfl rfl rfl (by omega) (by omega) (fun c_36 => ?_) (fun c_36 => ?_)
                    · exact absurd c_36 (by decide)
                    · refine XW.ldc2 42 k3_227 dX3_digest_39 rfl ?_
                      refine XW.lload_n 43 dX3_digest_42 rfl rfl ?_
                      refine XW.lmul 44 dX3_digest_43 rfl ?_
                      refine XW.aload_n 45 dX3_digest_44 rfl rfl ?_
                      refine XW.iload_n 46 dX3_digest_45 rfl rfl ?_
                      refine XW.callV 49 (vs := [.int 0]) (rest := [.long (31 * (dg (dg (dg (dg (dg (dg (dg (dg 2619 (Z.2.1 44 0)) (Z.2.1 44 1)) (Z.2.1 44 2)) (Z.2.1 5 0)) (Z.2.1 5 1)) (Z.2.1 5 2)) (Z.1 45 1)) (Z.1 0 2)))]) (mcr := 0) (msr := 0) c3_232 dX3_digest_46 rfl rfl (by decide) (Nat.le_of_ble_eq_true rfl) rfl rfl (Nat.le_of_ble_eq_true rfl) rfl (t_count_0 ci) (fun r h1 hq => ?_)
                      obtain ⟨rfl, rfl⟩ := hq
                      refine XW.i2l 50 dX3_digest_49 rfl ?_
                      refine XW.ladd 51 dX3_digest_50 rfl ?_
                      refine XW.lstore_n 52 (L' := [some (.ref 0), some (.long ((31 * (dg (dg (dg (dg (dg (dg (dg (dg 2619 (Z.2.1 44 0)) (Z.2.1 44 1)) (Z.2.1 44 2)) (Z.2.1 5 0)) (Z.2.1 5 1)) (Z.2.1 5 2)) (Z.1 45 1)) (Z.1 0 2))) + ((Z.1 1 0).toInt64))), none, some (.int 0), none]) dX3_digest_51 (by decide) rfl rfl rfl ?_
                      refine XW.eqs (L' := [some (.ref 0), some (.long (dg (dg (dg (dg (dg (dg (dg (dg (dg 2619 (Z.2.1 44 0)) (Z.2.1 44 1)) (Z.2.1 44 2)) (Z.2.1 5 0)) (Z.2.1 5 1)) (Z.2.1 5 2)) (Z.1 45 1)) (Z.1 0 2)) (Z.1 1 0))), none, some (.int 0), none]) rfl rfl rfl ?_
                      refine XW.iinc 55 (y := 1) (L' := [some (.ref 0), some (.long (dg (dg (dg (dg (dg (dg (dg (dg (dg 2619 (Z.2.1 44 0)) (Z.2.1 44 1)) (Z.2.1 44 2)) (Z.2.1 5 0)) (Z.2.1 5 1)) (Z.2.1 5 2)) (Z.1 45 1)) (Z.1 0 2)) (Z.1 1 0))), none, some (.int 1), none]) dX3_digest_52 rfl (by decide) (by decide) rfl rfl rfl ?_
                      refine XW.goto 33 dX3_digest_55 (by decide) ?_
                      refine XW.iload_n 34 dX3_digest_33 rfl rfl ?_
                      refine XW.bipush 36 dX3_digest_34 (v := 8) (by decide) rfl ?_
                      refine XW.icmp_geN 58 39 1 8 dX3_digest_36 (by decide) rfl rfl rfl (by omega) (by omega) (fun c_36 => ?_) (fun c_36 => ?_)
                      · exact absurd c_36 (by decide)
                      · refine XW.ldc2 42 k3_227 dX3_digest_39 rfl ?_
                        refine XW.lload_n 43 dX3_digest_42 rfl rfl ?_
                        refine XW.lmul 44 dX3_digest_43 rfl ?_
                        refine XW.aload_n 45 dX3_digest_44 rfl rfl ?_
                        refine XW.iload_n 46 dX3_digest_45 rfl rfl ?_
                        refine XW.callV 49 (vs := [.int 1]) (rest := [.long (31 * (dg (dg (dg (dg (dg (dg (dg (dg (dg 2619 (Z.2.1 44 0)) (Z.2.1 44 1)) (Z.2.1 44 2)) (Z.2.1 5 0)) (Z.2.1 5 1)) (Z.2.1 5 2)) (Z.1 45 1)) (Z.1 0 2)) (Z.1 1 0)))]) (mcr := 0) (msr := 0) c3_232 dX3_digest_46 rfl rfl (by decide) (Nat.le_of_ble_eq_true rfl) rfl rfl (Nat.le_of_ble_eq_true rfl) rfl (t_count_1 ci) (fun r h1 hq => ?_)
                        obtain ⟨rfl, rfl⟩ := hq
                        refine XW.i2l 50 dX3_digest_49 rfl ?_
                        refine XW.ladd 51 dX3_digest_50 rfl ?_
                        refine XW.lstore_n 52 (L' := [some (.ref 0), some (.long ((31 * (dg (dg (dg (dg (dg (dg (dg (dg (dg 2619 (Z.2.1 44 0)) (Z.2.1 44 1)) (Z.2.1 44 2)) (Z.2.1 5 0)) (Z.2.1 5 1)) (Z.2.1 5 2)) (Z.1 45 1)) (Z.1 0 2)) (Z.1 1 0))) + ((bcF (fbF (Z.2.1 2) (Z.2.1 3) (Z.2.1 5) c)).toInt64))), none, some (.int 1), none]) dX3_digest_51 (by decide) rfl rfl rfl ?_
                        refine XW.eqs (L' := [some (.ref 0), some (.long (dg (dg (dg (dg (dg (dg (dg (dg (dg (dg 2619 (Z.2.1 44 0)) (Z.2.1 44 1)) (Z.2.1 44 2)) (Z.2.1 5 0)) (Z.2.1 5 1)) (Z.2.1 5 2)) (Z.1 45 1)) (Z.1 0 2)) (Z.1 1 0)) (bcF (fbF (Z.2.1 2) (Z.2.1 3) (Z.2.1 5) c)))), none, some (.int 1), none]) rfl rfl rfl ?_
                        refine XW.iinc 55 (y := 2) (L' := [some (.ref 0), some (.long (dg (dg (dg (dg (dg (dg (dg (dg (dg (dg 2619 (Z.2.1 44 0)) (Z.2.1 44 1)) (Z.2.1 44 2)) (Z.2.1 5 0)) (Z.2.1 5 1)) (Z.2.1 5 2)) (Z.1 45 1)) (Z.1 0 2)) (Z.1 1 0)) (bcF (fbF (Z.2.1 2) (Z.2.1 3) (Z.2.1 5) c)))), none, some (.int 2), none]) dX3_digest_52 rfl (by decide) (by decide) rfl rfl rfl ?_
                        refine XW.goto 33 dX3_digest_55 (by decide) ?_
                        refine XW.iload_n 34 dX3_digest_33 rfl rfl ?_
                        refine XW.bipush 36 dX3_digest_34 (v := 8) (by decide) rfl ?_
                        refine XW.icmp_geN 58 39 2 8 dX3_digest_36 (by decide) rfl rfl rfl (by omega) (by omega) (fun c_36 => ?_) (fun c_36 => ?_)
                        · exact absurd c_36 (by decide)
                        · refine XW.ldc2 42 k3_227 dX3_digest_39 rfl ?_
                          refine XW.lload_n 43 dX3_digest_42 rfl rfl ?_
                          refine XW.lmul 44 dX3_digest_43 rfl ?_
                          refine XW.aload_n 45 dX3_digest_44 rfl rfl ?_
                          refine XW.iload_n 46 dX3_digest_45 rfl rfl ?_
                          refine XW.callV 49 (vs := [.int 2]) (rest := [.long (31 * (dg (dg (dg (dg (dg (dg (dg (dg (dg (dg 2619 (Z.2.1 44 0)) (Z.2.1 44 1)) (Z.2.1 44 2)) (Z.2.1 5 0)) (Z.2.1 5 1)) (Z.2.1 5 2)) (Z.1 45 1)) (Z.1 0 2)) (Z.1 1 0)) (bcF (fbF (Z.2.1 2) (Z.2.1 3) (Z.2.1 5) c))))]) (mcr := 0) (msr := 0) c3_232 dX3_digest_46 rfl rfl (by decide) (Nat.le_of_ble_eq_true rfl) rfl rfl (Nat.le_of_ble_eq_true rfl) rfl (t_count_2 ci) (fun r h1 hq => ?_)
                          obtain ⟨rfl, rfl⟩ := hq
                          refine XW.i2l 50 dX3_digest_49 rfl ?_
                          refine XW.ladd 51 dX3_digest_50 rfl ?_
                          refine XW.lstore_n 52 (L' := [some (.ref 0), some (.long ((31 * (dg (dg (dg (dg (dg (dg (dg (dg (dg (dg 2619 (Z.2.1 44 0)) (Z.2.1 44 1)) (Z.2.1 44 2)) (Z.2.1 5 0)) (Z.2.1 5 1)) (Z.2.1 5 2)) (Z.1 45 1)) (Z.1 0 2)) (Z.1 1 0)) (bcF (fbF (Z.2.1 2) (Z.2.1 3) (Z.2.1 5) c)))) + ((Z.1 1 5).toInt64))), none, some (.int 2), none]) dX3_digest_51 (by decide) rfl rfl rfl ?_
                          refine XW.eqs (L' := [some (.ref 0), some (.long (dg (dg (dg (dg (dg (dg (dg (dg (dg (dg (dg 2619 (Z.2.1 44 0)) (Z.2.1 44 1)) (Z.2.1 44 2)) (Z.2.1 5 0)) (Z.2.1 5 1)) (Z.2.1 5 2)) (Z.1 45 1)) (Z.1 0 2)) (Z.1 1 0)) (bcF (fbF (Z.2.1 2) (Z.2.1 3) (Z.2.1 5) c))) (Z.1 1 5))), none, some (.int 2), none]) rfl rfl rfl ?_
                          refine XW.iinc 55 (y := 3) (L' := [some (.ref 0), some (.long (dg (dg (dg (dg (dg (dg (dg (dg (dg (dg (dg 2619 (Z.2.1 44 0)) (Z.2.1 44 1)) (Z.2.1 44 2)) (Z.2.1 5 0)) (Z.2.1 5 1)) (Z.2.1 5 2)) (Z.1 45 1)) (Z.1 0 2)) (Z.1 1 0)) (bcF (fbF (Z.2.1 2) (Z.2.1 3) (Z.2.1 5) c))) (Z.1 1 5))), none, some (.int 3), none]) dX3_digest_52 rfl (by decide) (by decide) rfl rfl rfl ?_
                          refine XW.goto 33 dX3_digest_55 (by decide) ?_
                          refine XW.iload_n 34 dX3_digest_33 rfl rfl ?_
                          refine XW.bipush 36 dX3_digest_34 (v := 8) (by decide) rfl ?_
                          refine XW.icmp_geN 58 39 3 8 dX3_digest_36 (by decide) rfl rfl rfl (by omega) (by omega) (fun c_36 => ?_) (fun c_36 => ?_)
                          · exact absurd c_36 (by decide)
                          · refine XW.ldc2 42 k3_227 dX3_digest_39 rfl ?_
                            refine XW.lload_n 43 dX3_digest_42 rfl rfl ?_
                            refine XW.lmul 44 dX3_digest_43 rfl ?_
                            refine XW.aload_n 45 dX3_digest_44 rfl rfl ?_
                            refine XW.iload_n 46 dX3_digest_45 rfl rfl ?_
                            refine XW.callV 49 (vs := [.int 3]) (rest := [.long (31 * (dg (dg (dg (dg (dg (dg (dg (dg (dg (dg (dg 2619 (Z.2.1 44 0)) (Z.2.1 44 1)) (Z.2.1 44 2)) (Z.2.1 5 0)) (Z.2.1 5 1)) (Z.2.1 5 2)) (Z.1 45 1)) (Z.1 0 2)) (Z.1 1 0)) (bcF (fbF (Z.2.1 2) (Z.2.1 3) (Z.2.1 5) c))) (Z.1 1 5)))]) (mcr := 0) (msr := 0) c3_232 dX3_digest_46 rfl rfl (by decide) (Nat.le_of_ble_eq_true rfl) rfl rfl (Nat.le_of_ble_eq_true rfl) rfl (t_count_3 ci) (fun r h1 hq => ?_)
                            obtain ⟨rfl, rfl⟩ := hq
                            refine XW.i2l 50 dX3_digest_49 rfl ?_
                            refine XW.ladd 51 dX3_digest_50 rfl ?_
                            refine XW.lstore_n 52 (L' := [some (.ref 0), some (.long ((31 * (dg (dg (dg (dg (dg (dg (dg (dg (dg (dg (dg 2619 (Z.2.1 44 0)) (Z.2.1 44 1)) (Z.2.1 44 2)) (Z.2.1 5 0)) (Z.2.1 5 1)) (Z.2.1 5 2)) (Z.1 45 1)) (Z.1 0 2)) (Z.1 1 0)) (bcF (fbF (Z.2.1 2) (Z.2.1 3) (Z.2.1 5) c))) (Z.1 1 5))) + ((Z.1 1 7).toInt64))), none, some (.int 3), none]) dX3_digest_51 (by decide) rfl rfl rfl ?_
                            refine XW.eqs (L' := [some (.ref 0), some (.long (dg (dg (dg (dg (dg (dg (dg (dg (dg (dg (dg (dg 2619 (Z.2.1 44 0)) (Z.2.1 44 1)) (Z.2.1 44 2)) (Z.2.1 5 0)) (Z.2.1 5 1)) (Z.2.1 5 2)) (Z.1 45 1)) (Z.1 0 2)) (Z.1 1 0)) (bcF (fbF (Z.2.1 2) (Z.2.1 3) (Z.2.1 5) c))) (Z.1 1 5)) (Z.1 1 7))), none, some (.int 3), none]) rfl rfl rfl ?_
                            refine XW.iinc 55 (y := 4) (L' := [some (.ref 0), some (.long (dg (dg (dg (dg (dg (dg (dg (dg (dg (dg (dg (dg 2619 (Z.2.1 44 0)) (Z.2.1 44 1)) (Z.2.1 44 2)) (Z.2.1 5 0)) (Z.2.1 5 1)) (Z.2.1 5 2)) (Z.1 45 1)) (Z.1 0 2)) (Z.1 1 0)) (bcF (fbF (Z.2.1 2) (Z.2.1 3) (Z.2.1 5) c))) (Z.1 1 5)) (Z.1 1 7))), none, some (.int 4), none]) dX3_digest_52 rfl (by decide) (by decide) rfl rfl rfl ?_
                            refine XW.goto 33 dX3_digest_55 (by decide) ?_
                            refine XW.iload_n 34 dX3_digest_33 rfl rfl ?_
                            refine XW.bipush 36 dX3_digest_34 (v := 8) (by decide) rfl ?_
                            refine XW.icmp_geN 58 39 4 8 dX3_digest_36 (by decide) rfl rfl rfl (by omega) (by omega) (fun c_36 => ?_) (fun c_36 => ?_)
                            · exact absurd c_36 (by decide)
                            · refine XW.ldc2 42 k3_227 dX3_digest_39 rfl ?_
                              refine XW.lload_n 43 dX3_digest_42 rfl rfl ?_
                              refine XW.lmul 44 dX3_digest_43 rfl ?_
                              refine XW.aload_n 45 dX3_digest_44 rfl rfl ?_
                              refine XW.iload_n 46 dX3_digest_45 rfl rfl ?_
                              refine XW.callV 49 (vs := [.int 4]) (rest := [.long (31 * (dg (dg (dg (dg (dg (dg (dg (dg (dg (dg (dg (dg 2619 (Z.2.1 44 0)) (Z.2.1 44 1)) (Z.2.1 44 2)) (Z.2.1 5 0)) (Z.2.1 5 1)) (Z.2.1 5 2)) (Z.1 45 1)) (Z.1 0 2)) (Z.1 1 0)) (bcF (fbF (Z.2.1 2) (Z.2.1 3) (Z.2.1 5) c))) (Z.1 1 5)) (Z.1 1 7)))]) (mcr := 0) (msr := 0) c3_232 dX3_digest_46 rfl rfl (by decide) (Nat.le_of_ble_eq_true rfl) rfl rfl (Nat.le_of_ble_eq_true rfl) rfl (t_count_4 ci) (fun r h1 hq => ?_)
                              obtain ⟨rfl, rfl⟩ := hq
                              refine XW.i2l 50 dX3_digest_49 rfl ?_
                              refine XW.ladd 51 dX3_digest_50 rfl ?_
                              refine XW.lstore_n 52 (L' := [some (.ref 0), some (.long ((31 * (dg (dg (dg (dg (dg (dg (dg (dg (dg (dg (dg (dg 2619 (Z.2.1 44 0)) (Z.2.1 44 1)) (Z.2.1 44 2)) (Z.2.1 5 0)) (Z.2.1 5 1)) (Z.2.1 5 2)) (Z.1 45 1)) (Z.1 0 2)) (Z.1 1 0)) (bcF (fbF (Z.2.1 2) (Z.2.1 3) (Z.2.1 5) c))) (Z.1 1 5)) (Z.1 1 7))) + ((cbF (Z.2.1 4) 4).toInt64))), none, some (.int 4), none]) dX3_digest_51 (by decide) rfl rfl rfl ?_
                              refine XW.eqs (L' := [some (.ref 0), some (.long (dg (dg (dg (dg (dg (dg (dg (dg (dg (dg (dg (dg (dg 2619 (Z.2.1 44 0)) (Z.2.1 44 1)) (Z.2.1 44 2)) (Z.2.1 5 0)) (Z.2.1 5 1)) (Z.2.1 5 2)) (Z.1 45 1)) (Z.1 0 2)) (Z.1 1 0)) (bcF (fbF (Z.2.1 2) (Z.2.1 3) (Z.2.1 5) c))) (Z.1 1 5)) (Z.1 1 7)) (cbF (Z.2.1 4) 4))), none, some (.int 4), none]) rfl rfl rfl ?_
                              refine XW.iinc 55 (y := 5) (L' := [some (.ref 0), some (.long (dg (dg (dg (dg (dg (dg (dg (dg (dg (dg (dg (dg (dg 2619 (Z.2.1 44 0)) (Z.2.1 44 1)) (Z.2.1 44 2)) (Z.2.1 5 0)) (Z.2.1 5 1)) (Z.2.1 5 2)) (Z.1 45 1)) (Z.1 0 2)) (Z.1 1 0)) (bcF (fbF (Z.2.1 2) (Z.2.1 3) (Z.2.1 5) c))) (Z.1 1 5)) (Z.1 1 7)) (cbF (Z.2.1 4) 4))), none, some (.int 5), none]) dX3_digest_52 rfl (by decide) (by decide) rfl rfl rfl ?_
                              refine XW.goto 33 dX3_digest_55 (by decide) ?_
                              refine XW.iload_n 34 dX3_digest_33 rfl rfl ?_
                              refine XW.bipush 36 dX3_digest_34 (v := 8) (by decide) rfl ?_
                              refine XW.icmp_geN 58 39 5 8 dX3_digest_36 (by decide) rfl rfl rfl (by omega) (by omega) (fun c_36 => ?_) (fun c_36 => ?_)
                              · exact absurd c_36 (by decide)
                              · refine XW.ldc2 42 k3_227 dX3_digest_39 rfl ?_
                                refine XW.lload_n 43 dX3_digest_42 rfl rfl ?_
                                refine XW.lmul 44 dX3_digest_43 rfl ?_
                                refine XW.aload_n 45 dX3_digest_44 rfl rfl ?_
                                refine XW.iload_n 46 dX3_digest_45 rfl rfl ?_
                                refine XW.callV 49 (vs := [.int 5]) (rest := [.long (31 * (dg (dg (dg (dg (dg (dg (dg (dg (dg (dg (dg (dg (dg 2619 (Z.2.1 44 0)) (Z.2.1 44 1)) (Z.2.1 44 2)) (Z.2.1 5 0)) (Z.2.1 5 1)) (Z.2.1 5 2)) (Z.1 45 1)) (Z.1 0 2)) (Z.1 1 0)) (bcF (fbF (Z.2.1 2) (Z.2.1 3) (Z.2.1 5) c))) (Z.1 1 5)) (Z.1 1 7)) (cbF (Z.2.1 4) 4)))]) (mcr := 0) (msr := 0) c3_232 dX3_digest_46 rfl rfl (by decide) (Nat.le_of_ble_eq_true rfl) rfl rfl (Nat.le_of_ble_eq_true rfl) rfl (t_count_5 ci) (fun r h1 hq => ?_)
                                obtain ⟨rfl, rfl⟩ := hq
                                refine XW.i2l 50 dX3_digest_49 rfl ?_
                                refine XW.ladd 51 dX3_digest_50 rfl ?_
                                refine XW.lstore_n 52 (L' := [some (.ref 0), some (.long ((31 * (dg (dg (dg (dg (dg (dg (dg (dg (dg (dg (dg (dg (dg 2619 (Z.2.1 44 0)) (Z.2.1 44 1)) (Z.2.1 44 2)) (Z.2.1 5 0)) (Z.2.1 5 1)) (Z.2.1 5 2)) (Z.1 45 1)) (Z.1 0 2)) (Z.1 1 0)) (bcF (fbF (Z.2.1 2) (Z.2.1 3) (Z.2.1 5) c))) (Z.1 1 5)) (Z.1 1 7)) (cbF (Z.2.1 4) 4))) + ((Z.2.1 3 0).toInt64))), none, some (.int 5), none]) dX3_digest_51 (by decide) rfl rfl rfl ?_
                                refine XW.eqs (L' := [some (.ref 0), some (.long (dg (dg (dg (dg (dg (dg (dg (dg (dg (dg (dg (dg (dg (dg 2619 (Z.2.1 44 0)) (Z.2.1 44 1)) (Z.2.1 44 2)) (Z.2.1 5 0)) (Z.2.1 5 1)) (Z.2.1 5 2)) (Z.1 45 1)) (Z.1 0 2)) (Z.1 1 0)) (bcF (fbF (Z.2.1 2) (Z.2.1 3) (Z.2.1 5) c))) (Z.1 1 5)) (Z.1 1 7)) (cbF (Z.2.1 4) 4)) (Z.2.1 3 0))), none, some (.int 5), none]) rfl rfl rfl ?_
                                refine XW.iinc 55 (y := 6) (L' := [some (.ref 0), some (.long (dg (dg (dg (dg (dg (dg (dg (dg (dg (dg (dg (dg (dg (dg 2619 (Z.2.1 44 0)) (Z.2.1 44 1)) (Z.2.1 44 2)) (Z.2.1 5 0)) (Z.2.1 5 1)) (Z.2.1 5 2)) (Z.1 45 1)) (Z.1 0 2)) (Z.1 1 0)) (bcF (fbF (Z.2.1 2) (Z.2.1 3) (Z.2.1 5) c))) (Z.1 1 5)) (Z.1 1 7)) (cbF (Z.2.1 4) 4)) (Z.2.1 3 0))), none, some (.int 6), none]) dX3_digest_52 rfl (by decide) (by decide) rfl rfl rfl ?_
                                refine XW.goto 33 dX3_digest_55 (by decide) ?_
                                refine XW.iload_n 34 dX3_digest_33 rfl rfl ?_
                                refine XW.bipush 36 dX3_digest_34 (v := 8) (by decide) rfl ?_
                                refine XW.icmp_geN 58 39 6 8 dX3_digest_36 (by decide) rfl rfl rfl (by omega) (by omega) (fun c_36 => ?_) (fun c_36 => ?_)
                                · exact absurd c_36 (by decide)
                                · refine XW.ldc2 42 k3_227 dX3_digest_39 rfl ?_
                                  refine XW.lload_n 43 dX3_digest_42 rfl rfl ?_
                                  refine XW.lmul 44 dX3_digest_43 rfl ?_
                                  refine XW.aload_n 45 dX3_digest_44 rfl rfl ?_
                                  refine XW.iload_n 46 dX3_digest_45 rfl rfl ?_
                                  refine XW.callV 49 (vs := [.int 6]) (rest := [.long (31 * (dg (dg (dg (dg (dg (dg (dg (dg (dg (dg (dg (dg (dg (dg 2619 (Z.2.1 44 0)) (Z.2.1 44 1)) (Z.2.1 44 2)) (Z.2.1 5 0)) (Z.2.1 5 1)) (Z.2.1 5 2)) (Z.1 45 1)) (Z.1 0 2)) (Z.1 1 0)) (bcF (fbF (Z.2.1 2) (Z.2.1 3) (Z.2.1 5) c))) (Z.1 1 5)) (Z.1 1 7)) (cbF (Z.2.1 4) 4)) (Z.2.1 3 0)))]) (mcr := 0) (msr := 0) c3_232 dX3_digest_46 rfl rfl (by decide) (Nat.le_of_ble_eq_true rfl) rfl rfl (Nat.le_of_ble_eq_true rfl) rfl (t_count_6 ci) (fun r h1 hq => ?_)
                                  obtain ⟨rfl, rfl⟩ := hq
                                  refine XW.i2l 50 dX3_digest_49 rfl ?_
                                  refine XW.ladd 51 dX3_digest_50 rfl ?_
                                  refine XW.lstore_n 52 (L' := [some (.ref 0), some (.long ((31 * (dg (dg (dg (dg (dg (dg (dg (dg (dg (dg (dg (dg (dg (dg 2619 (Z.2.1 44 0)) (Z.2.1 44 1)) (Z.2.1 44 2)) (Z.2.1 5 0)) (Z.2.1 5 1)) (Z.2.1 5 2)) (Z.1 45 1)) (Z.1 0 2)) (Z.1 1 0)) (bcF (fbF (Z.2.1 2) (Z.2.1 3) (Z.2.1 5) c))) (Z.1 1 5)) (Z.1 1 7)) (cbF (Z.2.1 4) 4)) (Z.2.1 3 0))) + ((Z.2.1 3 1).toInt64))), none, some (.int 6), none]) dX3_digest_51 (by decide) rfl rfl rfl ?_
                                  refine XW.eqs (L' := [some (.ref 0), some (.long (dg (dg (dg (dg (dg (dg (dg (dg (dg (dg (dg (dg (dg (dg (dg 2619 (Z.2.1 44 0)) (Z.2.1 44 1)) (Z.2.1 44 2)) (Z.2.1 5 0)) (Z.2.1 5 1)) (Z.2.1 5 2)) (Z.1 45 1)) (Z.1 0 2)) (Z.1 1 0)) (bcF (fbF (Z.2.1 2) (Z.2.1 3) (Z.2.1 5) c))) (Z.1 1 5)) (Z.1 1 7)) (cbF (Z.2.1 4) 4)) (Z.2.1 3 0)) (Z.2.1 3 1))), none, some (.int 6), none]) rfl rfl rfl ?_
                                  refine XW.iinc 55 (y := 7) (L' := [some (.ref 0), some (.long (dg (dg (dg (dg (dg (dg (dg (dg (dg (dg (dg (dg (dg (dg (dg 2619 (Z.2.1 44 0)) (Z.2.1 44 1)) (Z.2.1 44 2)) (Z.2.1 5 0)) (Z.2.1 5 1)) (Z.2.1 5 2)) (Z.1 45 1)) (Z.1 0 2)) (Z.1 1 0)) (bcF (fbF (Z.2.1 2) (Z.2.1 3) (Z.2.1 5) c))) (Z.1 1 5)) (Z.1 1 7)) (cbF (Z.2.1 4) 4)) (Z.2.1 3 0)) (Z.2.1 3 1))), none, some (.int 7), none]) dX3_digest_52 rfl (by decide) (by decide) rfl rfl rfl ?_
                                  refine XW.goto 33 dX3_digest_55 (by decide) ?_
                                  refine XW.iload_n 34 dX3_digest_33 rfl rfl ?_
                                  refine XW.bipush 36 dX3_digest_34 (v := 8) (by decide) rfl ?_
                                  refine XW.icmp_geN 58 39 7 8 dX3_digest_36 (by decide) rfl rfl rfl (by omega) (by omega) (fun c_36 => ?_) (fun c_36 => ?_)
                                  · exact absurd c_36 (by decide)
                                  · refine XW.ldc2 42 k3_227 dX3_digest_39 rfl ?_
                                    refine XW.lload_n 43 dX3_digest_42 rfl rfl ?_
                                    refine XW.lmul 44 dX3_digest_43 rfl ?_
                                    refine XW.aload_n 45 dX3_digest_44 rfl rfl ?_
                                    refine XW.iload_n 46 dX3_digest_45 rfl rfl ?_
                                    refine XW.callV 49 (vs := [.int 7]) (rest := [.long (31 * (dg (dg (dg (dg (dg (dg (dg (dg (dg (dg (dg (dg (dg (dg (dg 2619 (Z.2.1 44 0)) (Z.2.1 44 1)) (Z.2.1 44 2)) (Z.2.1 5 0)) (Z.2.1 5 1)) (Z.2.1 5 2)) (Z.1 45 1)) (Z.1 0 2)) (Z.1 1 0)) (bcF (fbF (Z.2.1 2) (Z.2.1 3) (Z.2.1 5) c))) (Z.1 1 5)) (Z.1 1 7)) (cbF (Z.2.1 4) 4)) (Z.2.1 3 0)) (Z.2.1 3 1)))]) (mcr := 0) (msr := 0) c3_232 dX3_digest_46 rfl rfl (by decide) (Nat.le_of_ble_eq_true rfl) rfl rfl (Nat.le_of_ble_eq_true rfl) rfl (t_count_7 ci) (fun r h1 hq => ?_)
                                    obtain ⟨rfl, rfl⟩ := hq
                                    refine XW.i2l 50 dX3_digest_49 rfl ?_
                                    refine XW.ladd 51 dX3_digest_50 rfl ?_
                                    refine XW.lstore_n 52 (L' := [some (.ref 0), some (.long ((31 * (dg (dg (dg (dg (dg (dg (dg (dg (dg (dg (dg (dg (dg (dg (dg 2619 (Z.2.1 44 0)) (Z.2.1 44 1)) (Z.2.1 44 2)) (Z.2.1 5 0)) (Z.2.1 5 1)) (Z.2.1 5 2)) (Z.1 45 1)) (Z.1 0 2)) (Z.1 1 0)) (bcF (fbF (Z.2.1 2) (Z.2.1 3) (Z.2.1 5) c))) (Z.1 1 5)) (Z.1 1 7)) (cbF (Z.2.1 4) 4)) (Z.2.1 3 0)) (Z.2.1 3 1))) + ((Z.2.1 3 2).toInt64))), none, some (.int 7), none]) dX3_digest_51 (by decide) rfl rfl rfl ?_
                                    refine XW.eqs (L' := [some (.ref 0), some (.long (dg (dg (dg (dg (dg (dg (dg (dg (dg (dg (dg (dg (dg (dg (dg (dg 2619 (Z.2.1 44 0)) (Z.2.1 44 1)) (Z.2.1 44 2)) (Z.2.1 5 0)) (Z.2.1 5 1)) (Z.2.1 5 2)) (Z.1 45 1)) (Z.1 0 2)) (Z.1 1 0)) (bcF (fbF (Z.2.1 2) (Z.2.1 3) (Z.2.1 5) c))) (Z.1 1 5)) (Z.1 1 7)) (cbF (Z.2.1 4) 4)) (Z.2.1 3 0)) (Z.2.1 3 1)) (Z.2.1 3 2))), none, some (.int 7), none]) rfl rfl rfl ?_
                                    refine XW.iinc 55 (y := 8) (L' := [some (.ref 0), some (.long (dg (dg (dg (dg (dg (dg (dg (dg (dg (dg (dg (dg (dg (dg (dg (dg 2619 (Z.2.1 44 0)) (Z.2.1 44 1)) (Z.2.1 44 2)) (Z.2.1 5 0)) (Z.2.1 5 1)) (Z.2.1 5 2)) (Z.1 45 1)) (Z.1 0 2)) (Z.1 1 0)) (bcF (fbF (Z.2.1 2) (Z.2.1 3) (Z.2.1 5) c))) (Z.1 1 5)) (Z.1 1 7)) (cbF (Z.2.1 4) 4)) (Z.2.1 3 0)) (Z.2.1 3 1)) (Z.2.1 3 2))), none, some (.int 8), none]) dX3_digest_52 rfl (by decide) (by decide) rfl rfl rfl ?_
                                    refine XW.goto 33 dX3_digest_55 (by decide) ?_
                                    refine XW.iload_n 34 dX3_digest_33 rfl rfl ?_
                                    refine XW.bipush 36 dX3_digest_34 (v := 8) (by decide) rfl ?_
                                    refine XW.icmp_geN 58 39 8 8 dX3_digest_36 (by decide) rfl rfl rfl (by omega) (by omega) (fun c_36 => ?_) (fun c_36 => ?_)
                                    · refine XW.iconst 59 dX3_digest_58 (v := 0) (by decide) rfl ?_
                                      refine XW.istore_n 60 (L' := [some (.ref 0), some (.long (dg (dg (dg (dg (dg (dg (dg (dg (dg (dg (dg (dg (dg (dg (dg (dg 2619 (Z.2.1 44 0)) (Z.2.1 44 1)) (Z.2.1 44 2)) (Z.2.1 5 0)) (Z.2.1 5 1)) (Z.2.1 5 2)) (Z.1 45 1)) (Z.1 0 2)) (Z.1 1 0)) (bcF (fbF (Z.2.1 2) (Z.2.1 3) (Z.2.1 5) c))) (Z.1 1 5)) (Z.1 1 7)) (cbF (Z.2.1 4) 4)) (Z.2.1 3 0)) (Z.2.1 3 1)) (Z.2.1 3 2))), none, some (.int 0), none]) dX3_digest_59 (by decide) rfl rfl rfl ?_
                                      exact l_dig_60 ci (D := dgT (Z.2.1 44 0) (Z.2.1 44 1) (Z.2.1 44 2) (Z.2.1 5 0) (Z.2.1 5 1) (Z.2.1 5 2) (Z.1 45 1) (Z.1 0 2) (Z.1 1 0) (bcF (fbF (Z.2.1 2) (Z.2.1 3) (Z.2.1 5) c)) (Z.1 1 5) (Z.1 1 7) (cbF (Z.2.1 4) 4) (Z.2.1 3 0) (Z.2.1 3 1) (Z.2.1 3 2)) (c + 1) 0 (by omega) (by omega)
                                    · exact absurd c_36 (by decide)
                  · exact absurd c_9 (by decide)
set_option maxHeartbeats 400000 in
set_option maxRecDepth 100000 in
theorem k_mix {Z : xZ} (v : Int64) : XC mX4_mix 0 0 0 [.ref 53, .long v] (HP Z) (fun r h' => r = none ∧ h' = HP (sJ Z (31 * Z.2.2.2.2 + v))) := by
  show XW mX4_mix 0 0 0 0 [some (.ref 53), some (.long v), none] [] (HP Z) _
  refine XW.aload_n 1 dX4_mix_0 rfl rfl ?_
  refine XW.ldc2 4 k4_249 dX4_mix_1 rfl ?_
  refine XW.aload_n 5 dX4_mix_4 rfl rfl ?_
  refine XW.getf 8 (v := .long Z.2.2.2.2) f4_251 dX4_mix_5 rfl rfl rfl ?_
  refine XW.lmul 9 dX4_mix_8 rfl ?_
  refine XW.lload_n 10 dX4_mix_9 rfl rfl ?_
  refine XW.ladd 11 dX4_mix_10 rfl ?_
  refine XW.putf 14 (h' := HP (sJ Z ((31 * Z.2.2.2.2) + v))) (p4_251 _) dX4_mix_11 rfl (Nat.le_of_ble_eq_true rfl) (xfit_l _) rfl rfl ?_
  exact XW.vret dX4_mix_14 trivial (⟨rfl, rfl⟩)
theorem itF_congr {α : Type} {f g : Nat → α → α} {a : α} : ∀ n, (∀ k, k < n → ∀ s, f k s = g k s) → itF f a n = itF g a n
  | 0, _ => rfl
  | n + 1, h => by
    show f n (itF f a n) = g n (itF g a n)
    rw [itF_congr n (fun k hk => h k (by omega)), h n (by omega)]
theorem dgC_cut {N row : Nat → Int32} {fx : Int32} {l i : Nat} (hi : i < 20) (h : Int64) : dgC (mR N) (mG N) (mL N) row fx l i h = dgC (nR N) (nG N) (nL N) row fx l i h := by
  unfold dgC; rw [fit_cut hi, light_cut hi, nR_eq (by omega), nR_eq (by omega), nR_eq (by omega)]
set_option maxHeartbeats 400000 in
set_option maxRecDepth 100000 in
theorem l_mdig_176 {Z : xZ} {c l : Nat} (mi : MI (Z.2.1 54) c l) {D : Int64} : XW mX4_digest 7 0 0 176 [some (.ref 53), some (.int (nI l)), none] [] (HP (sJ Z (itF (fun k h => dg h ((mP (Z.2.1 54)) k)) (itF (fun k h => dg h ((nE (Z.2.1 54)) k)) (itF (dgC (nR (Z.2.1 54)) (nG (Z.2.1 54)) (nL (Z.2.1 54)) (mP (Z.2.1 54)) (Z.2.1 54 61) l) D c) 52) l))) (fun r h' => r = some (.long (dgA D (apG (nE (Z.2.1 54)) (nR (Z.2.1 54))) (nR (Z.2.1 54)) (nG (Z.2.1 54)) (nE (Z.2.1 54)) (nL (Z.2.1 54)) (mP (Z.2.1 54)) (Z.2.1 54 61) c l)) ∧ ∃ j f8 G S, h' = HP (sJ (sA (sF (sI Z 53 8 f8) 59 G) 60 S) j)) := by
  obtain ⟨hc, c20, hl, l8, ok, hf, hdi, hfb⟩ := id mi
  refine XW.aload_n 177 dX4_digest_176 rfl rfl ?_
  refine XW.aload_n 178 dX4_digest_177 rfl rfl ?_
  refine XW.callV 181 (vs := []) (rest := [.ref 53]) (mcr := 0) (msr := 0) c4_174 dX4_digest_178 rfl rfl (by decide) (Nat.le_of_ble_eq_true rfl) rfl rfl (Nat.le_of_ble_eq_true rfl) rfl (k_leastNow (Z := sJ Z (itF (fun k h => dg h ((mP (Z.2.1 54)) k)) (itF (fun k h => dg h ((nE (Z.2.1 54)) k)) (itF (dgC (nR (Z.2.1 54)) (nG (Z.2.1 54)) (nL (Z.2.1 54)) (mP (Z.2.1 54)) (Z.2.1 54 61) l) D c) 52) l)) mi) (fun r h1 hq => ?_)
  obtain ⟨rfl, G, S, rfl⟩ := hq
  refine XW.eqs (h' := HP (sJ (sA (sF (sI Z 53 8 (fbF (nR (Z.2.1 54)) (nG (Z.2.1 54)) (nL (Z.2.1 54)) c)) 59 G) 60 S) (itF (fun k h => dg h ((mP (Z.2.1 54)) k)) (itF (fun k h => dg h ((nE (Z.2.1 54)) k)) (itF (dgC (nR (Z.2.1 54)) (nG (Z.2.1 54)) (nL (Z.2.1 54)) (mP (Z.2.1 54)) (Z.2.1 54 61) l) D c) 52) l))) rfl rfl rfl ?_
  refine XW.eqs (st' := [.int ((lsV (apG (nE (Z.2.1 54)) (nR (Z.2.1 54))) (rv (mP (Z.2.1 54))) l).toInt32), .ref 53]) rfl rfl rfl ?_
  refine XW.i2l 182 dX4_digest_181 rfl ?_
  refine XW.callV 185 (vs := [.long (((lsV (apG (nE (Z.2.1 54)) (nR (Z.2.1 54))) (rv (mP (Z.2.1 54))) l).toInt32).toInt64)]) (rest := []) (mcr := 0) (msr := 0) c4_257 dX4_digest_182 rfl rfl (by decide) (Nat.le_of_ble_eq_true rfl) rfl rfl (Nat.le_of_ble_eq_true rfl) rfl (k_mix (Z := sJ (sA (sF (sI Z 53 8 (fbF (nR (Z.2.1 54)) (nG (Z.2.1 54)) (nL (Z.2.1 54)) c)) 59 G) 60 S) (itF (fun k h => dg h ((mP (Z.2.1 54)) k)) (itF (fun k h => dg h ((nE (Z.2.1 54)) k)) (itF (dgC (nR (Z.2.1 54)) (nG (Z.2.1 54)) (nL (Z.2.1 54)) (mP (Z.2.1 54)) (Z.2.1 54 61) l) D c) 52) l)) _) (fun r h1 hq => ?_)
  obtain ⟨rfl, rfl⟩ := hq
  refine XW.eqs (h' := HP (sJ (sA (sF (sI Z 53 8 (fbF (nR (Z.2.1 54)) (nG (Z.2.1 54)) (nL (Z.2.1 54)) c)) 59 G) 60 S) (dg (itF (fun k h => dg h ((mP (Z.2.1 54)) k)) (itF (fun k h => dg h ((nE (Z.2.1 54)) k)) (itF (dgC (nR (Z.2.1 54)) (nG (Z.2.1 54)) (nL (Z.2.1 54)) (mP (Z.2.1 54)) (Z.2.1 54 61) l) D c) 52) l) ((lsV (apG (nE (Z.2.1 54)) (nR (Z.2.1 54))) (rv (mP (Z.2.1 54))) l).toInt32)))) rfl rfl rfl ?_
  refine XW.aload_n 186 dX4_digest_185 rfl rfl ?_
  refine XW.aload_n 187 dX4_digest_186 rfl rfl ?_
  refine XW.callV 190 (vs := []) (rest := [.ref 53]) (mcr := 0) (msr := 0) c4_177 dX4_digest_187 rfl rfl (by decide) (Nat.le_of_ble_eq_true rfl) rfl rfl (Nat.le_of_ble_eq_true rfl) rfl (k_nearestNow (Z := sJ (sA (sF (sI Z 53 8 (fbF (nR (Z.2.1 54)) (nG (Z.2.1 54)) (nL (Z.2.1 54)) c)) 59 G) 60 S) (dg (itF (fun k h => dg h ((mP (Z.2.1 54)) k)) (itF (fun k h => dg h ((nE (Z.2.1 54)) k)) (itF (dgC (nR (Z.2.1 54)) (nG (Z.2.1 54)) (nL (Z.2.1 54)) (mP (Z.2.1 54)) (Z.2.1 54 61) l) D c) 52) l) ((lsV (apG (nE (Z.2.1 54)) (nR (Z.2.1 54))) (rv (mP (Z.2.1 54))) l).toInt32))) mi) (fun r h1 hq => ?_)
  obtain ⟨rfl, G2, rfl⟩ := hq
  refine XW.eqs (h' := HP (sJ (sA (sF (sI Z 53 8 (fbF (nR (Z.2.1 54)) (nG (Z.2.1 54)) (nL (Z.2.1 54)) c)) 59 G2) 60 S) (dg (itF (fun k h => dg h ((mP (Z.2.1 54)) k)) (itF (fun k h => dg h ((nE (Z.2.1 54)) k)) (itF (dgC (nR (Z.2.1 54)) (nG (Z.2.1 54)) (nL (Z.2.1 54)) (mP (Z.2.1 54)) (Z.2.1 54 61) l) D c) 52) l) ((lsV (apG (nE (Z.2.1 54)) (nR (Z.2.1 54))) (rv (mP (Z.2.1 54))) l).toInt32)))) rfl rfl rfl ?_
  refine XW.eqs (st' := [.int ((npO (apG (nE (Z.2.1 54)) (nR (Z.2.1 54))) (rv (mP (Z.2.1 54))) l l).1), .ref 53]) rfl rfl rfl ?_
  refine XW.i2l 191 dX4_digest_190 rfl ?_
  refine XW.callV 194 (vs := [.long (((npO (apG (nE (Z.2.1 54)) (nR (Z.2.1 54))) (rv (mP (Z.2.1 54))) l l).1).toInt64)]) (rest := []) (mcr := 0) (msr := 0) c4_257 dX4_digest_191 rfl rfl (by decide) (Nat.le_of_ble_eq_true rfl) rfl rfl (Nat.le_of_ble_eq_true rfl) rfl (k_mix (Z := sJ (sA (sF (sI Z 53 8 (fbF (nR (Z.2.1 54)) (nG (Z.2.1 54)) (nL (Z.2.1 54)) c)) 59 G2) 60 S) (dg (itF (fun k h => dg h ((mP (Z.2.1 54)) k)) (itF (fun k h => dg h ((nE (Z.2.1 54)) k)) (itF (dgC (nR (Z.2.1 54)) (nG (Z.2.1 54)) (nL (Z.2.1 54)) (mP (Z.2.1 54)) (Z.2.1 54 61) l) D c) 52) l) ((lsV (apG (nE (Z.2.1 54)) (nR (Z.2.1 54))) (rv (mP (Z.2.1 54))) l).toInt32))) _) (fun r h1 hq => ?_)
  obtain ⟨rfl, rfl⟩ := hq
  refine XW.eqs (h' := HP (sJ (sA (sF (sI Z 53 8 (fbF (nR (Z.2.1 54)) (nG (Z.2.1 54)) (nL (Z.2.1 54)) c)) 59 G2) 60 S) (dg (dg (itF (fun k h => dg h ((mP (Z.2.1 54)) k)) (itF (fun k h => dg h ((nE (Z.2.1 54)) k)) (itF (dgC (nR (Z.2.1 54)) (nG (Z.2.1 54)) (nL (Z.2.1 54)) (mP (Z.2.1 54)) (Z.2.1 54 61) l) D c) 52) l) ((lsV (apG (nE (Z.2.1 54)) (nR (Z.2.1 54))) (rv (mP (Z.2.1 54))) l).toInt32)) ((npO (apG (nE (Z.2.1 54)) (nR (Z.2.1 54))) (rv (mP (Z.2.1 54))) l l).1)))) rfl rfl rfl ?_
  refine XW.aload_n 195 dX4_digest_194 rfl rfl ?_
  refine XW.getf 198 (v := .long (dg (dg (itF (fun k h => dg h ((mP (Z.2.1 54)) k)) (itF (fun k h => dg h ((nE (Z.2.1 54)) k)) (itF (dgC (nR (Z.2.1 54)) (nG (Z.2.1 54)) (nL (Z.2.1 54)) (mP (Z.2.1 54)) (Z.2.1 54 61) l) D c) 52) l) ((lsV (apG (nE (Z.2.1 54)) (nR (Z.2.1 54))) (rv (mP (Z.2.1 54))) l).toInt32)) ((npO (apG (nE (Z.2.1 54)) (nR (Z.2.1 54))) (rv (mP (Z.2.1 54))) l l).1))) f4_251 dX4_digest_195 rfl rfl rfl ?_
  exact XW.lret dX4_digest_198 trivial (⟨rfl, _, _, G2, S, rfl⟩)
set_option maxHeartbeats 400000 in
set_option maxRecDepth 100000 in
theorem l_mdig_145 {Z : xZ} {c l : Nat} (mi : MI (Z.2.1 54) c l) {D : Int64} : ∀ (n : Nat) (k : Nat), k ≤ l → l < k + n → XW mX4_digest 7 0 0 145 [some (.ref 53), some (.int (nI k)), none] [] (HP (sJ Z (itF (fun k h => dg h ((mP (Z.2.1 54)) k)) (itF (fun k h => dg h ((nE (Z.2.1 54)) k)) (itF (dgC (nR (Z.2.1 54)) (nG (Z.2.1 54)) (nL (Z.2.1 54)) (mP (Z.2.1 54)) (Z.2.1 54 61) l) D c) 52) k))) (fun r h' => r = some (.long (dgA D (apG (nE (Z.2.1 54)) (nR (Z.2.1 54))) (nR (Z.2.1 54)) (nG (Z.2.1 54)) (nE (Z.2.1 54)) (nL (Z.2.1 54)) (mP (Z.2.1 54)) (Z.2.1 54 61) c l)) ∧ ∃ j f8 G S, h' = HP (sJ (sA (sF (sI Z 53 8 f8) 59 G) 60 S) j)) := by
  intro n
  induction n with
  | zero => intro k g0 g1; omega
  | succ n ih =>
    intro k g0 g1
    obtain ⟨hc, c20, hl, l8, ok, hf, hdi, hfb⟩ := id mi
    refine XW.iload_n 146 dX4_digest_145 rfl rfl ?_
    refine XW.aload_n 147 dX4_digest_146 rfl rfl ?_
    refine XW.getf 150 (v := .ref 54) f4_7 dX4_digest_147 rfl rfl rfl ?_
    refine XW.bipush 152 dX4_digest_150 (v := 120) (by decide) rfl ?_
    refine XW.iald 153 120 dX4_digest_152 rfl rfl (by omega) (by decide) rfl ?_
    refine XW.icmp_geN 176 156 k l dX4_digest_153 (by decide) rfl rfl hl (by omega) (by omega) (fun c_153 => ?_) (fun c_153 => ?_)
    · refine XW.eqs (L' := [some (.ref 53), some (.int (nI l)), none]) (h' := HP (sJ Z (itF (fun k h => dg h ((mP (Z.2.1 54)) k)) (itF (fun k h => dg h ((nE (Z.2.1 54)) k)) (itF (dgC (nR (Z.2.1 54)) (nG (Z.2.1 54)) (nL (Z.2.1 54)) (mP (Z.2.1 54)) (Z.2.1 54 61) l) D c) 52) l))) (by rw [show k = l by omega]) rfl (by rw [show k = l by omega]) ?_
      exact l_mdig_176 mi
    · refine XW.aload_n 157 dX4_digest_156 rfl rfl ?_
      refine XW.aload_n 158 dX4_digest_157 rfl rfl ?_
      refine XW.getf 161 (v := .ref 54) f4_7 dX4_digest_158 rfl rfl rfl ?_
      refine XW.bipush 163 dX4_digest_161 (v := 121) (by decide) rfl ?_
      refine XW.iload_n 164 dX4_digest_163 rfl rfl ?_
      refine XW.iadd 165 dX4_digest_164 rfl ?_
      refine XW.iald 166 (121 + k) dX4_digest_165 rfl (na rfl rfl) (by omega) (by decide) rfl ?_
      refine XW.i2l 167 dX4_digest_166 rfl ?_
      refine XW.callV 170 (vs := [.long ((Z.2.1 54 (121 + k)).toInt64)]) (rest := []) (mcr := 0) (msr := 0) c4_257 dX4_digest_167 rfl rfl (by decide) (Nat.le_of_ble_eq_true rfl) rfl rfl (Nat.le_of_ble_eq_true rfl) rfl (k_mix (Z := sJ Z (itF (fun k h => dg h ((mP (Z.2.1 54)) k)) (itF (fun k h => dg h ((nE (Z.2.1 54)) k)) (itF (dgC (nR (Z.2.1 54)) (nG (Z.2.1 54)) (nL (Z.2.1 54)) (mP (Z.2.1 54)) (Z.2.1 54 61) l) D c) 52) k)) _) (fun r h1 hq => ?_)
      obtain ⟨rfl, rfl⟩ := hq
      refine XW.eqs (h' := HP (sJ Z (dg (itF (fun k h => dg h ((mP (Z.2.1 54)) k)) (itF (fun k h => dg h ((nE (Z.2.1 54)) k)) (itF (dgC (nR (Z.2.1 54)) (nG (Z.2.1 54)) (nL (Z.2.1 54)) (mP (Z.2.1 54)) (Z.2.1 54 61) l) D c) 52) k) (Z.2.1 54 (121 + k))))) rfl rfl rfl ?_
      refine XW.iinc 173 (y := nI (k + 1)) (L' := [some (.ref 53), some (.int (nI (k + 1))), none]) dX4_digest_170 rfl (na rfl rfl) (by decide) rfl rfl rfl ?_
      refine XW.goto 145 dX4_digest_173 (by decide) ?_
      refine XW.eqs (L' := [some (.ref 53), some (.int (nI (k + 1))), none]) (h' := HP (sJ Z (itF (fun k h => dg h ((mP (Z.2.1 54)) k)) (itF (fun k h => dg h ((nE (Z.2.1 54)) k)) (itF (dgC (nR (Z.2.1 54)) (nG (Z.2.1 54)) (nL (Z.2.1 54)) (mP (Z.2.1 54)) (Z.2.1 54 61) l) D c) 52) (k + 1)))) (by rfl) rfl (by rfl) ?_
      exact ih (k + 1) (by omega) (by omega)
set_option maxHeartbeats 400000 in
set_option maxRecDepth 100000 in
theorem l_mdig_117 {Z : xZ} {c l : Nat} (mi : MI (Z.2.1 54) c l) {D : Int64} : ∀ (n : Nat) (k : Nat), k ≤ 52 → 52 < k + n → XW mX4_digest 7 0 0 117 [some (.ref 53), some (.int (nI k)), none] [] (HP (sJ Z (itF (fun k h => dg h ((nE (Z.2.1 54)) k)) (itF (dgC (nR (Z.2.1 54)) (nG (Z.2.1 54)) (nL (Z.2.1 54)) (mP (Z.2.1 54)) (Z.2.1 54 61) l) D c) k))) (fun r h' => r = some (.long (dgA D (apG (nE (Z.2.1 54)) (nR (Z.2.1 54))) (nR (Z.2.1 54)) (nG (Z.2.1 54)) (nE (Z.2.1 54)) (nL (Z.2.1 54)) (mP (Z.2.1 54)) (Z.2.1 54 61) c l)) ∧ ∃ j f8 G S, h' = HP (sJ (sA (sF (sI Z 53 8 f8) 59 G) 60 S) j)) := by
  intro n
  induction n with
  | zero => intro k g0 g1; omega
  | succ n ih =>
    intro k g0 g1
    obtain ⟨hc, c20, hl, l8, ok, hf, hdi, hfb⟩ := id mi
    refine XW.iload_n 118 dX4_digest_117 rfl rfl ?_
    refine XW.bipush 120 dX4_digest_118 (v := 52) (by decide) rfl ?_
    refine XW.icmp_geN 143 123 k 52 dX4_digest_120 (by decide) rfl rfl rfl (by omega) (by omega) (fun c_120 => ?_) (fun c_120 => ?_)
    · refine XW.iconst 144 dX4_digest_143 (v := 0) (by decide) rfl ?_
      refine XW.istore_n 145 (L' := [some (.ref 53), some (.int 0), none]) dX4_digest_144 (by decide) rfl rfl rfl ?_
      refine XW.eqs (L' := [some (.ref 53), some (.int (nI 0)), none]) (h' := HP (sJ Z (itF (fun k h => dg h ((mP (Z.2.1 54)) k)) (itF (fun k h => dg h ((nE (Z.2.1 54)) k)) (itF (dgC (nR (Z.2.1 54)) (nG (Z.2.1 54)) (nL (Z.2.1 54)) (mP (Z.2.1 54)) (Z.2.1 54 61) l) D c) 52) 0))) (by rfl) rfl (by rw [show k = 52 by omega]; rfl) ?_
      exact l_mdig_145 mi (l + 1) 0 (by omega) (by omega)
    · refine XW.aload_n 124 dX4_digest_123 rfl rfl ?_
      refine XW.aload_n 125 dX4_digest_124 rfl rfl ?_
      refine XW.getf 128 (v := .ref 54) f4_7 dX4_digest_125 rfl rfl rfl ?_
      refine XW.bipush 130 dX4_digest_128 (v := 62) (by decide) rfl ?_
      refine XW.iload_n 131 dX4_digest_130 rfl rfl ?_
      refine XW.iadd 132 dX4_digest_131 rfl ?_
      refine XW.iald 133 (62 + k) dX4_digest_132 rfl (na rfl rfl) (by omega) (by decide) rfl ?_
      refine XW.i2l 134 dX4_digest_133 rfl ?_
      refine XW.callV 137 (vs := [.long ((Z.2.1 54 (62 + k)).toInt64)]) (rest := []) (mcr := 0) (msr := 0) c4_257 dX4_digest_134 rfl rfl (by decide) (Nat.le_of_ble_eq_true rfl) rfl rfl (Nat.le_of_ble_eq_true rfl) rfl (k_mix (Z := sJ Z (itF (fun k h => dg h ((nE (Z.2.1 54)) k)) (itF (dgC (nR (Z.2.1 54)) (nG (Z.2.1 54)) (nL (Z.2.1 54)) (mP (Z.2.1 54)) (Z.2.1 54 61) l) D c) k)) _) (fun r h1 hq => ?_)
      obtain ⟨rfl, rfl⟩ := hq
      refine XW.eqs (h' := HP (sJ Z (dg (itF (fun k h => dg h ((nE (Z.2.1 54)) k)) (itF (dgC (nR (Z.2.1 54)) (nG (Z.2.1 54)) (nL (Z.2.1 54)) (mP (Z.2.1 54)) (Z.2.1 54 61) l) D c) k) (Z.2.1 54 (62 + k))))) rfl rfl rfl ?_
      refine XW.iinc 140 (y := nI (k + 1)) (L' := [some (.ref 53), some (.int (nI (k + 1))), none]) dX4_digest_137 rfl (na rfl rfl) (by decide) rfl rfl rfl ?_
      refine XW.goto 117 dX4_digest_140 (by decide) ?_
      refine XW.eqs (L' := [some (.ref 53), some (.int (nI (k + 1))), none]) (h' := HP (sJ Z (itF (fun k h => dg h ((nE (Z.2.1 54)) k)) (itF (dgC (nR (Z.2.1 54)) (nG (Z.2.1 54)) (nL (Z.2.1 54)) (mP (Z.2.1 54)) (Z.2.1 54 61) l) D c) (k + 1)))) (by rfl) rfl (by rw [show itF (fun k h => dg h ((nE (Z.2.1 54)) k)) (itF (dgC (nR (Z.2.1 54)) (nG (Z.2.1 54)) (nL (Z.2.1 54)) (mP (Z.2.1 54)) (Z.2.1 54 61) l) D c) (k + 1) = dg (itF (fun k h => dg h ((nE (Z.2.1 54)) k)) (itF (dgC (nR (Z.2.1 54)) (nG (Z.2.1 54)) (nL (Z.2.1 54)) (mP (Z.2.1 54)) (Z.2.1 54 61) l) D c) k) ((nE (Z.2.1 54)) k) from rfl, nE_eq (show k < 52 by omega)]; rfl) ?_
      exact ih (k + 1) (by omega) (by omega)
set_option maxHeartbeats 400000 in
set_option maxRecDepth 100000 in
theorem l_mdig_57 {Z : xZ} {c l : Nat} (mi : MI (Z.2.1 54) c l) {D : Int64} : ∀ (n : Nat) (i : Nat), i ≤ c → c < i + n → XW mX4_digest 7 0 0 57 [some (.ref 53), some (.int (nI i)), none] [] (HP (sJ Z (itF (dgC (mR (Z.2.1 54)) (mG (Z.2.1 54)) (mL (Z.2.1 54)) (mP (Z.2.1 54)) (Z.2.1 54 61) l) D i))) (fun r h' => r = some (.long (dgA D (apG (nE (Z.2.1 54)) (nR (Z.2.1 54))) (nR (Z.2.1 54)) (nG (Z.2.1 54)) (nE (Z.2.1 54)) (nL (Z.2.1 54)) (mP (Z.2.1 54)) (Z.2.1 54 61) c l)) ∧ ∃ j f8 G S, h' = HP (sJ (sA (sF (sI Z 53 8 f8) 59 G) 60 S) j)) := by
  intro n
  induction n with
  | zero => intro i g0 g1; omega
  | succ n ih =>
    intro i g0 g1
    obtain ⟨hc, c20, hl, l8, ok, hf, hdi, hfb⟩ := id mi
    refine XW.iload_n 58 dX4_digest_57 rfl rfl ?_
    refine XW.aload_n 59 dX4_digest_58 rfl rfl ?_
    refine XW.getf 62 (v := .ref 54) f4_7 dX4_digest_59 rfl rfl rfl ?_
    refine XW.iconst 63 dX4_digest_62 (v := 0) (by decide) rfl ?_
    refine XW.iald 64 0 dX4_digest_63 rfl rfl (by omega) (by decide) rfl ?_
    refine XW.icmp_geN 115 67 i c dX4_digest_64 (by decide) rfl rfl hc (by omega) (by omega) (fun c_64 => ?_) (fun c_64 => ?_)
    · refine XW.iconst 116 dX4_digest_115 (v := 0) (by decide) rfl ?_
      refine XW.istore_n 117 (L' := [some (.ref 53), some (.int 0), none]) dX4_digest_116 (by decide) rfl rfl rfl ?_
      refine XW.eqs (L' := [some (.ref 53), some (.int (nI 0)), none]) (h' := HP (sJ Z (itF (fun k h => dg h ((nE (Z.2.1 54)) k)) (itF (dgC (nR (Z.2.1 54)) (nG (Z.2.1 54)) (nL (Z.2.1 54)) (mP (Z.2.1 54)) (Z.2.1 54 61) l) D c) 0))) (by rfl) rfl (by rw [show i = c by omega, itF_congr c (fun k hk s => dgC_cut (by omega) s)]; rfl) ?_
      exact l_mdig_117 mi 53 0 (by omega) (by omega)
    · refine XW.iconst 68 dX4_digest_67 (v := 0) (by decide) rfl ?_
      refine XW.istore_n 69 (L' := [some (.ref 53), some (.int (nI i)), some (.int 0)]) dX4_digest_68 (by decide) rfl rfl rfl ?_
      refine XW.iload_n 70 dX4_digest_69 rfl rfl ?_
      refine XW.bipush 72 dX4_digest_70 (v := 6) (by decide) rfl ?_
      refine XW.icmp_geN 92 75 0 6 dX4_digest_72 (by decide) rfl rfl rfl (by omega) (by omega) (fun c_72 => ?_) (fun c_72 => ?_)
      · exact absurd c_72 (by decide)
      · refine XW.aload_n 76 dX4_digest_75 rfl rfl ?_
        refine XW.aload_n 77 dX4_digest_76 rfl rfl ?_
        refine XW.iload_n 78 dX4_digest_77 rfl rfl ?_
        refine XW.iload_n 79 dX4_digest_78 rfl rfl ?_
        refine XW.callV 82 (vs := [.int (nI i), .int 0]) (rest := [.ref 53]) (mcr := 0) (msr := 0) c4_114 dX4_digest_79 rfl rfl (by decide) (Nat.le_of_ble_eq_true rfl) rfl rfl (Nat.le_of_ble_eq_true rfl) rfl (k_ofColour_0 (Z := sJ Z (itF (dgC (mR (Z.2.1 54)) (mG (Z.2.1 54)) (mL (Z.2.1 54)) (mP (Z.2.1 54)) (Z.2.1 54 61) l) D i)) mi (nI i) (i := i) rfl (by omega)) (fun r h1 hq => ?_)
        obtain ⟨rfl, rfl⟩ := hq
        refine XW.eqs (st' := [.int ((mR (Z.2.1 54)) (3 * i)), .ref 53]) rfl rfl rfl ?_
        refine XW.i2l 83 dX4_digest_82 rfl ?_
        refine XW.callV 86 (vs := [.long (((mR (Z.2.1 54)) (3 * i)).toInt64)]) (rest := []) (mcr := 0) (msr := 0) c4_257 dX4_digest_83 rfl rfl (by decide) (Nat.le_of_ble_eq_true rfl) rfl rfl (Nat.le_of_ble_eq_true rfl) rfl (k_mix (Z := sJ Z (itF (dgC (mR (Z.2.1 54)) (mG (Z.2.1 54)) (mL (Z.2.1 54)) (mP (Z.2.1 54)) (Z.2.1 54 61) l) D i)) _) (fun r h1 hq => ?_)
        obtain ⟨rfl, rfl⟩ := hq
        refine XW.eqs (h' := HP (sJ Z (dg (itF (dgC (mR (Z.2.1 54)) (mG (Z.2.1 54)) (mL (Z.2.1 54)) (mP (Z.2.1 54)) (Z.2.1 54 61) l) D i) ((mR (Z.2.1 54)) (3 * i))))) rfl rfl rfl ?_
        refine XW.iinc 89 (y := 1) (L' := [some (.ref 53), some (.int (nI i)), some (.int 1)]) dX4_digest_86 rfl (by decide) (by decide) rfl rfl rfl ?_
        refine XW.goto 69 dX4_digest_89 (by decide) ?_
        refine XW.iload_n 70 dX4_digest_69 rfl rfl ?_
        refine XW.bipush 72 dX4_digest_70 (v := 6) (by decide) rfl ?_
        refine XW.icmp_geN 92 75 1 6 dX4_digest_72 (by decide) rfl rfl rfl (by omega) (by omega) (fun c_72 => ?_) (fun c_72 => ?_)
        · exact absurd c_72 (by decide)
        · refine XW.aload_n 76 dX4_digest_75 rfl rfl ?_
          refine XW.aload_n 77 dX4_digest_76 rfl rfl ?_
          refine XW.iload_n 78 dX4_digest_77 rfl rfl ?_
          refine XW.iload_n 79 dX4_digest_78 rfl rfl ?_
          refine XW.callV 82 (vs := [.int (nI i), .int 1]) (rest := [.ref 53]) (mcr := 0) (msr := 0) c4_114 dX4_digest_79 rfl rfl (by decide) (Nat.le_of_ble_eq_true rfl) rfl rfl (Nat.le_of_ble_eq_true rfl) rfl (k_ofColour_1 (Z := sJ Z (dg (itF (dgC (mR (Z.2.1 54)) (mG (Z.2.1 54)) (mL (Z.2.1 54)) (mP (Z.2.1 54)) (Z.2.1 54 61) l) D i) ((mR (Z.2.1 54)) (3 * i)))) mi (nI i) (i := i) rfl (by omega)) (fun r h1 hq => ?_)
          obtain ⟨rfl, rfl⟩ := hq
          refine XW.eqs (st' := [.int ((mR (Z.2.1 54)) (3 * i + 1)), .ref 53]) rfl rfl rfl ?_
          refine XW.i2l 83 dX4_digest_82 rfl ?_
          refine XW.callV 86 (vs := [.long (((mR (Z.2.1 54)) (3 * i + 1)).toInt64)]) (rest := []) (mcr := 0) (msr := 0) c4_257 dX4_digest_83 rfl rfl (by decide) (Nat.le_of_ble_eq_true rfl) rfl rfl (Nat.le_of_ble_eq_true rfl) rfl (k_mix (Z := sJ Z (dg (itF (dgC (mR (Z.2.1 54)) (mG (Z.2.1 54)) (mL (Z.2.1 54)) (mP (Z.2.1 54)) (Z.2.1 54 61) l) D i) ((mR (Z.2.1 54)) (3 * i)))) _) (fun r h1 hq => ?_)
          obtain ⟨rfl, rfl⟩ := hq
          refine XW.eqs (h' := HP (sJ Z (dg (dg (itF (dgC (mR (Z.2.1 54)) (mG (Z.2.1 54)) (mL (Z.2.1 54)) (mP (Z.2.1 54)) (Z.2.1 54 61) l) D i) ((mR (Z.2.1 54)) (3 * i))) ((mR (Z.2.1 54)) (3 * i + 1))))) rfl rfl rfl ?_
          refine XW.iinc 89 (y := 2) (L' := [some (.ref 53), some (.int (nI i)), some (.int 2)]) dX4_digest_86 rfl (by decide) (by decide) rfl rfl rfl ?_
          refine XW.goto 69 dX4_digest_89 (by decide) ?_
          refine XW.iload_n 70 dX4_digest_69 rfl rfl ?_
          refine XW.bipush 72 dX4_digest_70 (v := 6) (by decide) rfl ?_
          refine XW.icmp_geN 92 75 2 6 dX4_digest_72 (by decide) rfl rfl rfl (by omega) (by omega) (fun c_72 => ?_) (fun c_72 => ?_)
          · exact absurd c_72 (by decide)
          · refine XW.aload_n 76 dX4_digest_75 rfl rfl ?_
            refine XW.aload_n 77 dX4_digest_76 rfl rfl ?_
            refine XW.iload_n 78 dX4_digest_77 rfl rfl ?_
            refine XW.iload_n 79 dX4_digest_78 rfl rfl ?_
            refine XW.callV 82 (vs := [.int (nI i), .int 2]) (rest := [.ref 53]) (mcr := 0) (msr := 0) c4_114 dX4_digest_79 rfl rfl (by decide) (Nat.le_of_ble_eq_true rfl) rfl rfl (Nat.le_of_ble_eq_true rfl) rfl (k_ofColour_2 (Z := sJ Z (dg (dg (itF (dgC (mR (Z.2.1 54)) (mG (Z.2.1 54)) (mL (Z.2.1 54)) (mP (Z.2.1 54)) (Z.2.1 54 61) l) D i) ((mR (Z.2.1 54)) (3 * i))) ((mR (Z.2.1 54)) (3 * i + 1)))) mi (nI i) (i := i) rfl (by omega)) (fun r h1 hq => ?_)
            obtain ⟨rfl, rfl⟩ := hq
            refine XW.eqs (st' := [.int ((mR (Z.2.1 54)) (3 * i + 2)), .ref 53]) rfl rfl rfl ?_
            refine XW.i2l 83 dX4_digest_82 rfl ?_
            refine XW.callV 86 (vs := [.long (((mR (Z.2.1 54)) (3 * i + 2)).toInt64)]) (rest := []) (mcr := 0) (msr := 0) c4_257 dX4_digest_83 rfl rfl (by decide) (Nat.le_of_ble_eq_true rfl) rfl rfl (Nat.le_of_ble_eq_true rfl) rfl (k_mix (Z := sJ Z (dg (dg (itF (dgC (mR (Z.2.1 54)) (mG (Z.2.1 54)) (mL (Z.2.1 54)) (mP (Z.2.1 54)) (Z.2.1 54 61) l) D i) ((mR (Z.2.1 54)) (3 * i))) ((mR (Z.2.1 54)) (3 * i + 1)))) _) (fun r h1 hq => ?_)
            obtain ⟨rfl, rfl⟩ := hq
            refine XW.eqs (h' := HP (sJ Z (dg (dg (dg (itF (dgC (mR (Z.2.1 54)) (mG (Z.2.1 54)) (mL (Z.2.1 54)) (mP (Z.2.1 54)) (Z.2.1 54 61) l) D i) ((mR (Z.2.1 54)) (3 * i))) ((mR (Z.2.1 54)) (3 * i + 1))) ((mR (Z.2.1 54)) (3 * i + 2))))) rfl rfl rfl ?_
            refine XW.iinc 89 (y := 3) (L' := [some (.ref 53), some (.int (nI i)), some (.int 3)]) dX4_digest_86 rfl (by decide) (by decide) rfl rfl rfl ?_
            refine XW.goto 69 dX4_digest_89 (by decide) ?_
            refine XW.iload_n 70 dX4_digest_69 rfl rfl ?_
            refine XW.bipush 72 dX4_digest_70 (v := 6) (by decide) rfl ?_
            refine XW.icmp_geN 92 75 3 6 dX4_digest_72 (by decide) rfl rfl rfl (by omega) (by omega) (fun c_72 => ?_) (fun c_72 => ?_)
            · exact absurd c_72 (by decide)
            · refine XW.aload_n 76 dX4_digest_75 rfl rfl ?_
              refine XW.aload_n 77 dX4_digest_76 rfl rfl ?_
              refine XW.iload_n 78 dX4_digest_77 rfl rfl ?_
              refine XW.iload_n 79 dX4_digest_78 rfl rfl ?_
              refine XW.callV 82 (vs := [.int (nI i), .int 3]) (rest := [.ref 53]) (mcr := 0) (msr := 0) c4_114 dX4_digest_79 rfl rfl (by decide) (Nat.le_of_ble_eq_true rfl) rfl rfl (Nat.le_of_ble_eq_true rfl) rfl (k_ofColour_3 (Z := sJ Z (dg (dg (dg (itF (dgC (mR (Z.2.1 54)) (mG (Z.2.1 54)) (mL (Z.2.1 54)) (mP (Z.2.1 54)) (Z.2.1 54 61) l) D i) ((mR (Z.2.1 54)) (3 * i))) ((mR (Z.2.1 54)) (3 * i + 1))) ((mR (Z.2.1 54)) (3 * i + 2)))) mi (nI i) (i := i) rfl (by omega)) (fun r h1 hq => ?_)
              obtain ⟨rfl, rfl⟩ := hq
              refine XW.eqs (st' := [.int (b2i (bitB (Z.2.1 54 61) (nI i))), .ref 53]) rfl rfl rfl ?_
              refine XW.i2l 83 dX4_digest_82 rfl ?_
              refine XW.callV 86 (vs := [.long ((b2i (bitB (Z.2.1 54 61) (nI i))).toInt64)]) (rest := []) (mcr := 0) (msr := 0) c4_257 dX4_digest_83 rfl rfl (by decide) (Nat.le_of_ble_eq_true rfl) rfl rfl (Nat.le_of_ble_eq_true rfl) rfl (k_mix (Z := sJ Z (dg (dg (dg (itF (dgC (mR (Z.2.1 54)) (mG (Z.2.1 54)) (mL (Z.2.1 54)) (mP (Z.2.1 54)) (Z.2.1 54 61) l) D i) ((mR (Z.2.1 54)) (3 * i))) ((mR (Z.2.1 54)) (3 * i + 1))) ((mR (Z.2.1 54)) (3 * i + 2)))) _) (fun r h1 hq => ?_)
              obtain ⟨rfl, rfl⟩ := hq
              refine XW.eqs (h' := HP (sJ Z (dg (dg (dg (dg (itF (dgC (mR (Z.2.1 54)) (mG (Z.2.1 54)) (mL (Z.2.1 54)) (mP (Z.2.1 54)) (Z.2.1 54 61) l) D i) ((mR (Z.2.1 54)) (3 * i))) ((mR (Z.2.1 54)) (3 * i + 1))) ((mR (Z.2.1 54)) (3 * i + 2))) (b2i (bitB (Z.2.1 54 61) (nI i)))))) rfl rfl rfl ?_
              refine XW.iinc 89 (y := 4) (L' := [some (.ref 53), some (.int (nI i)), some (.int 4)]) dX4_digest_86 rfl (by decide) (by decide) rfl rfl rfl ?_
              refine XW.goto 69 dX4_digest_89 (by decide) ?_
              refine XW.iload_n 70 dX4_digest_69 rfl rfl ?_
              refine XW.bipush 72 dX4_digest_70 (v := 6) (by decide) rfl ?_
              refine XW.icmp_geN 92 75 4 6 dX4_digest_72 (by decide) rfl rfl rfl (by omega) (by omega) (fun c_72 => ?_) (fun c_72 => ?_)
              · exact absurd c_72 (by decide)
              · refine XW.aload_n 76 dX4_digest_75 rfl rfl ?_
                refine XW.aload_n 77 dX4_digest_76 rfl rfl ?_
                refine XW.iload_n 78 dX4_digest_77 rfl rfl ?_
                refine XW.iload_n 79 dX4_digest_78 rfl rfl ?_
                refine XW.callV 82 (vs := [.int (nI i), .int 4]) (rest := [.ref 53]) (mcr := 0) (msr := 0) c4_114 dX4_digest_79 rfl rfl (by decide) (Nat.le_of_ble_eq_true rfl) rfl rfl (Nat.le_of_ble_eq_true rfl) rfl (k_ofColour_4 (Z := sJ Z (dg (dg (dg (dg (itF (dgC (mR (Z.2.1 54)) (mG (Z.2.1 54)) (mL (Z.2.1 54)) (mP (Z.2.1 54)) (Z.2.1 54 61) l) D i) ((mR (Z.2.1 54)) (3 * i))) ((mR (Z.2.1 54)) (3 * i + 1))) ((mR (Z.2.1 54)) (3 * i + 2))) (b2i (bitB (Z.2.1 54 61) (nI i))))) mi (nI i) (i := i) rfl (by omega)) (fun r h1 hq => ?_)
                obtain ⟨rfl, rfl⟩ := hq
                refine XW.eqs (st' := [.int (b2i (fitC (mR (Z.2.1 54)) (mG (Z.2.1 54)) (mL (Z.2.1 54)) i)), .ref 53]) rfl rfl rfl ?_
                refine XW.i2l 83 dX4_digest_82 rfl ?_
                refine XW.callV 86 (vs := [.long ((b2i (fitC (mR (Z.2.1 54)) (mG (Z.2.1 54)) (mL (Z.2.1 54)) i)).toInt64)]) (rest := []) (mcr := 0) (msr := 0) c4_257 dX4_digest_83 rfl rfl (by decide) (Nat.le_of_ble_eq_true rfl) rfl rfl (Nat.le_of_ble_eq_true rfl) rfl (k_mix (Z := sJ Z (dg (dg (dg (dg (itF (dgC (mR (Z.2.1 54)) (mG (Z.2.1 54)) (mL (Z.2.1 54)) (mP (Z.2.1 54)) (Z.2.1 54 61) l) D i) ((mR (Z.2.1 54)) (3 * i))) ((mR (Z.2.1 54)) (3 * i + 1))) ((mR (Z.2.1 54)) (3 * i + 2))) (b2i (bitB (Z.2.1 54 61) (nI i))))) _) (fun r h1 hq => ?_)
                obtain ⟨rfl, rfl⟩ := hq
                refine XW.eqs (h' := HP (sJ Z (dg (dg (dg (dg (dg (itF (dgC (mR (Z.2.1 54)) (mG (Z.2.1 54)) (mL (Z.2.1 54)) (mP (Z.2.1 54)) (Z.2.1 54 61) l) D i) ((mR (Z.2.1 54)) (3 * i))) ((mR (Z.2.1 54)) (3 * i + 1))) ((mR (Z.2.1 54)) (3 * i + 2))) (b2i (bitB (Z.2.1 54 61) (nI i)))) (b2i (fitC (mR (Z.2.1 54)) (mG (Z.2.1 54)) (mL (Z.2.1 54)) i))))) rfl rfl rfl ?_
                refine XW.iinc 89 (y := 5) (L' := [some (.ref 53), some (.int (nI i)), some (.int 5)]) dX4_digest_86 rfl (by decide) (by decide) rfl rfl rfl ?_
                refine XW.goto 69 dX4_digest_89 (by decide) ?_
                refine XW.iload_n 70 dX4_digest_69 rfl rfl ?_
                refine XW.bipush 72 dX4_digest_70 (v := 6) (by decide) rfl ?_
                refine XW.icmp_geN 92 75 5 6 dX4_digest_72 (by decide) rfl rfl rfl (by omega) (by omega) (fun c_72 => ?_) (fun c_72 => ?_)
                · exact absurd c_72 (by decide)
                · refine XW.aload_n 76 dX4_digest_75 rfl rfl ?_
                  refine XW.aload_n 77 dX4_digest_76 rfl rfl ?_
                  refine XW.iload_n 78 dX4_digest_77 rfl rfl ?_
                  refine XW.iload_n 79 dX4_digest_78 rfl rfl ?_
                  refine XW.callV 82 (vs := [.int (nI i), .int 5]) (rest := [.ref 53]) (mcr := 0) (msr := 0) c4_114 dX4_digest_79 rfl rfl (by decide) (Nat.le_of_ble_eq_true rfl) rfl rfl (Nat.le_of_ble_eq_true rfl) rfl (k_ofColour_5 (Z := sJ Z (dg (dg (dg (dg (dg (itF (dgC (mR (Z.2.1 54)) (mG (Z.2.1 54)) (mL (Z.2.1 54)) (mP (Z.2.1 54)) (Z.2.1 54 61) l) D i) ((mR (Z.2.1 54)) (3 * i))) ((mR (Z.2.1 54)) (3 * i + 1))) ((mR (Z.2.1 54)) (3 * i + 2))) (b2i (bitB (Z.2.1 54 61) (nI i)))) (b2i (fitC (mR (Z.2.1 54)) (mG (Z.2.1 54)) (mL (Z.2.1 54)) i)))) mi (nI i) (i := i) rfl (by omega)) (fun r h1 hq => ?_)
                  obtain ⟨rfl, rfl⟩ := hq
                  refine XW.eqs (st' := [.int (plF (mP (Z.2.1 54)) (nI i) l 0), .ref 53]) rfl rfl rfl ?_
                  refine XW.i2l 83 dX4_digest_82 rfl ?_
                  refine XW.callV 86 (vs := [.long ((plF (mP (Z.2.1 54)) (nI i) l 0).toInt64)]) (rest := []) (mcr := 0) (msr := 0) c4_257 dX4_digest_83 rfl rfl (by decide) (Nat.le_of_ble_eq_true rfl) rfl rfl (Nat.le_of_ble_eq_true rfl) rfl (k_mix (Z := sJ Z (dg (dg (dg (dg (dg (itF (dgC (mR (Z.2.1 54)) (mG (Z.2.1 54)) (mL (Z.2.1 54)) (mP (Z.2.1 54)) (Z.2.1 54 61) l) D i) ((mR (Z.2.1 54)) (3 * i))) ((mR (Z.2.1 54)) (3 * i + 1))) ((mR (Z.2.1 54)) (3 * i + 2))) (b2i (bitB (Z.2.1 54 61) (nI i)))) (b2i (fitC (mR (Z.2.1 54)) (mG (Z.2.1 54)) (mL (Z.2.1 54)) i)))) _) (fun r h1 hq => ?_)
                  obtain ⟨rfl, rfl⟩ := hq
                  refine XW.eqs (h' := HP (sJ Z (dg (dg (dg (dg (dg (dg (itF (dgC (mR (Z.2.1 54)) (mG (Z.2.1 54)) (mL (Z.2.1 54)) (mP (Z.2.1 54)) (Z.2.1 54 61) l) D i) ((mR (Z.2.1 54)) (3 * i))) ((mR (Z.2.1 54)) (3 * i + 1))) ((mR (Z.2.1 54)) (3 * i + 2))) (b2i (bitB (Z.2.1 54 61) (nI i)))) (b2i (fitC (mR (Z.2.1 54)) (mG (Z.2.1 54)) (mL (Z.2.1 54)) i))) (plF (mP (Z.2.1 54)) (nI i) l 0)))) rfl rfl rfl ?_
                  refine XW.iinc 89 (y := 6) (L' := [some (.ref 53), some (.int (nI i)), some (.int 6)]) dX4_digest_86 rfl (by decide) (by decide) rfl rfl rfl ?_
                  refine XW.goto 69 dX4_digest_89 (by decide) ?_
                  refine XW.iload_n 70 dX4_digest_69 rfl rfl ?_
                  refine XW.bipush 72 dX4_digest_70 (v := 6) (by decide) rfl ?_
                  refine XW.icmp_geN 92 75 6 6 dX4_digest_72 (by decide) rfl rfl rfl (by omega) (by omega) (fun c_72 => ?_) (fun c_72 => ?_)
                  · refine XW.aload_n 93 dX4_digest_92 rfl rfl ?_
                    refine XW.aload_n 94 dX4_digest_93 rfl rfl ?_
                    refine XW.aload_n 95 dX4_digest_94 rfl rfl ?_
                    refine XW.iload_n 96 dX4_digest_95 rfl rfl ?_
                    refine XW.callV 99 (vs := [.int (nI i)]) (rest := [.ref 53, .ref 53]) (mcr := 0) (msr := 0) c4_57 dX4_digest_96 rfl rfl (by decide) (Nat.le_of_ble_eq_true rfl) rfl rfl (Nat.le_of_ble_eq_true rfl) rfl (k_colourAt _) (fun r h1 hq => ?_)
                    obtain ⟨rfl, rfl⟩ := hq
                    refine XW.eqs (st' := [.int (1 + 3 * (nI i)), .ref 53, .ref 53]) rfl rfl rfl ?_
                    refine XW.callV 102 (vs := [.int (1 + 3 * (nI i))]) (rest := [.ref 53]) (mcr := 0) (msr := 0) c4_104 dX4_digest_99 rfl rfl (by decide) (Nat.le_of_ble_eq_true rfl) rfl rfl (Nat.le_of_ble_eq_true rfl) rfl (k_shineAt (Z := sJ Z (dg (dg (dg (dg (dg (dg (itF (dgC (mR (Z.2.1 54)) (mG (Z.2.1 54)) (mL (Z.2.1 54)) (mP (Z.2.1 54)) (Z.2.1 54 61) l) D i) ((mR (Z.2.1 54)) (3 * i))) ((mR (Z.2.1 54)) (3 * i + 1))) ((mR (Z.2.1 54)) (3 * i + 2))) (b2i (bitB (Z.2.1 54 61) (nI i)))) (b2i (fitC (mR (Z.2.1 54)) (mG (Z.2.1 54)) (mL (Z.2.1 54)) i))) (plF (mP (Z.2.1 54)) (nI i) l 0))) (k := 1 + 3 * i) (na (m := 1) rfl (nm (m := 3) rfl rfl)) (by omega) (ok_light ok (by omega)).1) (fun r h1 hq => ?_)
                    obtain ⟨rfl, rfl⟩ := hq
                    refine XW.eqs (st' := [.float (lightC (mR (Z.2.1 54)) (3 * i)), .ref 53]) rfl rfl rfl ?_
                    refine XW.callS 105 (vs := [.float (lightC (mR (Z.2.1 54)) (3 * i))]) (rest := [.ref 53]) (mcr := 0) (msr := 0) c4_117 dX4_digest_102 rfl (by decide) (Nat.le_of_ble_eq_true rfl) rfl rfl (Nat.le_of_ble_eq_true rfl) rfl (k_bitsOf _ _ (Or.inl (okB_light ok (by omega)))) (fun r h1 hq => ?_)
                    obtain ⟨rfl, rfl⟩ := hq
                    refine XW.eqs (st' := [.int ((lightC (mR (Z.2.1 54)) (3 * i)).toInt32), .ref 53]) rfl rfl rfl ?_
                    refine XW.i2l 106 dX4_digest_105 rfl ?_
                    refine XW.callV 109 (vs := [.long (((lightC (mR (Z.2.1 54)) (3 * i)).toInt32).toInt64)]) (rest := []) (mcr := 0) (msr := 0) c4_257 dX4_digest_106 rfl rfl (by decide) (Nat.le_of_ble_eq_true rfl) rfl rfl (Nat.le_of_ble_eq_true rfl) rfl (k_mix (Z := sJ Z (dg (dg (dg (dg (dg (dg (itF (dgC (mR (Z.2.1 54)) (mG (Z.2.1 54)) (mL (Z.2.1 54)) (mP (Z.2.1 54)) (Z.2.1 54 61) l) D i) ((mR (Z.2.1 54)) (3 * i))) ((mR (Z.2.1 54)) (3 * i + 1))) ((mR (Z.2.1 54)) (3 * i + 2))) (b2i (bitB (Z.2.1 54 61) (nI i)))) (b2i (fitC (mR (Z.2.1 54)) (mG (Z.2.1 54)) (mL (Z.2.1 54)) i))) (plF (mP (Z.2.1 54)) (nI i) l 0))) _) (fun r h1 hq => ?_)
                    obtain ⟨rfl, rfl⟩ := hq
                    refine XW.eqs (h' := HP (sJ Z (dg (dg (dg (dg (dg (dg (dg (itF (dgC (mR (Z.2.1 54)) (mG (Z.2.1 54)) (mL (Z.2.1 54)) (mP (Z.2.1 54)) (Z.2.1 54 61) l) D i) ((mR (Z.2.1 54)) (3 * i))) ((mR (Z.2.1 54)) (3 * i + 1))) ((mR (Z.2.1 54)) (3 * i + 2))) (b2i (bitB (Z.2.1 54 61) (nI i)))) (b2i (fitC (mR (Z.2.1 54)) (mG (Z.2.1 54)) (mL (Z.2.1 54)) i))) (plF (mP (Z.2.1 54)) (nI i) l 0)) ((lightC (mR (Z.2.1 54)) (3 * i)).toInt32)))) rfl rfl rfl ?_
                    refine XW.iinc 112 (y := nI (i + 1)) (L' := [some (.ref 53), some (.int (nI (i + 1))), some (.int 6)]) dX4_digest_109 rfl (na rfl rfl) (by decide) rfl rfl rfl ?_
                    refine XW.goto 57 dX4_digest_112 (by decide) ?_
                    refine XW.weak [true, true, false] (L' := [some (.ref 53), some (.int (nI (i + 1))), none]) rfl ?_
                    refine XW.eqs (L' := [some (.ref 53), some (.int (nI (i + 1))), none]) (h' := HP (sJ Z (itF (dgC (mR (Z.2.1 54)) (mG (Z.2.1 54)) (mL (Z.2.1 54)) (mP (Z.2.1 54)) (Z.2.1 54 61) l) D (i + 1)))) (by rfl) rfl (by rfl) ?_
                    exact ih (i + 1) (by omega) (by omega)
                  · exact absurd c_72 (by decide)
set_option maxHeartbeats 400000 in
set_option maxRecDepth 100000 in
theorem u_digest {Z : xZ} {c l : Nat} (mi : MI (Z.2.1 54) c l) : XC mX4_digest 7 0 0 [.ref 53] (HP Z) (fun r h' => r = some (.long (dgA (dgT (Z.2.1 57 0) (Z.2.1 57 1) (Z.2.1 57 2) ((mL (Z.2.1 54)) 0) ((mL (Z.2.1 54)) 1) ((mL (Z.2.1 54)) 2) (Z.1 53 6) (Z.1 53 3) (Z.2.1 54 0) (ftM (mR (Z.2.1 54)) (mG (Z.2.1 54)) (mL (Z.2.1 54)) c) (Z.2.1 54 61) (Z.2.1 54 120) (cbF (mE (Z.2.1 54)) 4) ((mG (Z.2.1 54)) 0) ((mG (Z.2.1 54)) 1) ((mG (Z.2.1 54)) 2)) (apG (nE (Z.2.1 54)) (nR (Z.2.1 54))) (nR (Z.2.1 54)) (nG (Z.2.1 54)) (nE (Z.2.1 54)) (nL (Z.2.1 54)) (mP (Z.2.1 54)) (Z.2.1 54 61) c l)) ∧ ∃ j f8 G S, h' = HP (sJ (sA (sF (sI Z 53 8 f8) 59 G) 60 S) j)) := by
  show XW mX4_digest 7 0 0 0 [some (.ref 53), none, none] [] (HP Z) _
  obtain ⟨hc, c20, hl, l8, ok, hf, hdi, hfb⟩ := id mi
  refine XW.aload_n 1 dX4_digest_0 rfl rfl ?_
  refine XW.ldc2 4 k4_255 dX4_digest_1 rfl ?_
  refine XW.putf 7 (h' := HP (sJ Z 2619)) (p4_251 _) dX4_digest_4 rfl (Nat.le_of_ble_eq_true rfl) (xfit_l _) rfl rfl ?_
  refine XW.iconst 8 dX4_digest_7 (v := 0) (by decide) rfl ?_
  refine XW.istore_n 9 (L' := [some (.ref 53), some (.int 0), none]) dX4_digest_8 (by decide) rfl rfl rfl ?_
  refine XW.iload_n 10 dX4_digest_9 rfl rfl ?_
  refine XW.bipush 12 dX4_digest_10 (v := 8) (by decide) rfl ?_
  refine XW.icmp_geN 31 15 0 8 dX4_digest_12 (by decide) rfl rfl rfl (by omega) (by omega) (fun c_12 => ?_) (fun c_12 => ?_)
  · exact absurd c_12 (by decide)
  · refine XW.aload_n 16 dX4_digest_15 rfl rfl ?_
    refine XW.aload_n 17 dX4_digest_16 rfl rfl ?_
    refine XW.iload_n 18 dX4_digest_17 rfl rfl ?_
    refine XW.callV 21 (vs := [.int 0]) (rest := [.ref 53]) (mcr := 0) (msr := 0) c4_246 dX4_digest_18 rfl rfl (by decide) (Nat.le_of_ble_eq_true rfl) rfl rfl (Nat.le_of_ble_eq_true rfl) rfl (k_toldOf_0 (Z := sJ Z 2619) mi) (fun r h1 hq => ?_)
    obtain ⟨rfl, rfl⟩ := hq
    refine XW.eqs (st' := [.int (Z.2.1 57 0), .ref 53]) rfl rfl rfl ?_
    refine XW.i2l 22 dX4_digest_21 rfl ?_
    refine XW.callV 25 (vs := [.long ((Z.2.1 57 0).toInt64)]) (rest := []) (mcr := 0) (msr := 0) c4_257 dX4_digest_22 rfl rfl (by decide) (Nat.le_of_ble_eq_true rfl) rfl rfl (Nat.le_of_ble_eq_true rfl) rfl (k_mix (Z := sJ Z 2619) _) (fun r h1 hq => ?_)
    obtain ⟨rfl, rfl⟩ := hq
    refine XW.eqs (h' := HP (sJ Z (dg 2619 (Z.2.1 57 0)))) rfl rfl rfl ?_
    refine XW.iinc 28 (y := 1) (L' := [some (.ref 53), some (.int 1), none]) dX4_digest_25 rfl (by decide) (by decide) rfl rfl rfl ?_
    refine XW.goto 9 dX4_digest_28 (by decide) ?_
    refine XW.iload_n 10 dX4_digest_9 rfl rfl ?_
    refine XW.bipush 12 dX4_digest_10 (v := 8) (by decide) rfl ?_
    refine XW.icmp_geN 31 15 1 8 dX4_digest_12 (by decide) rfl rfl rfl (by omega) (by omega) (fun c_12 => ?_) (fun c_12 => ?_)
    · exact absurd c_12 (by decide)
    · refine XW.aload_n 16 dX4_digest_15 rfl rfl ?_
      refine XW.aload_n 17 dX4_digest_16 rfl rfl ?_
      refine XW.iload_n 18 dX4_digest_17 rfl rfl ?_
      refine XW.callV 21 (vs := [.int 1]) (rest := [.ref 53]) (mcr := 0) (msr := 0) c4_246 dX4_digest_18 rfl rfl (by decide) (Nat.le_of_ble_eq_true rfl) rfl rfl (Nat.le_of_ble_eq_true rfl) rfl (k_toldOf_1 (Z := sJ Z (dg 2619 (Z.2.1 57 0))) mi) (fun r h1 hq => ?_)
      obtain ⟨rfl, rfl⟩ := hq
      refine XW.eqs (st' := [.int (Z.2.1 57 1), .ref 53]) rfl rfl rfl ?_
      refine XW.i2l 22 dX4_digest_21 rfl ?_
      refine XW.callV 25 (vs := [.long ((Z.2.1 57 1).toInt64)]) (rest := []) (mcr := 0) (msr := 0) c4_257 dX4_digest_22 rfl rfl (by decide) (Nat.le_of_ble_eq_true rfl) rfl rfl (Nat.le_of_ble_eq_true rfl) rfl (k_mix (Z := sJ Z (dg 2619 (Z.2.1 57 0))) _) (fun r h1 hq => ?_)
      obtain ⟨rfl, rfl⟩ := hq
      refine XW.eqs (h' := HP (sJ Z (dg (dg 2619 (Z.2.1 57 0)) (Z.2.1 57 1)))) rfl rfl rfl ?_
      refine XW.iinc 28 (y := 2) (L' := [some (.ref 53), some (.int 2), none]) dX4_digest_25 rfl (by decide) (by decide) rfl rfl rfl ?_
      refine XW.goto 9 dX4_digest_28 (by decide) ?_
      refine XW.iload_n 10 dX4_digest_9 rfl rfl ?_
      refine XW.bipush 12 dX4_digest_10 (v := 8) (by decide) rfl ?_
      refine XW.icmp_geN 31 15 2 8 dX4_digest_12 (by decide) rfl rfl rfl (by omega) (by omega) (fun c_12 => ?_) (fun c_12 => ?_)
      · exact absurd c_12 (by decide)
      · refine XW.aload_n 16 dX4_digest_15 rfl rfl ?_
        refine XW.aload_n 17 dX4_digest_16 rfl rfl ?_
        refine XW.iload_n 18 dX4_digest_17 rfl rfl ?_
        refine XW.callV 21 (vs := [.int 2]) (rest := [.ref 53]) (mcr := 0) (msr := 0) c4_246 dX4_digest_18 rfl rfl (by decide) (Nat.le_of_ble_eq_true rfl) rfl rfl (Nat.le_of_ble_eq_true rfl) rfl (k_toldOf_2 (Z := sJ Z (dg (dg 2619 (Z.2.1 57 0)) (Z.2.1 57 1))) mi) (fun r h1 hq => ?_)
        obtain ⟨rfl, rfl⟩ := hq
        refine XW.eqs (st' := [.int (Z.2.1 57 2), .ref 53]) rfl rfl rfl ?_
        refine XW.i2l 22 dX4_digest_21 rfl ?_
        refine XW.callV 25 (vs := [.long ((Z.2.1 57 2).toInt64)]) (rest := []) (mcr := 0) (msr := 0) c4_257 dX4_digest_22 rfl rfl (by decide) (Nat.le_of_ble_eq_true rfl) rfl rfl (Nat.le_of_ble_eq_true rfl) rfl (k_mix (Z := sJ Z (dg (dg 2619 (Z.2.1 57 0)) (Z.2.1 57 1))) _) (fun r h1 hq => ?_)
        obtain ⟨rfl, rfl⟩ := hq
        refine XW.eqs (h' := HP (sJ Z (dg (dg (dg 2619 (Z.2.1 57 0)) (Z.2.1 57 1)) (Z.2.1 57 2)))) rfl rfl rfl ?_
        refine XW.iinc 28 (y := 3) (L' := [some (.ref 53), some (.int 3), none]) dX4_digest_25 rfl (by decide) (by decide) rfl rfl rfl ?_
        refine XW.goto 9 dX4_digest_28 (by decide) ?_
        refine XW.iload_n 10 dX4_digest_9 rfl rfl ?_
        refine XW.bipush 12 dX4_digest_10 (v := 8) (by decide) rfl ?_
        refine XW.icmp_geN 31 15 3 8 dX4_digest_12 (by decide) rfl rfl rfl (by omega) (by omega) (fun c_12 => ?_) (fun c_12 => ?_)
        · exact absurd c_12 (by decide)
        · refine XW.aload_n 16 dX4_digest_15 rfl rfl ?_
          refine XW.aload_n 17 dX4_digest_16 rfl rfl ?_
          refine XW.iload_n 18 dX4_digest_17 rfl rfl ?_
          refine XW.callV 21 (vs := [.int 3]) (rest := [.ref 53]) (mcr := 0) (msr := 0) c4_246 dX4_digest_18 rfl rfl (by decide) (Nat.le_of_ble_eq_true rfl) rfl rfl (Nat.le_of_ble_eq_true rfl) rfl (k_toldOf_3 (Z := sJ Z (dg (dg (dg 2619 (Z.2.1 57 0)) (Z.2.1 57 1)) (Z.2.1 57 2))) mi) (fun r h1 hq => ?_)
          obtain ⟨rfl, rfl⟩ := hq
          refine XW.eqs (st' := [.int ((mL (Z.2.1 54)) 0), .ref 53]) rfl rfl rfl ?_
          refine XW.i2l 22 dX4_digest_21 rfl ?_
          refine XW.callV 25 (vs := [.long (((mL (Z.2.1 54)) 0).toInt64)]) (rest := []) (mcr := 0) (msr := 0) c4_257 dX4_digest_22 rfl rfl (by decide) (Nat.le_of_ble_eq_true rfl) rfl rfl (Nat.le_of_ble_eq_true rfl) rfl (k_mix (Z := sJ Z (dg (dg (dg 2619 (Z.2.1 57 0)) (Z.2.1 57 1)) (Z.2.1 57 2))) _) (fun r h1 hq => ?_)
          obtain ⟨rfl, rfl⟩ := hq
          refine XW.eqs (h' := HP (sJ Z (dg (dg (dg (dg 2619 (Z.2.1 57 0)) (Z.2.1 57 1)) (Z.2.1 57 2)) ((mL (Z.2.1 54)) 0)))) rfl rfl rfl ?_
          refine XW.iinc 28 (y := 4) (L' := [some (.ref 53), some (.int 4), none]) dX4_digest_25 rfl (by decide) (by decide) rfl rfl rfl ?_
          refine XW.goto 9 dX4_digest_28 (by decide) ?_
          refine XW.iload_n 10 dX4_digest_9 rfl rfl ?_
          refine XW.bipush 12 dX4_digest_10 (v := 8) (by decide) rfl ?_
          refine XW.icmp_geN 31 15 4 8 dX4_digest_12 (by decide) rfl rfl rfl (by omega) (by omega) (fun c_12 => ?_) (fun c_12 => ?_)
          · exact absurd c_12 (by decide)
          · refine XW.aload_n 16 dX4_digest_15 rfl rfl ?_
            refine XW.aload_n 17 dX4_digest_16 rfl rfl ?_
            refine XW.iload_n 18 dX4_digest_17 rfl rfl ?_
            refine XW.callV 21 (vs := [.int 4]) (rest := [.ref 53]) (mcr := 0) (msr := 0) c4_246 dX4_digest_18 rfl rfl (by decide) (Nat.le_of_ble_eq_true rfl) rfl rfl (Nat.le_of_ble_eq_true rfl) rfl (k_toldOf_4 (Z := sJ Z (dg (dg (dg (dg 2619 (Z.2.1 57 0)) (Z.2.1 57 1)) (Z.2.1 57 2)) ((mL (Z.2.1 54)) 0))) mi) (fun r h1 hq => ?_)
            obtain ⟨rfl, rfl⟩ := hq
            refine XW.eqs (st' := [.int ((mL (Z.2.1 54)) 1), .ref 53]) rfl rfl rfl ?_
            refine XW.i2l 22 dX4_digest_21 rfl ?_
            refine XW.callV 25 (vs := [.long (((mL (Z.2.1 54)) 1).toInt64)]) (rest := []) (mcr := 0) (msr := 0) c4_257 dX4_digest_22 rfl rfl (by decide) (Nat.le_of_ble_eq_true rfl) rfl rfl (Nat.le_of_ble_eq_true rfl) rfl (k_mix (Z := sJ Z (dg (dg (dg (dg 2619 (Z.2.1 57 0)) (Z.2.1 57 1)) (Z.2.1 57 2)) ((mL (Z.2.1 54)) 0))) _) (fun r h1 hq => ?_)
            obtain ⟨rfl, rfl⟩ := hq
            refine XW.eqs (h' := HP (sJ Z (dg (dg (dg (dg (dg 2619 (Z.2.1 57 0)) (Z.2.1 57 1)) (Z.2.1 57 2)) ((mL (Z.2.1 54)) 0)) ((mL (Z.2.1 54)) 1)))) rfl rfl rfl ?_
            refine XW.iinc 28 (y := 5) (L' := [some (.ref 53), some (.int 5), none]) dX4_digest_25 rfl (by decide) (by decide) rfl rfl rfl ?_
            refine XW.goto 9 dX4_digest_28 (by decide) ?_
            refine XW.iload_n 10 dX4_digest_9 rfl rfl ?_
            refine XW.bipush 12 dX4_digest_10 (v := 8) (by decide) rfl ?_
            refine XW.icmp_geN 31 15 5 8 dX4_digest_12 (by decide) rfl rfl rfl (by omega) (by omega) (fun c_12 => ?_) (fun c_12 => ?_)
            · exact absurd c_12 (by decide)
            · refine XW.aload_n 16 dX4_digest_15 rfl rfl ?_
              refine XW.aload_n 17 dX4_digest_16 rfl rfl ?_
              refine XW.iload_n 18 dX4_digest_17 rfl rfl ?_
              refine XW.callV 21 (vs := [.int 5]) (rest := [.ref 53]) (mcr := 0) (msr := 0) c4_246 dX4_digest_18 rfl rfl (by decide) (Nat.le_of_ble_eq_true rfl) rfl rfl (Nat.le_of_ble_eq_true rfl) rfl (k_toldOf_5 (Z := sJ Z (dg (dg (dg (dg (dg 2619 (Z.2.1 57 0)) (Z.2.1 57 1)) (Z.2.1 57 2)) ((mL (Z.2.1 54)) 0)) ((mL (Z.2.1 54)) 1))) mi) (fun r h1 hq => ?_)
              obtain ⟨rfl, rfl⟩ := hq
              refine XW.eqs (st' := [.int ((mL (Z.2.1 54)) 2), .ref 53]) rfl rfl rfl ?_
              refine XW.i2l 22 dX4_digest_21 rfl ?_
              refine XW.callV 25 (vs := [.long (((mL (Z.2.1 54)) 2).toInt64)]) (rest := []) (mcr := 0) (msr := 0) c4_257 dX4_digest_22 rfl rfl (by decide) (Nat.le_of_ble_eq_true rfl) rfl rfl (Nat.le_of_ble_eq_true rfl) rfl (k_mix (Z := sJ Z (dg (dg (dg (dg (dg 2619 (Z.2.1 57 0)) (Z.2.1 57 1)) (Z.2.1 57 2)) ((mL (Z.2.1 54)) 0)) ((mL (Z.2.1 54)) 1))) _) (fun r h1 hq => ?_)
              obtain ⟨rfl, rfl⟩ := hq
              refine XW.eqs (h' := HP (sJ Z (dg (dg (dg (dg (dg (dg 2619 (Z.2.1 57 0)) (Z.2.1 57 1)) (Z.2.1 57 2)) ((mL (Z.2.1 54)) 0)) ((mL (Z.2.1 54)) 1)) ((mL (Z.2.1 54)) 2)))) rfl rfl rfl ?_
              refine XW.iinc 28 (y := 6) (L' := [some (.ref 53), some (.int 6), none]) dX4_digest_25 rfl (by decide) (by decide) rfl rfl rfl ?_
              refine XW.goto 9 dX4_digest_28 (by decide) ?_
              refine XW.iload_n 10 dX4_digest_9 rfl rfl ?_
              refine XW.bipush 12 dX4_digest_10 (v := 8) (by decide) rfl ?_
              refine XW.icmp_geN 31 15 6 8 dX4_digest_12 (by decide) rfl rfl rfl (by omega) (by omega) (fun c_12 => ?_) (fun c_12 => ?_)
              · exact absurd c_12 (by decide)
              · refine XW.aload_n 16 dX4_digest_15 rfl rfl ?_
                refine XW.aload_n 17 dX4_digest_16 rfl rfl ?_
                refine XW.iload_n 18 dX4_digest_17 rfl rfl ?_
                refine XW.callV 21 (vs := [.int 6]) (rest := [.ref 53]) (mcr := 0) (msr := 0) c4_246 dX4_digest_18 rfl rfl (by decide) (Nat.le_of_ble_eq_true rfl) rfl rfl (Nat.le_of_ble_eq_true rfl) rfl (k_toldOf_6 (Z := sJ Z (dg (dg (dg (dg (dg (dg 2619 (Z.2.1 57 0)) (Z.2.1 57 1)) (Z.2.1 57 2)) ((mL (Z.2.1 54)) 0)) ((mL (Z.2.1 54)) 1)) ((mL (Z.2.1 54)) 2))) mi) (fun r h1 hq => ?_)
                obtain ⟨rfl, rfl⟩ := hq
                refine XW.eqs (st' := [.int (Z.1 53 6), .ref 53]) rfl rfl rfl ?_
                refine XW.i2l 22 dX4_digest_21 rfl ?_
                refine XW.callV 25 (vs := [.long ((Z.1 53 6).toInt64)]) (rest := []) (mcr := 0) (msr := 0) c4_257 dX4_digest_22 rfl rfl (by decide) (Nat.le_of_ble_eq_true rfl) rfl rfl (Nat.le_of_ble_eq_true rfl) rfl (k_mix (Z := sJ Z (dg (dg (dg (dg (dg (dg 2619 (Z.2.1 57 0)) (Z.2.1 57 1)) (Z.2.1 57 2)) ((mL (Z.2.1 54)) 0)) ((mL (Z.2.1 54)) 1)) ((mL (Z.2.1 54)) 2))) _) (fun r h1 hq => ?_)
                obtain ⟨rfl, rfl⟩ := hq
                refine XW.eqs (h' := HP (sJ Z (dg (dg (dg (dg (dg (dg (dg 2619 (Z.2.1 57 0)) (Z.2.1 57 1)) (Z.2.1 57 2)) ((mL (Z.2.1 54)) 0)) ((mL (Z.2.1 54)) 1)) ((mL (Z.2.1 54)) 2)) (Z.1 53 6)))) rfl rfl rfl ?_
                refine XW.iinc 28 (y := 7) (L' := [some (.ref 53), some (.int 7), none]) dX4_digest_25 rfl (by decide) (by decide) rfl rfl rfl ?_
                refine XW.goto 9 dX4_digest_28 (by decide) ?_
                refine XW.iload_n 10 dX4_digest_9 rfl rfl ?_
                refine XW.bipush 12 dX4_digest_10 (v := 8) (by decide) rfl ?_
                refine XW.icmp_geN 31 15 7 8 dX4_digest_12 (by decide) rfl rfl rfl (by omega) (by omega) (fun c_12 => ?_) (fun c_12 => ?_)
                · exact absurd c_12 (by decide)
                · refine XW.aload_n 16 dX4_digest_15 rfl rfl ?_
                  refine XW.aload_n 17 dX4_digest_16 rfl rfl ?_
                  refine XW.iload_n 18 dX4_digest_17 rfl rfl ?_
                  refine XW.callV 21 (vs := [.int 7]) (rest := [.ref 53]) (mcr := 0) (msr := 0) c4_246 dX4_digest_18 rfl rfl (by decide) (Nat.le_of_ble_eq_true rfl) rfl rfl (Nat.le_of_ble_eq_true rfl) rfl (k_toldOf_7 (Z := sJ Z (dg (dg (dg (dg (dg (dg (dg 2619 (Z.2.1 57 0)) (Z.2.1 57 1)) (Z.2.1 57 2)) ((mL (Z.2.1 54)) 0)) ((mL (Z.2.1 54)) 1)) ((mL (Z.2.1 54)) 2)) (Z.1 53 6))) mi) (fun r h1 hq => ?_)
                  obtain ⟨rfl, rfl⟩ := hq
                  refine XW.eqs (st' := [.int (Z.1 53 3), .ref 53]) rfl rfl rfl ?_
                  refine XW.i2l 22 dX4_digest_21 rfl ?_
                  refine XW.callV 25 (vs := [.long ((Z.1 53 3).toInt64)]) (rest := []) (mcr := 0) (msr := 0) c4_257 dX4_digest_22 rfl rfl (by decide) (Nat.le_of_ble_eq_true rfl) rfl rfl (Nat.le_of_ble_eq_true rfl) rfl (k_mix (Z := sJ Z (dg (dg (dg (dg (dg (dg (dg 2619 (Z.2.1 57 0)) (Z.2.1 57 1)) (Z.2.1 57 2)) ((mL (Z.2.1 54)) 0)) ((mL (Z.2.1 54)) 1)) ((mL (Z.2.1 54)) 2)) (Z.1 53 6))) _) (fun r h1 hq => ?_)
                  obtain ⟨rfl, rfl⟩ := hq
                  refine XW.eqs (h' := HP (sJ Z (dg (dg (dg (dg (dg (dg (dg (dg 2619 (Z.2.1 57 0)) (Z.2.1 57 1)) (Z.2.1 57 2)) ((mL (Z.2.1 54)) 0)) ((mL (Z.2.1 54)) 1)) ((mL (Z.2.1 54)) 2)) (Z.1 53 6)) (Z.1 53 3)))) rfl rfl rfl ?_
                  refine XW.iinc 28 (y := 8) (L' := [some (.ref 53), some (.int 8), none]) dX4_digest_25 rfl (by decide) (by decide) rfl rfl rfl ?_
                  refine XW.goto 9 dX4_digest_28 (by decide) ?_
                  refine XW.iload_n 10 dX4_digest_9 rfl rfl ?_
                  refine XW.bipush 12 dX4_digest_10 (v := 8) (by decide) rfl ?_
                  refine XW.icmp_geN 31 15 8 8 dX4_digest_12 (by decide) rfl rfl rfl (by omega) (by omega) (fun c_12 => ?_) (fun c_12 => ?_)
                  · refine XW.iconst 32 dX4_digest_31 (v := 0) (by decide) rfl ?_
                    refine XW.istore_n 33 (L' := [some (.ref 53), some (.int 0), none]) dX4_digest_32 (by decide) rfl rfl rfl ?_
                    refine XW.iload_n 34 dX4_digest_33 rfl rfl ?_
                    refine XW.bipush 36 dX4_digest_34 (v := 8) (by decide) rfl ?_
                    refine XW.icmp_geN 55 39 0 8 dX4_digest_36 (by decide) rfl rfl rfl (by omega) (by omega) (fun c_36 => ?_) (fun c_36 => ?_)
                    · exact absurd c_36 (by decide)
                    · refine XW.aload_n 40 dX4_digest_39 rfl rfl ?_
                      refine XW.aload_n 41 dX4_digest_40 rfl rfl ?_
                      refine XW.iload_n 42 dX4_digest_41 rfl rfl ?_
                      refine XW.callV 45 (vs := [.int 0]) (rest := [.ref 53]) (mcr := 0) (msr := 0) c4_195 dX4_digest_42 rfl rfl (by decide) (Nat.le_of_ble_eq_true rfl) rfl rfl (Nat.le_of_ble_eq_true rfl) rfl (k_countOf_0 (Z := sJ Z (dg (dg (dg (dg (dg (dg (dg (dg 2619 (Z.2.1 57 0)) (Z.2.1 57 1)) (Z.2.1 57 2)) ((mL (Z.2.1 54)) 0)) ((mL (Z.2.1 54)) 1)) ((mL (Z.2.1 54)) 2)) (Z.1 53 6)) (Z.1 53 3))) mi) (fun r h1 hq => ?_)
                      obtain ⟨rfl, rfl⟩ := hq
                      refine XW.eqs (st' := [.int (Z.2.1 54 0), .ref 53]) rfl rfl rfl ?_
                      refine XW.i2l 46 dX4_digest_45 rfl ?_
                      refine XW.callV 49 (vs := [.long ((Z.2.1 54 0).toInt64)]) (rest := []) (mcr := 0) (msr := 0) c4_257 dX4_digest_46 rfl rfl (by decide) (Nat.le_of_ble_eq_true rfl) rfl rfl (Nat.le_of_ble_eq_true rfl) rfl (k_mix (Z := sJ Z (dg (dg (dg (dg (dg (dg (dg (dg 2619 (Z.2.1 57 0)) (Z.2.1 57 1)) (Z.2.1 57 2)) ((mL (Z.2.1 54)) 0)) ((mL (Z.2.1 54)) 1)) ((mL (Z.2.1 54)) 2)) (Z.1 53 6)) (Z.1 53 3))) _) (fun r h1 hq => ?_)
                      obtain ⟨rfl, rfl⟩ := hq
                      refine XW.eqs (h' := HP (sJ Z (dg (dg (dg (dg (dg (dg (dg (dg (dg 2619 (Z.2.1 57 0)) (Z.2.1 57 1)) (Z.2.1 57 2)) ((mL (Z.2.1 54)) 0)) ((mL (Z.2.1 54)) 1)) ((mL (Z.2.1 54)) 2)) (Z.1 53 6)) (Z.1 53 3)) (Z.2.1 54 0)))) rfl rfl rfl ?_
                      refine XW.iinc 52 (y := 1) (L' := [some (.ref 53), some (.int 1), none]) dX4_digest_49 rfl (by decide) (by decide) rfl rfl rfl ?_
                      refine XW.goto 33 dX4_digest_52 (by decide) ?_
                      refine XW.iload_n 34 dX4_digest_33 rfl rfl ?_
                      refine XW.bipush 36 dX4_digest_34 (v := 8) (by decide) rfl ?_
                      refine XW.icmp_geN 55 39 1 8 dX4_digest_36 (by decide) rfl rfl rfl (by omega) (by omega) (fun c_36 => ?_) (fun c_36 => ?_)
                      · exact absurd c_36 (by decide)
                      · refine XW.aload_n 40 dX4_digest_39 rfl rfl ?_
                        refine XW.aload_n 41 dX4_digest_40 rfl rfl ?_
                        refine XW.iload_n 42 dX4_digest_41 rfl rfl ?_
                        refine XW.callV 45 (vs := [.int 1]) (rest := [.ref 53]) (mcr := 0) (msr := 0) c4_195 dX4_digest_42 rfl rfl (by decide) (Nat.le_of_ble_eq_true rfl) rfl rfl (Nat.le_of_ble_eq_true rfl) rfl (k_countOf_1 (Z := sJ Z (dg (dg (dg (dg (dg (dg (dg (dg (dg 2619 (Z.2.1 57 0)) (Z.2.1 57 1)) (Z.2.1 57 2)) ((mL (Z.2.1 54)) 0)) ((mL (Z.2.1 54)) 1)) ((mL (Z.2.1 54)) 2)) (Z.1 53 6)) (Z.1 53 3)) (Z.2.1 54 0))) mi) (fun r h1 hq => ?_)
                        obtain ⟨rfl, rfl⟩ := hq
                        refine XW.eqs (st' := [.int (ftM (mR (Z.2.1 54)) (mG (Z.2.1 54)) (mL (Z.2.1 54)) c), .ref 53]) rfl rfl rfl ?_
                        refine XW.i2l 46 dX4_digest_45 rfl ?_
                        refine XW.callV 49 (vs := [.long ((ftM (mR (Z.2.1 54)) (mG (Z.2.1 54)) (mL (Z.2.1 54)) c).toInt64)]) (rest := []) (mcr := 0) (msr := 0) c4_257 dX4_digest_46 rfl rfl (by decide) (Nat.le_of_ble_eq_true rfl) rfl rfl (Nat.le_of_ble_eq_true rfl) rfl (k_mix (Z := sJ Z (dg (dg (dg (dg (dg (dg (dg (dg (dg 2619 (Z.2.1 57 0)) (Z.2.1 57 1)) (Z.2.1 57 2)) ((mL (Z.2.1 54)) 0)) ((mL (Z.2.1 54)) 1)) ((mL (Z.2.1 54)) 2)) (Z.1 53 6)) (Z.1 53 3)) (Z.2.1 54 0))) _) (fun r h1 hq => ?_)
                        obtain ⟨rfl, rfl⟩ := hq
                        refine XW.eqs (h' := HP (sJ Z (dg (dg (dg (dg (dg (dg (dg (dg (dg (dg 2619 (Z.2.1 57 0)) (Z.2.1 57 1)) (Z.2.1 57 2)) ((mL (Z.2.1 54)) 0)) ((mL (Z.2.1 54)) 1)) ((mL (Z.2.1 54)) 2)) (Z.1 53 6)) (Z.1 53 3)) (Z.2.1 54 0)) (ftM (mR (Z.2.1 54)) (mG (Z.2.1 54)) (mL (Z.2.1 54)) c)))) rfl rfl rfl ?_
                        refine XW.iinc 52 (y := 2) (L' := [some (.ref 53), some (.int 2), none]) dX4_digest_49 rfl (by decide) (by decide) rfl rfl rfl ?_
                        refine XW.goto 33 dX4_digest_52 (by decide) ?_
                        refine XW.iload_n 34 dX4_digest_33 rfl rfl ?_
                        refine XW.bipush 36 dX4_digest_34 (v := 8) (by decide) rfl ?_
                        refine XW.icmp_geN 55 39 2 8 dX4_digest_36 (by decide) rfl rfl rfl (by omega) (by omega) (fun c_36 => ?_) (fun c_36 => ?_)
                        · exact absurd c_36 (by decide)
                        · refine XW.aload_n 40 dX4_digest_39 rfl rfl ?_
                          refine XW.aload_n 41 dX4_digest_40 rfl rfl ?_
                          refine XW.iload_n 42 dX4_digest_41 rfl rfl ?_
                          refine XW.callV 45 (vs := [.int 2]) (rest := [.ref 53]) (mcr := 0) (msr := 0) c4_195 dX4_digest_42 rfl rfl (by decide) (Nat.le_of_ble_eq_true rfl) rfl rfl (Nat.le_of_ble_eq_true rfl) rfl (k_countOf_2 (Z := sJ Z (dg (dg (dg (dg (dg (dg (dg (dg (dg (dg 2619 (Z.2.1 57 0)) (Z.2.1 57 1)) (Z.2.1 57 2)) ((mL (Z.2.1 54)) 0)) ((mL (Z.2.1 54)) 1)) ((mL (Z.2.1 54)) 2)) (Z.1 53 6)) (Z.1 53 3)) (Z.2.1 54 0)) (ftM (mR (Z.2.1 54)) (mG (Z.2.1 54)) (mL (Z.2.1 54)) c))) mi) (fun r h1 hq => ?_)
                          obtain ⟨rfl, rfl⟩ := hq
                          refine XW.eqs (st' := [.int (Z.2.1 54 61), .ref 53]) rfl rfl rfl ?_
                          refine XW.i2l 46 dX4_digest_45 rfl ?_
                          refine XW.callV 49 (vs := [.long ((Z.2.1 54 61).toInt64)]) (rest := []) (mcr := 0) (msr := 0) c4_257 dX4_digest_46 rfl rfl (by decide) (Nat.le_of_ble_eq_true rfl) rfl rfl (Nat.le_of_ble_eq_true rfl) rfl (k_mix (Z := sJ Z (dg (dg (dg (dg (dg (dg (dg (dg (dg (dg 2619 (Z.2.1 57 0)) (Z.2.1 57 1)) (Z.2.1 57 2)) ((mL (Z.2.1 54)) 0)) ((mL (Z.2.1 54)) 1)) ((mL (Z.2.1 54)) 2)) (Z.1 53 6)) (Z.1 53 3)) (Z.2.1 54 0)) (ftM (mR (Z.2.1 54)) (mG (Z.2.1 54)) (mL (Z.2.1 54)) c))) _) (fun r h1 hq => ?_)
                          obtain ⟨rfl, rfl⟩ := hq
                          refine XW.eqs (h' := HP (sJ Z (dg (dg (dg (dg (dg (dg (dg (dg (dg (dg (dg 2619 (Z.2.1 57 0)) (Z.2.1 57 1)) (Z.2.1 57 2)) ((mL (Z.2.1 54)) 0)) ((mL (Z.2.1 54)) 1)) ((mL (Z.2.1 54)) 2)) (Z.1 53 6)) (Z.1 53 3)) (Z.2.1 54 0)) (ftM (mR (Z.2.1 54)) (mG (Z.2.1 54)) (mL (Z.2.1 54)) c)) (Z.2.1 54 61)))) rfl rfl rfl ?_
                          refine XW.iinc 52 (y := 3) (L' := [some (.ref 53), some (.int 3), none]) dX4_digest_49 rfl (by decide) (by decide) rfl rfl rfl ?_
                          refine XW.goto 33 dX4_digest_52 (by decide) ?_
                          refine XW.iload_n 34 dX4_digest_33 rfl rfl ?_
                          refine XW.bipush 36 dX4_digest_34 (v := 8) (by decide) rfl ?_
                          refine XW.icmp_geN 55 39 3 8 dX4_digest_36 (by decide) rfl rfl rfl (by omega) (by omega) (fun c_36 => ?_) (fun c_36 => ?_)
                          · exact absurd c_36 (by decide)
                          · refine XW.aload_n 40 dX4_digest_39 rfl rfl ?_
                            refine XW.aload_n 41 dX4_digest_40 rfl rfl ?_
                            refine XW.iload_n 42 dX4_digest_41 rfl rfl ?_
                            refine XW.callV 45 (vs := [.int 3]) (rest := [.ref 53]) (mcr := 0) (msr := 0) c4_195 dX4_digest_42 rfl rfl (by decide) (Nat.le_of_ble_eq_true rfl) rfl rfl (Nat.le_of_ble_eq_true rfl) rfl (k_countOf_3 (Z := sJ Z (dg (dg (dg (dg (dg (dg (dg (dg (dg (dg (dg 2619 (Z.2.1 57 0)) (Z.2.1 57 1)) (Z.2.1 57 2)) ((mL (Z.2.1 54)) 0)) ((mL (Z.2.1 54)) 1)) ((mL (Z.2.1 54)) 2)) (Z.1 53 6)) (Z.1 53 3)) (Z.2.1 54 0)) (ftM (mR (Z.2.1 54)) (mG (Z.2.1 54)) (mL (Z.2.1 54)) c)) (Z.2.1 54 61))) mi) (fun r h1 hq => ?_)
                            obtain ⟨rfl, rfl⟩ := hq
                            refine XW.eqs (st' := [.int (Z.2.1 54 120), .ref 53]) rfl rfl rfl ?_
                            refine XW.i2l 46 dX4_digest_45 rfl ?_
                            refine XW.callV 49 (vs := [.long ((Z.2.1 54 120).toInt64)]) (rest := []) (mcr := 0) (msr := 0) c4_257 dX4_digest_46 rfl rfl (by decide) (Nat.le_of_ble_eq_true rfl) rfl rfl (Nat.le_of_ble_eq_true rfl) rfl (k_mix (Z := sJ Z (dg (dg (dg (dg (dg (dg (dg (dg (dg (dg (dg 2619 (Z.2.1 57 0)) (Z.2.1 57 1)) (Z.2.1 57 2)) ((mL (Z.2.1 54)) 0)) ((mL (Z.2.1 54)) 1)) ((mL (Z.2.1 54)) 2)) (Z.1 53 6)) (Z.1 53 3)) (Z.2.1 54 0)) (ftM (mR (Z.2.1 54)) (mG (Z.2.1 54)) (mL (Z.2.1 54)) c)) (Z.2.1 54 61))) _) (fun r h1 hq => ?_)
                            obtain ⟨rfl, rfl⟩ := hq
                            refine XW.eqs (h' := HP (sJ Z (dg (dg (dg (dg (dg (dg (dg (dg (dg (dg (dg (dg 2619 (Z.2.1 57 0)) (Z.2.1 57 1)) (Z.2.1 57 2)) ((mL (Z.2.1 54)) 0)) ((mL (Z.2.1 54)) 1)) ((mL (Z.2.1 54)) 2)) (Z.1 53 6)) (Z.1 53 3)) (Z.2.1 54 0)) (ftM (mR (Z.2.1 54)) (mG (Z.2.1 54)) (mL (Z.2.1 54)) c)) (Z.2.1 54 61)) (Z.2.1 54 120)))) rfl rfl rfl ?_
                            refine XW.iinc 52 (y := 4) (L' := [some (.ref 53), some (.int 4), none]) dX4_digest_49 rfl (by decide) (by decide) rfl rfl rfl ?_
                            refine XW.goto 33 dX4_digest_52 (by decide) ?_
                            refine XW.iload_n 34 dX4_digest_33 rfl rfl ?_
                            refine XW.bipush 36 dX4_digest_34 (v := 8) (by decide) rfl ?_
                            refine XW.icmp_geN 55 39 4 8 dX4_digest_36 (by decide) rfl rfl rfl (by omega) (by omega) (fun c_36 => ?_) (fun c_36 => ?_)
                            · exact absurd c_36 (by decide)
                            · refine XW.aload_n 40 dX4_digest_39 rfl rfl ?_
                              refine XW.aload_n 41 dX4_digest_40 rfl rfl ?_
                              refine XW.iload_n 42 dX4_digest_41 rfl rfl ?_
                              refine XW.callV 45 (vs := [.int 4]) (rest := [.ref 53]) (mcr := 0) (msr := 0) c4_195 dX4_digest_42 rfl rfl (by decide) (Nat.le_of_ble_eq_true rfl) rfl rfl (Nat.le_of_ble_eq_true rfl) rfl (k_countOf_4 (Z := sJ Z (dg (dg (dg (dg (dg (dg (dg (dg (dg (dg (dg (dg 2619 (Z.2.1 57 0)) (Z.2.1 57 1)) (Z.2.1 57 2)) ((mL (Z.2.1 54)) 0)) ((mL (Z.2.1 54)) 1)) ((mL (Z.2.1 54)) 2)) (Z.1 53 6)) (Z.1 53 3)) (Z.2.1 54 0)) (ftM (mR (Z.2.1 54)) (mG (Z.2.1 54)) (mL (Z.2.1 54)) c)) (Z.2.1 54 61)) (Z.2.1 54 120))) mi) (fun r h1 hq => ?_)
                              obtain ⟨rfl, rfl⟩ := hq
                              refine XW.eqs (st' := [.int (cbF (mE (Z.2.1 54)) 4), .ref 53]) rfl rfl rfl ?_
                              refine XW.i2l 46 dX4_digest_45 rfl ?_
                              refine XW.callV 49 (vs := [.long ((cbF (mE (Z.2.1 54)) 4).toInt64)]) (rest := []) (mcr := 0) (msr := 0) c4_257 dX4_digest_46 rfl rfl (by decide) (Nat.le_of_ble_eq_true rfl) rfl rfl (Nat.le_of_ble_eq_true rfl) rfl (k_mix (Z := sJ Z (dg (dg (dg (dg (dg (dg (dg (dg (dg (dg (dg (dg 2619 (Z.2.1 57 0)) (Z.2.1 57 1)) (Z.2.1 57 2)) ((mL (Z.2.1 54)) 0)) ((mL (Z.2.1 54)) 1)) ((mL (Z.2.1 54)) 2)) (Z.1 53 6)) (Z.1 53 3)) (Z.2.1 54 0)) (ftM (mR (Z.2.1 54)) (mG (Z.2.1 54)) (mL (Z.2.1 54)) c)) (Z.2.1 54 61)) (Z.2.1 54 120))) _) (fun r h1 hq => ?_)
                              obtain ⟨rfl, rfl⟩ := hq
                              refine XW.eqs (h' := HP (sJ Z (dg (dg (dg (dg (dg (dg (dg (dg (dg (dg (dg (dg (dg 2619 (Z.2.1 57 0)) (Z.2.1 57 1)) (Z.2.1 57 2)) ((mL (Z.2.1 54)) 0)) ((mL (Z.2.1 54)) 1)) ((mL (Z.2.1 54)) 2)) (Z.1 53 6)) (Z.1 53 3)) (Z.2.1 54 0)) (ftM (mR (Z.2.1 54)) (mG (Z.2.1 54)) (mL (Z.2.1 54)) c)) (Z.2.1 54 61)) (Z.2.1 54 120)) (cbF (mE (Z.2.1 54)) 4)))) rfl rfl rfl ?_
                              refine XW.iinc 52 (y := 5) (L' := [some (.ref 53), some (.int 5), none]) dX4_digest_49 rfl (by decide) (by decide) rfl rfl rfl ?_
                              refine XW.goto 33 dX4_digest_52 (by decide) ?_
                              refine XW.iload_n 34 dX4_digest_33 rfl rfl ?_
                              refine XW.bipush 36 dX4_digest_34 (v := 8) (by decide) rfl ?_
                              refine XW.icmp_geN 55 39 5 8 dX4_digest_36 (by decide) rfl rfl rfl (by omega) (by omega) (fun c_36 => ?_) (fun c_36 => ?_)
                              · exact absurd c_36 (by decide)
                              · refine XW.aload_n 40 dX4_digest_39 rfl rfl ?_
                                refine XW.aload_n 41 dX4_digest_40 rfl rfl ?_
                                refine XW.iload_n 42 dX4_digest_41 rfl rfl ?_
                                refine XW.callV 45 (vs := [.int 5]) (rest := [.ref 53]) (mcr := 0) (msr := 0) c4_195 dX4_digest_42 rfl rfl (by decide) (Nat.le_of_ble_eq_true rfl) rfl rfl (Nat.le_of_ble_eq_true rfl) rfl (k_countOf_5 (Z := sJ Z (dg (dg (dg (dg (dg (dg (dg (dg (dg (dg (dg (dg (dg 2619 (Z.2.1 57 0)) (Z.2.1 57 1)) (Z.2.1 57 2)) ((mL (Z.2.1 54)) 0)) ((mL (Z.2.1 54)) 1)) ((mL (Z.2.1 54)) 2)) (Z.1 53 6)) (Z.1 53 3)) (Z.2.1 54 0)) (ftM (mR (Z.2.1 54)) (mG (Z.2.1 54)) (mL (Z.2.1 54)) c)) (Z.2.1 54 61)) (Z.2.1 54 120)) (cbF (mE (Z.2.1 54)) 4))) mi) (fun r h1 hq => ?_)
                                obtain ⟨rfl, rfl⟩ := hq
                                refine XW.eqs (st' := [.int ((mG (Z.2.1 54)) 0), .ref 53]) rfl rfl rfl ?_
                                refine XW.i2l 46 dX4_digest_45 rfl ?_
                                refine XW.callV 49 (vs := [.long (((mG (Z.2.1 54)) 0).toInt64)]) (rest := []) (mcr := 0) (msr := 0) c4_257 dX4_digest_46 rfl rfl (by decide) (Nat.le_of_ble_eq_true rfl) rfl rfl (Nat.le_of_ble_eq_true rfl) rfl (k_mix (Z := sJ Z (dg (dg (dg (dg (dg (dg (dg (dg (dg (dg (dg (dg (dg 2619 (Z.2.1 57 0)) (Z.2.1 57 1)) (Z.2.1 57 2)) ((mL (Z.2.1 54)) 0)) ((mL (Z.2.1 54)) 1)) ((mL (Z.2.1 54)) 2)) (Z.1 53 6)) (Z.1 53 3)) (Z.2.1 54 0)) (ftM (mR (Z.2.1 54)) (mG (Z.2.1 54)) (mL (Z.2.1 54)) c)) (Z.2.1 54 61)) (Z.2.1 54 120)) (cbF (mE (Z.2.1 54)) 4))) _) (fun r h1 hq => ?_)
                                obtain ⟨rfl, rfl⟩ := hq
                                refine XW.eqs (h' := HP (sJ Z (dg (dg (dg (dg (dg (dg (dg (dg (dg (dg (dg (dg (dg (dg 2619 (Z.2.1 57 0)) (Z.2.1 57 1)) (Z.2.1 57 2)) ((mL (Z.2.1 54)) 0)) ((mL (Z.2.1 54)) 1)) ((mL (Z.2.1 54)) 2)) (Z.1 53 6)) (Z.1 53 3)) (Z.2.1 54 0)) (ftM (mR (Z.2.1 54)) (mG (Z.2.1 54)) (mL (Z.2.1 54)) c)) (Z.2.1 54 61)) (Z.2.1 54 120)) (cbF (mE (Z.2.1 54)) 4)) ((mG (Z.2.1 54)) 0)))) rfl rfl rfl ?_
                                refine XW.iinc 52 (y := 6) (L' := [some (.ref 53), some (.int 6), none]) dX4_digest_49 rfl (by decide) (by decide) rfl rfl rfl ?_
                                refine XW.goto 33 dX4_digest_52 (by decide) ?_
                                refine XW.iload_n 34 dX4_digest_33 rfl rfl ?_
                                refine XW.bipush 36 dX4_digest_34 (v := 8) (by decide) rfl ?_
                                refine XW.icmp_geN 55 39 6 8 dX4_digest_36 (by decide) rfl rfl rfl (by omega) (by omega) (fun c_36 => ?_) (fun c_36 => ?_)
                                · exact absurd c_36 (by decide)
                                · refine XW.aload_n 40 dX4_digest_39 rfl rfl ?_
                                  refine XW.aload_n 41 dX4_digest_40 rfl rfl ?_
                                  refine XW.iload_n 42 dX4_digest_41 rfl rfl ?_
                                  refine XW.callV 45 (vs := [.int 6]) (rest := [.ref 53]) (mcr := 0) (msr := 0) c4_195 dX4_digest_42 rfl rfl (by decide) (Nat.le_of_ble_eq_true rfl) rfl rfl (Nat.le_of_ble_eq_true rfl) rfl (k_countOf_6 (Z := sJ Z (dg (dg (dg (dg (dg (dg (dg (dg (dg (dg (dg (dg (dg (dg 2619 (Z.2.1 57 0)) (Z.2.1 57 1)) (Z.2.1 57 2)) ((mL (Z.2.1 54)) 0)) ((mL (Z.2.1 54)) 1)) ((mL (Z.2.1 54)) 2)) (Z.1 53 6)) (Z.1 53 3)) (Z.2.1 54 0)) (ftM (mR (Z.2.1 54)) (mG (Z.2.1 54)) (mL (Z.2.1 54)) c)) (Z.2.1 54 61)) (Z.2.1 54 120)) (cbF (mE (Z.2.1 54)) 4)) ((mG (Z.2.1 54)) 0))) mi) (fun r h1 hq => ?_)
                                  obtain ⟨rfl, rfl⟩ := hq
                                  refine XW.eqs (st' := [.int ((mG (Z.2.1 54)) 1), .ref 53]) rfl rfl rfl ?_
                                  refine XW.i2l 46 dX4_digest_45 rfl ?_
                                  refine XW.callV 49 (vs := [.long (((mG (Z.2.1 54)) 1).toInt64)]) (rest := []) (mcr := 0) (msr := 0) c4_257 dX4_digest_46 rfl rfl (by decide) (Nat.le_of_ble_eq_true rfl) rfl rfl (Nat.le_of_ble_eq_true rfl) rfl (k_mix (Z := sJ Z (dg (dg (dg (dg (dg (dg (dg (dg (dg (dg (dg (dg (dg (dg 2619 (Z.2.1 57 0)) (Z.2.1 57 1)) (Z.2.1 57 2)) ((mL (Z.2.1 54)) 0)) ((mL (Z.2.1 54)) 1)) ((mL (Z.2.1 54)) 2)) (Z.1 53 6)) (Z.1 53 3)) (Z.2.1 54 0)) (ftM (mR (Z.2.1 54)) (mG (Z.2.1 54)) (mL (Z.2.1 54)) c)) (Z.2.1 54 61)) (Z.2.1 54 120)) (cbF (mE (Z.2.1 54)) 4)) ((mG (Z.2.1 54)) 0))) _) (fun r h1 hq => ?_)
                                  obtain ⟨rfl, rfl⟩ := hq
                                  refine XW.eqs (h' := HP (sJ Z (dg (dg (dg (dg (dg (dg (dg (dg (dg (dg (dg (dg (dg (dg (dg 2619 (Z.2.1 57 0)) (Z.2.1 57 1)) (Z.2.1 57 2)) ((mL (Z.2.1 54)) 0)) ((mL (Z.2.1 54)) 1)) ((mL (Z.2.1 54)) 2)) (Z.1 53 6)) (Z.1 53 3)) (Z.2.1 54 0)) (ftM (mR (Z.2.1 54)) (mG (Z.2.1 54)) (mL (Z.2.1 54)) c)) (Z.2.1 54 61)) (Z.2.1 54 120)) (cbF (mE (Z.2.1 54)) 4)) ((mG (Z.2.1 54)) 0)) ((mG (Z.2.1 54)) 1)))) rfl rfl rfl ?_
                                  refine XW.iinc 52 (y := 7) (L' := [some (.ref 53), some (.int 7), none]) dX4_digest_49 rfl (by decide) (by decide) rfl rfl rfl ?_
                                  refine XW.goto 33 dX4_digest_52 (by decide) ?_
                                  refine XW.iload_n 34 dX4_digest_33 rfl rfl ?_
                                  refine XW.bipush 36 dX4_digest_34 (v := 8) (by decide) rfl ?_
                                  refine XW.icmp_geN 55 39 7 8 dX4_digest_36 (by decide) rfl rfl rfl (by omega) (by omega) (fun c_36 => ?_) (fun c_36 => ?_)
                                  · exact absurd c_36 (by decide)
                                  · refine XW.aload_n 40 dX4_digest_39 rfl rfl ?_
                                    refine XW.aload_n 41 dX4_digest_40 rfl rfl ?_
                                    refine XW.iload_n 42 dX4_digest_41 rfl rfl ?_
                                    refine XW.callV 45 (vs := [.int 7]) (rest := [.ref 53]) (mcr := 0) (msr := 0) c4_195 dX4_digest_42 rfl rfl (by decide) (Nat.le_of_ble_eq_true rfl) rfl rfl (Nat.le_of_ble_eq_true rfl) rfl (k_countOf_7 (Z := sJ Z (dg (dg (dg (dg (dg (dg (dg (dg (dg (dg (dg (dg (dg (dg (dg 2619 (Z.2.1 57 0)) (Z.2.1 57 1)) (Z.2.1 57 2)) ((mL (Z.2.1 54)) 0)) ((mL (Z.2.1 54)) 1)) ((mL (Z.2.1 54)) 2)) (Z.1 53 6)) (Z.1 53 3)) (Z.2.1 54 0)) (ftM (mR (Z.2.1 54)) (mG (Z.2.1 54)) (mL (Z.2.1 54)) c)) (Z.2.1 54 61)) (Z.2.1 54 120)) (cbF (mE (Z.2.1 54)) 4)) ((mG (Z.2.1 54)) 0)) ((mG (Z.2.1 54)) 1))) mi) (fun r h1 hq => ?_)
                                    obtain ⟨rfl, rfl⟩ := hq
                                    refine XW.eqs (st' := [.int ((mG (Z.2.1 54)) 2), .ref 53]) rfl rfl rfl ?_
                                    refine XW.i2l 46 dX4_digest_45 rfl ?_
                                    refine XW.callV 49 (vs := [.long (((mG (Z.2.1 54)) 2).toInt64)]) (rest := []) (mcr := 0) (msr := 0) c4_257 dX4_digest_46 rfl rfl (by decide) (Nat.le_of_ble_eq_true rfl) rfl rfl (Nat.le_of_ble_eq_true rfl) rfl (k_mix (Z := sJ Z (dg (dg (dg (dg (dg (dg (dg (dg (dg (dg (dg (dg (dg (dg (dg 2619 (Z.2.1 57 0)) (Z.2.1 57 1)) (Z.2.1 57 2)) ((mL (Z.2.1 54)) 0)) ((mL (Z.2.1 54)) 1)) ((mL (Z.2.1 54)) 2)) (Z.1 53 6)) (Z.1 53 3)) (Z.2.1 54 0)) (ftM (mR (Z.2.1 54)) (mG (Z.2.1 54)) (mL (Z.2.1 54)) c)) (Z.2.1 54 61)) (Z.2.1 54 120)) (cbF (mE (Z.2.1 54)) 4)) ((mG (Z.2.1 54)) 0)) ((mG (Z.2.1 54)) 1))) _) (fun r h1 hq => ?_)
                                    obtain ⟨rfl, rfl⟩ := hq
                                    refine XW.eqs (h' := HP (sJ Z (dg (dg (dg (dg (dg (dg (dg (dg (dg (dg (dg (dg (dg (dg (dg (dg 2619 (Z.2.1 57 0)) (Z.2.1 57 1)) (Z.2.1 57 2)) ((mL (Z.2.1 54)) 0)) ((mL (Z.2.1 54)) 1)) ((mL (Z.2.1 54)) 2)) (Z.1 53 6)) (Z.1 53 3)) (Z.2.1 54 0)) (ftM (mR (Z.2.1 54)) (mG (Z.2.1 54)) (mL (Z.2.1 54)) c)) (Z.2.1 54 61)) (Z.2.1 54 120)) (cbF (mE (Z.2.1 54)) 4)) ((mG (Z.2.1 54)) 0)) ((mG (Z.2.1 54)) 1)) ((mG (Z.2.1 54)) 2)))) rfl rfl rfl ?_
                                    refine XW.iinc 52 (y := 8) (L' := [some (.ref 53), some (.int 8), none]) dX4_digest_49 rfl (by decide) (by decide) rfl rfl rfl ?_
                                    refine XW.goto 33 dX4_digest_52 (by decide) ?_
                                    refine XW.iload_n 34 dX4_digest_33 rfl rfl ?_
                                    refine XW.bipush 36 dX4_digest_34 (v := 8) (by decide) rfl ?_
                                    refine XW.icmp_geN 55 39 8 8 dX4_digest_36 (by decide) rfl rfl rfl (by omega) (by omega) (fun c_36 => ?_) (fun c_36 => ?_)
                                    · refine XW.iconst 56 dX4_digest_55 (v := 0) (by decide) rfl ?_
                                      refine XW.istore_n 57 (L' := [some (.ref 53), some (.int 0), none]) dX4_digest_56 (by decide) rfl rfl rfl ?_
                                      refine XW.eqs (L' := [some (.ref 53), some (.int (nI 0)), none]) (h' := HP (sJ Z (dgT (Z.2.1 57 0) (Z.2.1 57 1) (Z.2.1 57 2) ((mL (Z.2.1 54)) 0) ((mL (Z.2.1 54)) 1) ((mL (Z.2.1 54)) 2) (Z.1 53 6) (Z.1 53 3) (Z.2.1 54 0) (ftM (mR (Z.2.1 54)) (mG (Z.2.1 54)) (mL (Z.2.1 54)) c) (Z.2.1 54 61) (Z.2.1 54 120) (cbF (mE (Z.2.1 54)) 4) ((mG (Z.2.1 54)) 0) ((mG (Z.2.1 54)) 1) ((mG (Z.2.1 54)) 2)))) (by rfl) rfl (by rfl) ?_
                                      exact l_mdig_57 mi (D := dgT (Z.2.1 57 0) (Z.2.1 57 1) (Z.2.1 57 2) ((mL (Z.2.1 54)) 0) ((mL (Z.2.1 54)) 1) ((mL (Z.2.1 54)) 2) (Z.1 53 6) (Z.1 53 3) (Z.2.1 54 0) (ftM (mR (Z.2.1 54)) (mG (Z.2.1 54)) (mL (Z.2.1 54)) c) (Z.2.1 54 61) (Z.2.1 54 120) (cbF (mE (Z.2.1 54)) 4) ((mG (Z.2.1 54)) 0) ((mG (Z.2.1 54)) 1) ((mG (Z.2.1 54)) 2)) (c + 1) 0 (by omega) (by omega)
                                    · exact absurd c_36 (by decide)
                  · exact absurd c_12 (by decide)
