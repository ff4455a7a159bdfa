/-! The class: scenes, what is written -/
def bc1 (x : Int32) : Int32 := x - ((x.toUInt32 >>> ((1 : Int32).toUInt32 &&& Int32.toUInt32 31)).toInt32 &&& 1431655765)
def bc2 (x : Int32) : Int32 := (x &&& 858993459) + ((x.toUInt32 >>> ((2 : Int32).toUInt32 &&& Int32.toUInt32 31)).toInt32 &&& 858993459)
def bc3 (x : Int32) : Int32 := (x + (x.toUInt32 >>> ((4 : Int32).toUInt32 &&& Int32.toUInt32 31)).toInt32) &&& 252645135
def bc4 (x : Int32) : Int32 := x + (x.toUInt32 >>> ((8 : Int32).toUInt32 &&& Int32.toUInt32 31)).toInt32
def bc5 (x : Int32) : Int32 := x + (x.toUInt32 >>> ((16 : Int32).toUInt32 &&& Int32.toUInt32 31)).toInt32
/-- Integer.bitCount -/
def bcF (x : Int32) : Int32 := bc5 (bc4 (bc3 (bc2 (bc1 x)))) &&& 63
set_option maxHeartbeats 4000000 in
set_option maxRecDepth 100000 in
theorem c_bitCount (x : Int32) (h : xH) : XC mJ6_bitCount_0f7a4 0 0 0 [.int x] (h) (fun r h' => r = some (.int (bcF x)) ∧ h' = h) := by
  show XW mJ6_bitCount_0f7a4 0 0 0 0 [some (.int x)] [] (h) _
  refine XW.iload_n 1 dJ6_bitCount_0f7a4_0 rfl rfl ?_
  refine XW.iload_n 2 dJ6_bitCount_0f7a4_1 rfl rfl ?_
  refine XW.iconst 3 dJ6_bitCount_0f7a4_2 (v := 1) (by decide) rfl ?_
  refine XW.iushr 4 dJ6_bitCount_0f7a4_3 rfl ?_
  refine XW.ldcwi 7 k6_265 dJ6_bitCount_0f7a4_4 rfl ?_
  refine XW.iand 8 dJ6_bitCount_0f7a4_7 rfl ?_
  refine XW.isub 9 dJ6_bitCount_0f7a4_8 rfl ?_
  refine XW.istore_n 10 (L' := [some (.int (x - ((((x : Int32).toUInt32 >>> ((1 : Int32).toUInt32 &&& Int32.toUInt32 31)).toInt32) &&& 1431655765)))]) dJ6_bitCount_0f7a4_9 (by decide) rfl rfl rfl ?_
  refine XW.eqs (L' := [some (.int (bc1 x))]) rfl rfl rfl ?_
  refine XW.iload_n 11 dJ6_bitCount_0f7a4_10 rfl rfl ?_
  refine XW.ldcwi 14 k6_266 dJ6_bitCount_0f7a4_11 rfl ?_
  refine XW.iand 15 dJ6_bitCount_0f7a4_14 rfl ?_
  refine XW.iload_n 16 dJ6_bitCount_0f7a4_15 rfl rfl ?_
  refine XW.iconst 17 dJ6_bitCount_0f7a4_16 (v := 2) (by decide) rfl ?_
  refine XW.iushr 18 dJ6_bitCount_0f7a4_17 rfl ?_
  refine XW.ldcwi 21 k6_266 dJ6_bitCount_0f7a4_18 rfl ?_
  refine XW.iand 22 dJ6_bitCount_0f7a4_21 rfl ?_
  refine XW.iadd 23 dJ6_bitCount_0f7a4_22 rfl ?_
  refine XW.istore_n 24 (L' := [some (.int (((bc1 x) &&& 858993459) + (((((bc1 x) : Int32).toUInt32 >>> ((2 : Int32).toUInt32 &&& Int32.toUInt32 31)).toInt32) &&& 858993459)))]) dJ6_bitCount_0f7a4_23 (by decide) rfl rfl rfl ?_
  refine XW.eqs (L' := [some (.int (bc2 (bc1 x)))]) rfl rfl rfl ?_
  refine XW.iload_n 25 dJ6_bitCount_0f7a4_24 rfl rfl ?_
  refine XW.iload_n 26 dJ6_bitCount_0f7a4_25 rfl rfl ?_
  refine XW.iconst 27 dJ6_bitCount_0f7a4_26 (v := 4) (by decide) rfl ?_
  refine XW.iushr 28 dJ6_bitCount_0f7a4_27 rfl ?_
  refine XW.iadd 29 dJ6_bitCount_0f7a4_28 rfl ?_
  refine XW.ldcwi 32 k6_267 dJ6_bitCount_0f7a4_29 rfl ?_
  refine XW.iand 33 dJ6_bitCount_0f7a4_32 rfl ?_
  refine XW.istore_n 34 (L' := [some (.int (((bc2 (bc1 x)) + ((((bc2 (bc1 x)) : Int32).toUInt32 >>> ((4 : Int32).toUInt32 &&& Int32.toUInt32 31)).toInt32)) &&& 252645135))]) dJ6_bitCount_0f7a4_33 (by decide) rfl rfl rfl ?_
  refine XW.eqs (L' := [some (.int (bc3 (bc2 (bc1 x))))]) rfl rfl rfl ?_
  refine XW.iload_n 35 dJ6_bitCount_0f7a4_34 rfl rfl ?_
  refine XW.iload_n 36 dJ6_bitCount_0f7a4_35 rfl rfl ?_
  refine XW.bipush 38 dJ6_bitCount_0f7a4_36 (v := 8) (by decide) rfl ?_
  refine XW.iushr 39 dJ6_bitCount_0f7a4_38 rfl ?_
  refine XW.iadd 40 dJ6_bitCount_0f7a4_39 rfl ?_
  refine XW.istore_n 41 (L' := [some (.int ((bc3 (bc2 (bc1 x))) + ((((bc3 (bc2 (bc1 x))) : Int32).toUInt32 >>> ((8 : Int32).toUInt32 &&& Int32.toUInt32 31)).toInt32)))]) dJ6_bitCount_0f7a4_40 (by decide) rfl rfl rfl ?_
  refine XW.eqs (L' := [some (.int (bc4 (bc3 (bc2 (bc1 x)))))]) rfl rfl rfl ?_
  refine XW.iload_n 42 dJ6_bitCount_0f7a4_41 rfl rfl ?_
  refine XW.iload_n 43 dJ6_bitCount_0f7a4_42 rfl rfl ?_
  refine XW.bipush 45 dJ6_bitCount_0f7a4_43 (v := 16) (by decide) rfl ?_
  refine XW.iushr 46 dJ6_bitCount_0f7a4_45 rfl ?_
  refine XW.iadd 47 dJ6_bitCount_0f7a4_46 rfl ?_
  refine XW.istore_n 48 (L' := [some (.int ((bc4 (bc3 (bc2 (bc1 x)))) + ((((bc4 (bc3 (bc2 (bc1 x)))) : Int32).toUInt32 >>> ((16 : Int32).toUInt32 &&& Int32.toUInt32 31)).toInt32)))]) dJ6_bitCount_0f7a4_47 (by decide) rfl rfl rfl ?_
  refine XW.eqs (L' := [some (.int (bc5 (bc4 (bc3 (bc2 (bc1 x))))))]) rfl rfl rfl ?_
  refine XW.iload_n 49 dJ6_bitCount_0f7a4_48 rfl rfl ?_
  refine XW.bipush 51 dJ6_bitCount_0f7a4_49 (v := 63) (by decide) rfl ?_
  refine XW.iand 52 dJ6_bitCount_0f7a4_51 rfl ?_
  exact XW.iret dJ6_bitCount_0f7a4_52 rfl (⟨rfl, rfl⟩)
/-- how many of three are other -/
def otF (f : Nat → Int32) (k : Nat) (r g b : Int32) : Int32 := ((if f k = r then 0 else 1) + (if f (k + 1) = g then 0 else 1)) + (if f (k + 2) = b then 0 else 1)
def up3 (f : Nat → Int32) (k : Nat) (r g b : Int32) : Nat → Int32 := upd (upd (upd f k r) (k + 1) g) (k + 2) b
set_option maxHeartbeats 4000000 in
set_option maxRecDepth 100000 in
theorem c_putRgb2 {Z : xZ} {x : Int32} {k : Nat} (r g b : Int32) (hx : x = nI k) (hk : k + 2 < 60) : XC mX3_putRgb 0 0 0 [.ref 2, .int x, .int r, .int g, .int b] (HP Z) (fun q h' => q = some (.int (otF (Z.2.1 2) k r g b)) ∧ h' = HP (sA Z 2 (up3 (Z.2.1 2) k r g b))) := by
  show XW mX3_putRgb 0 0 0 0 [some (.ref 2), some (.int x), some (.int r), some (.int g), some (.int b), none] [] (HP Z) _
  refine XW.aload_n 1 dX3_putRgb_0 rfl rfl ?_
  refine XW.iload_n 2 dX3_putRgb_1 rfl rfl ?_
  refine XW.iald 3 k dX3_putRgb_2 rfl hx (by omega) (by decide) rfl ?_
  refine XW.iload_n 4 dX3_putRgb_3 rfl rfl ?_
  refine XW.icmp_ne 11 7 dX3_putRgb_4 (by decide) rfl (fun c_4 => ?_) (fun c_4 => ?_)
  · refine XW.iconst 12 dX3_putRgb_11 (v := 1) (by decide) rfl ?_
    refine XW.aload_n 13 dX3_putRgb_12 rfl rfl ?_
    refine XW.iload_n 14 dX3_putRgb_13 rfl rfl ?_
    refine XW.iconst 15 dX3_putRgb_14 (v := 1) (by decide) rfl ?_
    refine XW.iadd 16 dX3_putRgb_15 rfl ?_
    refine XW.iald 17 (k + 1) dX3_putRgb_16 rfl (na hx rfl) (by omega) (by decide) rfl ?_
    refine XW.iload_n 18 dX3_putRgb_17 rfl rfl ?_
    refine XW.icmp_ne 25 21 dX3_putRgb_18 (by decide) rfl (fun c_18 => ?_) (fun c_18 => ?_)
    · refine XW.iconst 26 dX3_putRgb_25 (v := 1) (by decide) rfl ?_
      refine XW.iadd 27 dX3_putRgb_26 rfl ?_
      refine XW.aload_n 28 dX3_putRgb_27 rfl rfl ?_
      refine XW.iload_n 29 dX3_putRgb_28 rfl rfl ?_
      refine XW.iconst 30 dX3_putRgb_29 (v := 2) (by decide) rfl ?_
      refine XW.iadd 31 dX3_putRgb_30 rfl ?_
      refine XW.iald 32 (k + 2) dX3_putRgb_31 rfl (na hx rfl) (by omega) (by decide) rfl ?_
      refine XW.iload 34 dX3_putRgb_32 rfl rfl ?_
      refine XW.icmp_ne 41 37 dX3_putRgb_34 (by decide) rfl (fun c_34 => ?_) (fun c_34 => ?_)
      · refine XW.iconst 42 dX3_putRgb_41 (v := 1) (by decide) rfl ?_
        refine XW.iadd 43 dX3_putRgb_42 rfl ?_
        refine XW.istore 45 (L' := [some (.ref 2), some (.int x), some (.int r), some (.int g), some (.int b), some (.int ((1 + 1) + 1))]) dX3_putRgb_43 (by decide) rfl rfl rfl ?_
        refine XW.aload_n 46 dX3_putRgb_45 rfl rfl ?_
        refine XW.iload_n 47 dX3_putRgb_46 rfl rfl ?_
        refine XW.iload_n 48 dX3_putRgb_47 rfl rfl ?_
        refine XW.iast 49 (h' := HP (sA Z 2 (upd (Z.2.1 2) k r))) k dX3_putRgb_48 rfl hx (by omega) (by decide) rfl rfl ?_
        refine XW.aload_n 50 dX3_putRgb_49 rfl rfl ?_
        refine XW.iload_n 51 dX3_putRgb_50 rfl rfl ?_
        refine XW.iconst 52 dX3_putRgb_51 (v := 1) (by decide) rfl ?_
        refine XW.iadd 53 dX3_putRgb_52 rfl ?_
        refine XW.iload_n 54 dX3_putRgb_53 rfl rfl ?_
        refine XW.iast 55 (h' := HP (sA (sA Z 2 (upd (Z.2.1 2) k r)) 2 (upd (upd (Z.2.1 2) k r) (k + 1) g))) (k + 1) dX3_putRgb_54 rfl (na hx rfl) (by omega) (by decide) rfl rfl ?_
        refine XW.aload_n 56 dX3_putRgb_55 rfl rfl ?_
        refine XW.iload_n 57 dX3_putRgb_56 rfl rfl ?_
        refine XW.iconst 58 dX3_putRgb_57 (v := 2) (by decide) rfl ?_
        refine XW.iadd 59 dX3_putRgb_58 rfl ?_
        refine XW.iload 61 dX3_putRgb_59 rfl rfl ?_
        refine XW.iast 62 (h' := HP (sA (sA (sA Z 2 (upd (Z.2.1 2) k r)) 2 (upd (upd (Z.2.1 2) k r) (k + 1) g)) 2 (upd (upd (upd (Z.2.1 2) k r) (k + 1) g) (k + 2) b))) (k + 2) dX3_putRgb_61 rfl (na hx rfl) (by omega) (by decide) rfl rfl ?_
        refine XW.iload 64 dX3_putRgb_62 rfl rfl ?_
        exact XW.iret dX3_putRgb_64 rfl (⟨by simp [otF, *], rfl⟩)
      · refine XW.iconst 38 dX3_putRgb_37 (v := 0) (by decide) rfl ?_
        refine XW.goto 42 dX3_putRgb_38 (by decide) ?_
        refine XW.iadd 43 dX3_putRgb_42 rfl ?_
        refine XW.istore 45 (L' := [some (.ref 2), some (.int x), some (.int r), some (.int g), some (.int b), some (.int ((1 + 1) + 0))]) dX3_putRgb_43 (by decide) rfl rfl rfl ?_
        refine XW.aload_n 46 dX3_putRgb_45 rfl rfl ?_
        refine XW.iload_n 47 dX3_putRgb_46 rfl rfl ?_
        refine XW.iload_n 48 dX3_putRgb_47 rfl rfl ?_
        refine XW.iast 49 (h' := HP (sA Z 2 (upd (Z.2.1 2) k r))) k dX3_putRgb_48 rfl hx (by omega) (by decide) rfl rfl ?_
        refine XW.aload_n 50 dX3_putRgb_49 rfl rfl ?_
        refine XW.iload_n 51 dX3_putRgb_50 rfl rfl ?_
        refine XW.iconst 52 dX3_putRgb_51 (v := 1) (by decide) rfl ?_
        refine XW.iadd 53 dX3_putRgb_52 rfl ?_
        refine XW.iload_n 54 dX3_putRgb_53 rfl rfl ?_
        refine XW.iast 55 (h' := HP (sA (sA Z 2 (upd (Z.2.1 2) k r)) 2 (upd (upd (Z.2.1 2) k r) (k + 1) g))) (k + 1) dX3_putRgb_54 rfl (na hx rfl) (by omega) (by decide) rfl rfl ?_
        refine XW.aload_n 56 dX3_putRgb_55 rfl rfl ?_
        refine XW.iload_n 57 dX3_putRgb_56 rfl rfl ?_
        refine XW.iconst 58 dX3_putRgb_57 (v := 2) (by decide) rfl ?_
        refine XW.iadd 59 dX3_putRgb_58 rfl ?_
        refine XW.iload 61 dX3_putRgb_59 rfl rfl ?_
        refine XW.iast 62 (h' := HP (sA (sA (sA Z 2 (upd (Z.2.1 2) k r)) 2 (upd (upd (Z.2.1 2) k r) (k + 1) g)) 2 (upd (upd (upd (Z.2.1 2) k r) (k + 1) g) (k + 2) b))) (k + 2) dX3_putRgb_61 rfl (na hx rfl) (by omega) (by decide) rfl rfl ?_
        refine XW.iload 64 dX3_putRgb_62 rfl rfl ?_
        exact XW.iret dX3_putRgb_64 rfl (⟨by simp [otF, *], rfl⟩)
    · refine XW.iconst 22 dX3_putRgb_21 (v := 0) (by decide) rfl ?_
      refine XW.goto 26 dX3_putRgb_22 (by decide) ?_
      refine XW.iadd 27 dX3_putRgb_26 rfl ?_
      refine XW.aload_n 28 dX3_putRgb_27 rfl rfl ?_
      refine XW.iload_n 29 dX3_putRgb_28 rfl rfl ?_
      refine XW.iconst 30 dX3_putRgb_29 (v := 2) (by decide) rfl ?_
      refine XW.iadd 31 dX3_putRgb_30 rfl ?_
      refine XW.iald 32 (k + 2) dX3_putRgb_31 rfl (na hx rfl) (by omega) (by decide) rfl ?_
      refine XW.iload 34 dX3_putRgb_32 rfl rfl ?_
      refine XW.icmp_ne 41 37 dX3_putRgb_34 (by decide) rfl (fun c_34 => ?_) (fun c_34 => ?_)
      · refine XW.iconst 42 dX3_putRgb_41 (v := 1) (by decide) rfl ?_
        refine XW.iadd 43 dX3_putRgb_42 rfl ?_
        refine XW.istore 45 (L' := [some (.ref 2), some (.int x), some (.int r), some (.int g), some (.int b), some (.int ((1 + 0) + 1))]) dX3_putRgb_43 (by decide) rfl rfl rfl ?_
        refine XW.aload_n 46 dX3_putRgb_45 rfl rfl ?_
        refine XW.iload_n 47 dX3_putRgb_46 rfl rfl ?_
        refine XW.iload_n 48 dX3_putRgb_47 rfl rfl ?_
        refine XW.iast 49 (h' := HP (sA Z 2 (upd (Z.2.1 2) k r))) k dX3_putRgb_48 rfl hx (by omega) (by decide) rfl rfl ?_
        refine XW.aload_n 50 dX3_putRgb_49 rfl rfl ?_
        refine XW.iload_n 51 dX3_putRgb_50 rfl rfl ?_
        refine XW.iconst 52 dX3_putRgb_51 (v := 1) (by decide) rfl ?_
        refine XW.iadd 53 dX3_putRgb_52 rfl ?_
        refine XW.iload_n 54 dX3_putRgb_53 rfl rfl ?_
        refine XW.iast 55 (h' := HP (sA (sA Z 2 (upd (Z.2.1 2) k r)) 2 (upd (upd (Z.2.1 2) k r) (k + 1) g))) (k + 1) dX3_putRgb_54 rfl (na hx rfl) (by omega) (by decide) rfl rfl ?_
        refine XW.aload_n 56 dX3_putRgb_55 rfl rfl ?_
        refine XW.iload_n 57 dX3_putRgb_56 rfl rfl ?_
        refine XW.iconst 58 dX3_putRgb_57 (v := 2) (by decide) rfl ?_
        refine XW.iadd 59 dX3_putRgb_58 rfl ?_
        refine XW.iload 61 dX3_putRgb_59 rfl rfl ?_
        refine XW.iast 62 (h' := HP (sA (sA (sA Z 2 (upd (Z.2.1 2) k r)) 2 (upd (upd (Z.2.1 2) k r) (k + 1) g)) 2 (upd (upd (upd (Z.2.1 2) k r) (k + 1) g) (k + 2) b))) (k + 2) dX3_putRgb_61 rfl (na hx rfl) (by omega) (by decide) rfl rfl ?_
        refine XW.iload 64 dX3_putRgb_62 rfl rfl ?_
        exact XW.iret dX3_putRgb_64 rfl (⟨by simp [otF, *], rfl⟩)
      · refine XW.iconst 38 dX3_putRgb_37 (v := 0) (by decide) rfl ?_
        refine XW.goto 42 dX3_putRgb_38 (by decide) ?_
        refine XW.iadd 43 dX3_putRgb_42 rfl ?_
        refine XW.istore 45 (L' := [some (.ref 2), some (.int x), some (.int r), some (.int g), some (.int b), some (.int ((1 + 0) + 0))]) dX3_putRgb_43 (by decide) rfl rfl rfl ?_
        refine XW.aload_n 46 dX3_putRgb_45 rfl rfl ?_
        refine XW.iload_n 47 dX3_putRgb_46 rfl rfl ?_
        refine XW.iload_n 48 dX3_putRgb_47 rfl rfl ?_
        refine XW.iast 49 (h' := HP (sA Z 2 (upd (Z.2.1 2) k r))) k dX3_putRgb_48 rfl hx (by omega) (by decide) rfl rfl ?_
        refine XW.aload_n 50 dX3_putRgb_49 rfl rfl ?_
        refine XW.iload_n 51 dX3_putRgb_50 rfl rfl ?_
        refine XW.iconst 52 dX3_putRgb_51 (v := 1) (by decide) rfl ?_
        refine XW.iadd 53 dX3_putRgb_52 rfl ?_
        refine XW.iload_n 54 dX3_putRgb_53 rfl rfl ?_
        refine XW.iast 55 (h' := HP (sA (sA Z 2 (upd (Z.2.1 2) k r)) 2 (upd (upd (Z.2.1 2) k r) (k + 1) g))) (k + 1) dX3_putRgb_54 rfl (na hx rfl) (by omega) (by decide) rfl rfl ?_
        refine XW.aload_n 56 dX3_putRgb_55 rfl rfl ?_
        refine XW.iload_n 57 dX3_putRgb_56 rfl rfl ?_
        refine XW.iconst 58 dX3_putRgb_57 (v := 2) (by decide) rfl ?_
        refine XW.iadd 59 dX3_putRgb_58 rfl ?_
        refine XW.iload 61 dX3_putRgb_59 rfl rfl ?_
        refine XW.iast 62 (h' := HP (sA (sA (sA Z 2 (upd (Z.2.1 2) k r)) 2 (upd (upd (Z.2.1 2) k r) (k + 1) g)) 2 (upd (upd (upd (Z.2.1 2) k r) (k + 1) g) (k + 2) b))) (k + 2) dX3_putRgb_61 rfl (na hx rfl) (by omega) (by decide) rfl rfl ?_
        refine XW.iload 64 dX3_putRgb_62 rfl rfl ?_
        exact XW.iret dX3_putRgb_64 rfl (⟨by simp [otF, *], rfl⟩)
  · refine XW.iconst 8 dX3_putRgb_7 (v := 0) (by decide) rfl ?_
    refine XW.goto 12 dX3_putRgb_8 (by decide) ?_
    refine XW.aload_n 13 dX3_putRgb_12 rfl rfl ?_
    refine XW.iload_n 14 dX3_putRgb_13 rfl rfl ?_
    refine XW.iconst 15 dX3_putRgb_14 (v := 1) (by decide) rfl ?_
    refine XW.iadd 16 dX3_putRgb_15 rfl ?_
    refine XW.iald 17 (k + 1) dX3_putRgb_16 rfl (na hx rfl) (by omega) (by decide) rfl ?_
    refine XW.iload_n 18 dX3_putRgb_17 rfl rfl ?_
    refine XW.icmp_ne 25 21 dX3_putRgb_18 (by decide) rfl (fun c_18 => ?_) (fun c_18 => ?_)
    · refine XW.iconst 26 dX3_putRgb_25 (v := 1) (by decide) rfl ?_
      refine XW.iadd 27 dX3_putRgb_26 rfl ?_
      refine XW.aload_n 28 dX3_putRgb_27 rfl rfl ?_
      refine XW.iload_n 29 dX3_putRgb_28 rfl rfl ?_
      refine XW.iconst 30 dX3_putRgb_29 (v := 2) (by decide) rfl ?_
      refine XW.iadd 31 dX3_putRgb_30 rfl ?_
      refine XW.iald 32 (k + 2) dX3_putRgb_31 rfl (na hx rfl) (by omega) (by decide) rfl ?_
      refine XW.iload 34 dX3_putRgb_32 rfl rfl ?_
      refine XW.icmp_ne 41 37 dX3_putRgb_34 (by decide) rfl (fun c_34 => ?_) (fun c_34 => ?_)
      · refine XW.iconst 42 dX3_putRgb_41 (v := 1) (by decide) rfl ?_
        refine XW.iadd 43 dX3_putRgb_42 rfl ?_
        refine XW.istore 45 (L' := [some (.ref 2), some (.int x), some (.int r), some (.int g), some (.int b), some (.int ((0 + 1) + 1))]) dX3_putRgb_43 (by decide) rfl rfl rfl ?_
        refine XW.aload_n 46 dX3_putRgb_45 rfl rfl ?_
        refine XW.iload_n 47 dX3_putRgb_46 rfl rfl ?_
        refine XW.iload_n 48 dX3_putRgb_47 rfl rfl ?_
        refine XW.iast 49 (h' := HP (sA Z 2 (upd (Z.2.1 2) k r))) k dX3_putRgb_48 rfl hx (by omega) (by decide) rfl rfl ?_
        refine XW.aload_n 50 dX3_putRgb_49 rfl rfl ?_
        refine XW.iload_n 51 dX3_putRgb_50 rfl rfl ?_
        refine XW.iconst 52 dX3_putRgb_51 (v := 1) (by decide) rfl ?_
        refine XW.iadd 53 dX3_putRgb_52 rfl ?_
        refine XW.iload_n 54 dX3_putRgb_53 rfl rfl ?_
        refine XW.iast 55 (h' := HP (sA (sA Z 2 (upd (Z.2.1 2) k r)) 2 (upd (upd (Z.2.1 2) k r) (k + 1) g))) (k + 1) dX3_putRgb_54 rfl (na hx rfl) (by omega) (by decide) rfl rfl ?_
        refine XW.aload_n 56 dX3_putRgb_55 rfl rfl ?_
        refine XW.iload_n 57 dX3_putRgb_56 rfl rfl ?_
        refine XW.iconst 58 dX3_putRgb_57 (v := 2) (by decide) rfl ?_
        refine XW.iadd 59 dX3_putRgb_58 rfl ?_
        refine XW.iload 61 dX3_putRgb_59 rfl rfl ?_
        refine XW.iast 62 (h' := HP (sA (sA (sA Z 2 (upd (Z.2.1 2) k r)) 2 (upd (upd (Z.2.1 2) k r) (k + 1) g)) 2 (upd (upd (upd (Z.2.1 2) k r) (k + 1) g) (k + 2) b))) (k + 2) dX3_putRgb_61 rfl (na hx rfl) (by omega) (by decide) rfl rfl ?_
        refine XW.iload 64 dX3_putRgb_62 rfl rfl ?_
        exact XW.iret dX3_putRgb_64 rfl (⟨by simp [otF, *], rfl⟩)
      · refine XW.iconst 38 dX3_putRgb_37 (v := 0) (by decide) rfl ?_
        refine XW.goto 42 dX3_putRgb_38 (by decide) ?_
        refine XW.iadd 43 dX3_putRgb_42 rfl ?_
        refine XW.istore 45 (L' := [some (.ref 2), some (.int x), some (.int r), some (.int g), some (.int b), some (.int ((0 + 1) + 0))]) dX3_putRgb_43 (by decide) rfl rfl rfl ?_
        refine XW.aload_n 46 dX3_putRgb_45 rfl rfl ?_
        refine XW.iload_n 47 dX3_putRgb_46 rfl rfl ?_
        refine XW.iload_n 48 dX3_putRgb_47 rfl rfl ?_
        refine XW.iast 49 (h' := HP (sA Z 2 (upd (Z.2.1 2) k r))) k dX3_putRgb_48 rfl hx (by omega) (by decide) rfl rfl ?_
        refine XW.aload_n 50 dX3_putRgb_49 rfl rfl ?_
        refine XW.iload_n 51 dX3_putRgb_50 rfl rfl ?_
        refine XW.iconst 52 dX3_putRgb_51 (v := 1) (by decide) rfl ?_
        refine XW.iadd 53 dX3_putRgb_52 rfl ?_
        refine XW.iload_n 54 dX3_putRgb_53 rfl rfl ?_
        refine XW.iast 55 (h' := HP (sA (sA Z 2 (upd (Z.2.1 2) k r)) 2 (upd (upd (Z.2.1 2) k r) (k + 1) g))) (k + 1) dX3_putRgb_54 rfl (na hx rfl) (by omega) (by decide) rfl rfl ?_
        refine XW.aload_n 56 dX3_putRgb_55 rfl rfl ?_
        refine XW.iload_n 57 dX3_putRgb_56 rfl rfl ?_
        refine XW.iconst 58 dX3_putRgb_57 (v := 2) (by decide) rfl ?_
        refine XW.iadd 59 dX3_putRgb_58 rfl ?_
        refine XW.iload 61 dX3_putRgb_59 rfl rfl ?_
        refine XW.iast 62 (h' := HP (sA (sA (sA Z 2 (upd (Z.2.1 2) k r)) 2 (upd (upd (Z.2.1 2) k r) (k + 1) g)) 2 (upd (upd (upd (Z.2.1 2) k r) (k + 1) g) (k + 2) b))) (k + 2) dX3_putRgb_61 rfl (na hx rfl) (by omega) (by decide) rfl rfl ?_
        refine XW.iload 64 dX3_putRgb_62 rfl rfl ?_
        exact XW.iret dX3_putRgb_64 rfl (⟨by simp [otF, *], rfl⟩)
    · refine XW.iconst 22 dX3_putRgb_21 (v := 0) (by decide) rfl ?_
      refine XW.goto 26 dX3_putRgb_22 (by decide) ?_
      refine XW.iadd 27 dX3_putRgb_26 rfl ?_
      refine XW.aload_n 28 dX3_putRgb_27 rfl rfl ?_
      refine XW.iload_n 29 dX3_putRgb_28 rfl rfl ?_
      refine XW.iconst 30 dX3_putRgb_29 (v := 2) (by decide) rfl ?_
      refine XW.iadd 31 dX3_putRgb_30 rfl ?_
      refine XW.iald 32 (k + 2) dX3_putRgb_31 rfl (na hx rfl) (by omega) (by decide) rfl ?_
      refine XW.iload 34 dX3_putRgb_32 rfl rfl ?_
      refine XW.icmp_ne 41 37 dX3_putRgb_34 (by decide) rfl (fun c_34 => ?_) (fun c_34 => ?_)
      · refine XW.iconst 42 dX3_putRgb_41 (v := 1) (by decide) rfl ?_
        refine XW.iadd 43 dX3_putRgb_42 rfl ?_
        refine XW.istore 45 (L' := [some (.ref 2), some (.int x), some (.int r), some (.int g), some (.int b), some (.int ((0 + 0) + 1))]) dX3_putRgb_43 (by decide) rfl rfl rfl ?_
        refine XW.aload_n 46 dX3_putRgb_45 rfl rfl ?_
        refine XW.iload_n 47 dX3_putRgb_46 rfl rfl ?_
        refine XW.iload_n 48 dX3_putRgb_47 rfl rfl ?_
        refine XW.iast 49 (h' := HP (sA Z 2 (upd (Z.2.1 2) k r))) k dX3_putRgb_48 rfl hx (by omega) (by decide) rfl rfl ?_
        refine XW.aload_n 50 dX3_putRgb_49 rfl rfl ?_
        refine XW.iload_n 51 dX3_putRgb_50 rfl rfl ?_
        refine XW.iconst 52 dX3_putRgb_51 (v := 1) (by decide) rfl ?_
        refine XW.iadd 53 dX3_putRgb_52 rfl ?_
        refine XW.iload_n 54 dX3_putRgb_53 rfl rfl ?_
        refine XW.iast 55 (h' := HP (sA (sA Z 2 (upd (Z.2.1 2) k r)) 2 (upd (upd (Z.2.1 2) k r) (k + 1) g))) (k + 1) dX3_putRgb_54 rfl (na hx rfl) (by omega) (by decide) rfl rfl ?_
        refine XW.aload_n 56 dX3_putRgb_55 rfl rfl ?_
        refine XW.iload_n 57 dX3_putRgb_56 rfl rfl ?_
        refine XW.iconst 58 dX3_putRgb_57 (v := 2) (by decide) rfl ?_
        refine XW.iadd 59 dX3_putRgb_58 rfl ?_
        refine XW.iload 61 dX3_putRgb_59 rfl rfl ?_
        refine XW.iast 62 (h' := HP (sA (sA (sA Z 2 (upd (Z.2.1 2) k r)) 2 (upd (upd (Z.2.1 2) k r) (k + 1) g)) 2 (upd (upd (upd (Z.2.1 2) k r) (k + 1) g) (k + 2) b))) (k + 2) dX3_putRgb_61 rfl (na hx rfl) (by omega) (by decide) rfl rfl ?_
        refine XW.iload 64 dX3_putRgb_62 rfl rfl ?_
        exact XW.iret dX3_putRgb_64 rfl (⟨by simp [otF, *], rfl⟩)
      · refine XW.iconst 38 dX3_putRgb_37 (v := 0) (by decide) rfl ?_
        refine XW.goto 42 dX3_putRgb_38 (by decide) ?_
        refine XW.iadd 43 dX3_putRgb_42 rfl ?_
        refine XW.istore 45 (L' := [some (.ref 2), some (.int x), some (.int r), some (.int g), some (.int b), some (.int ((0 + 0) + 0))]) dX3_putRgb_43 (by decide) rfl rfl rfl ?_
        refine XW.aload_n 46 dX3_putRgb_45 rfl rfl ?_
        refine XW.iload_n 47 dX3_putRgb_46 rfl rfl ?_
        refine XW.iload_n 48 dX3_putRgb_47 rfl rfl ?_
        refine XW.iast 49 (h' := HP (sA Z 2 (upd (Z.2.1 2) k r))) k dX3_putRgb_48 rfl hx (by omega) (by decide) rfl rfl ?_
        refine XW.aload_n 50 dX3_putRgb_49 rfl rfl ?_
        refine XW.iload_n 51 dX3_putRgb_50 rfl rfl ?_
        refine XW.iconst 52 dX3_putRgb_51 (v := 1) (by decide) rfl ?_
        refine XW.iadd 53 dX3_putRgb_52 rfl ?_
        refine XW.iload_n 54 dX3_putRgb_53 rfl rfl ?_
        refine XW.iast 55 (h' := HP (sA (sA Z 2 (upd (Z.2.1 2) k r)) 2 (upd (upd (Z.2.1 2) k r) (k + 1) g))) (k + 1) dX3_putRgb_54 rfl (na hx rfl) (by omega) (by decide) rfl rfl ?_
        refine XW.aload_n 56 dX3_putRgb_55 rfl rfl ?_
        refine XW.iload_n 57 dX3_putRgb_56 rfl rfl ?_
        refine XW.iconst 58 dX3_putRgb_57 (v := 2) (by decide) rfl ?_
        refine XW.iadd 59 dX3_putRgb_58 rfl ?_
        refine XW.iload 61 dX3_putRgb_59 rfl rfl ?_
        refine XW.iast 62 (h' := HP (sA (sA (sA Z 2 (upd (Z.2.1 2) k r)) 2 (upd (upd (Z.2.1 2) k r) (k + 1) g)) 2 (upd (upd (upd (Z.2.1 2) k r) (k + 1) g) (k + 2) b))) (k + 2) dX3_putRgb_61 rfl (na hx rfl) (by omega) (by decide) rfl rfl ?_
        refine XW.iload 64 dX3_putRgb_62 rfl rfl ?_
        exact XW.iret dX3_putRgb_64 rfl (⟨by simp [otF, *], rfl⟩)
set_option maxHeartbeats 4000000 in
set_option maxRecDepth 100000 in
theorem c_putRgb3 {Z : xZ} {x : Int32} {k : Nat} (r g b : Int32) (hx : x = nI k) (hk : k + 2 < 3) : XC mX3_putRgb 0 0 0 [.ref 3, .int x, .int r, .int g, .int b] (HP Z) (fun q h' => q = some (.int (otF (Z.2.1 3) k r g b)) ∧ h' = HP (sA Z 3 (up3 (Z.2.1 3) k r g b))) := by
  show XW mX3_putRgb 0 0 0 0 [some (.ref 3), some (.int x), some (.int r), some (.int g), some (.int b), none] [] (HP Z) _
  refine XW.aload_n 1 dX3_putRgb_0 rfl rfl ?_
  refine XW.iload_n 2 dX3_putRgb_1 rfl rfl ?_
  refine XW.iald 3 k dX3_putRgb_2 rfl hx (by omega) (by decide) rfl ?_
  refine XW.iload_n 4 dX3_putRgb_3 rfl rfl ?_
  refine XW.icmp_ne 11 7 dX3_putRgb_4 (by decide) rfl (fun c_4 => ?_) (fun c_4 => ?_)
  · refine XW.iconst 12 dX3_putRgb_11 (v := 1) (by decide) rfl ?_
    refine XW.aload_n 13 dX3_putRgb_12 rfl rfl ?_
    refine XW.iload_n 14 dX3_putRgb_13 rfl rfl ?_
    refine XW.iconst 15 dX3_putRgb_14 (v := 1) (by decide) rfl ?_
    refine XW.iadd 16 dX3_putRgb_15 rfl ?_
    refine XW.iald 17 (k + 1) dX3_putRgb_16 rfl (na hx rfl) (by omega) (by decide) rfl ?_
    refine XW.iload_n 18 dX3_putRgb_17 rfl rfl ?_
    refine XW.icmp_ne 25 21 dX3_putRgb_18 (by decide) rfl (fun c_18 => ?_) (fun c_18 => ?_)
    · refine XW.iconst 26 dX3_putRgb_25 (v := 1) (by decide) rfl ?_
      refine XW.iadd 27 dX3_putRgb_26 rfl ?_
      refine XW.aload_n 28 dX3_putRgb_27 rfl rfl ?_
      refine XW.iload_n 29 dX3_putRgb_28 rfl rfl ?_
      refine XW.iconst 30 dX3_putRgb_29 (v := 2) (by decide) rfl ?_
      refine XW.iadd 31 dX3_putRgb_30 rfl ?_
      refine XW.iald 32 (k + 2) dX3_putRgb_31 rfl (na hx rfl) (by omega) (by decide) rfl ?_
      refine XW.iload 34 dX3_putRgb_32 rfl rfl ?_
      refine XW.icmp_ne 41 37 dX3_putRgb_34 (by decide) rfl (fun c_34 => ?_) (fun c_34 => ?_)
      · refine XW.iconst 42 dX3_putRgb_41 (v := 1) (by decide) rfl ?_
        refine XW.iadd 43 dX3_putRgb_42 rfl ?_
        refine XW.istore 45 (L' := [some (.ref 3), some (.int x), some (.int r), some (.int g), some (.int b), some (.int ((1 + 1) + 1))]) dX3_putRgb_43 (by decide) rfl rfl rfl ?_
        refine XW.aload_n 46 dX3_putRgb_45 rfl rfl ?_
        refine XW.iload_n 47 dX3_putRgb_46 rfl rfl ?_
        refine XW.iload_n 48 dX3_putRgb_47 rfl rfl ?_
        refine XW.iast 49 (h' := HP (sA Z 3 (upd (Z.2.1 3) k r))) k dX3_putRgb_48 rfl hx (by omega) (by decide) rfl rfl ?_
        refine XW.aload_n 50 dX3_putRgb_49 rfl rfl ?_
        refine XW.iload_n 51 dX3_putRgb_50 rfl rfl ?_
        refine XW.iconst 52 dX3_putRgb_51 (v := 1) (by decide) rfl ?_
        refine XW.iadd 53 dX3_putRgb_52 rfl ?_
        refine XW.iload_n 54 dX3_putRgb_53 rfl rfl ?_
        refine XW.iast 55 (h' := HP (sA (sA Z 3 (upd (Z.2.1 3) k r)) 3 (upd (upd (Z.2.1 3) k r) (k + 1) g))) (k + 1) dX3_putRgb_54 rfl (na hx rfl) (by omega) (by decide) rfl rfl ?_
        refine XW.aload_n 56 dX3_putRgb_55 rfl rfl ?_
        refine XW.iload_n 57 dX3_putRgb_56 rfl rfl ?_
        refine XW.iconst 58 dX3_putRgb_57 (v := 2) (by decide) rfl ?_
        refine XW.iadd 59 dX3_putRgb_58 rfl ?_
        refine XW.iload 61 dX3_putRgb_59 rfl rfl ?_
        refine XW.iast 62 (h' := HP (sA (sA (sA Z 3 (upd (Z.2.1 3) k r)) 3 (upd (upd (Z.2.1 3) k r) (k + 1) g)) 3 (upd (upd (upd (Z.2.1 3) k r) (k + 1) g) (k + 2) b))) (k + 2) dX3_putRgb_61 rfl (na hx rfl) (by omega) (by decide) rfl rfl ?_
        refine XW.iload 64 dX3_putRgb_62 rfl rfl ?_
        exact XW.iret dX3_putRgb_64 rfl (⟨by simp [otF, *], rfl⟩)
      · refine XW.iconst 38 dX3_putRgb_37 (v := 0) (by decide) rfl ?_
        refine XW.goto 42 dX3_putRgb_38 (by decide) ?_
        refine XW.iadd 43 dX3_putRgb_42 rfl ?_
        refine XW.istore 45 (L' := [some (.ref 3), some (.int x), some (.int r), some (.int g), some (.int b), some (.int ((1 + 1) + 0))]) dX3_putRgb_43 (by decide) rfl rfl rfl ?_
        refine XW.aload_n 46 dX3_putRgb_45 rfl rfl ?_
        refine XW.iload_n 47 dX3_putRgb_46 rfl rfl ?_
        refine XW.iload_n 48 dX3_putRgb_47 rfl rfl ?_
        refine XW.iast 49 (h' := HP (sA Z 3 (upd (Z.2.1 3) k r))) k dX3_putRgb_48 rfl hx (by omega) (by decide) rfl rfl ?_
        refine XW.aload_n 50 dX3_putRgb_49 rfl rfl ?_
        refine XW.iload_n 51 dX3_putRgb_50 rfl rfl ?_
        refine XW.iconst 52 dX3_putRgb_51 (v := 1) (by decide) rfl ?_
        refine XW.iadd 53 dX3_putRgb_52 rfl ?_
        refine XW.iload_n 54 dX3_putRgb_53 rfl rfl ?_
        refine XW.iast 55 (h' := HP (sA (sA Z 3 (upd (Z.2.1 3) k r)) 3 (upd (upd (Z.2.1 3) k r) (k + 1) g))) (k + 1) dX3_putRgb_54 rfl (na hx rfl) (by omega) (by decide) rfl rfl ?_
        refine XW.aload_n 56 dX3_putRgb_55 rfl rfl ?_
        refine XW.iload_n 57 dX3_putRgb_56 rfl rfl ?_
        refine XW.iconst 58 dX3_putRgb_57 (v := 2) (by decide) rfl ?_
        refine XW.iadd 59 dX3_putRgb_58 rfl ?_
        refine XW.iload 61 dX3_putRgb_59 rfl rfl ?_
        refine XW.iast 62 (h' := HP (sA (sA (sA Z 3 (upd (Z.2.1 3) k r)) 3 (upd (upd (Z.2.1 3) k r) (k + 1) g)) 3 (upd (upd (upd (Z.2.1 3) k r) (k + 1) g) (k + 2) b))) (k + 2) dX3_putRgb_61 rfl (na hx rfl) (by omega) (by decide) rfl rfl ?_
        refine XW.iload 64 dX3_putRgb_62 rfl rfl ?_
        exact XW.iret dX3_putRgb_64 rfl (⟨by simp [otF, *], rfl⟩)
    · refine XW.iconst 22 dX3_putRgb_21 (v := 0) (by decide) rfl ?_
      refine XW.goto 26 dX3_putRgb_22 (by decide) ?_
      refine XW.iadd 27 dX3_putRgb_26 rfl ?_
      refine XW.aload_n 28 dX3_putRgb_27 rfl rfl ?_
      refine XW.iload_n 29 dX3_putRgb_28 rfl rfl ?_
      refine XW.iconst 30 dX3_putRgb_29 (v := 2) (by decide) rfl ?_
      refine XW.iadd 31 dX3_putRgb_30 rfl ?_
      refine XW.iald 32 (k + 2) dX3_putRgb_31 rfl (na hx rfl) (by omega) (by decide) rfl ?_
      refine XW.iload 34 dX3_putRgb_32 rfl rfl ?_
      refine XW.icmp_ne 41 37 dX3_putRgb_34 (by decide) rfl (fun c_34 => ?_) (fun c_34 => ?_)
      · refine XW.iconst 42 dX3_putRgb_41 (v := 1) (by decide) rfl ?_
        refine XW.iadd 43 dX3_putRgb_42 rfl ?_
        refine XW.istore 45 (L' := [some (.ref 3), some (.int x), some (.int r), some (.int g), some (.int b), some (.int ((1 + 0) + 1))]) dX3_putRgb_43 (by decide) rfl rfl rfl ?_
        refine XW.aload_n 46 dX3_putRgb_45 rfl rfl ?_
        refine XW.iload_n 47 dX3_putRgb_46 rfl rfl ?_
        refine XW.iload_n 48 dX3_putRgb_47 rfl rfl ?_
        refine XW.iast 49 (h' := HP (sA Z 3 (upd (Z.2.1 3) k r))) k dX3_putRgb_48 rfl hx (by omega) (by decide) rfl rfl ?_
        refine XW.aload_n 50 dX3_putRgb_49 rfl rfl ?_
        refine XW.iload_n 51 dX3_putRgb_50 rfl rfl ?_
        refine XW.iconst 52 dX3_putRgb_51 (v := 1) (by decide) rfl ?_
        refine XW.iadd 53 dX3_putRgb_52 rfl ?_
        refine XW.iload_n 54 dX3_putRgb_53 rfl rfl ?_
        refine XW.iast 55 (h' := HP (sA (sA Z 3 (upd (Z.2.1 3) k r)) 3 (upd (upd (Z.2.1 3) k r) (k + 1) g))) (k + 1) dX3_putRgb_54 rfl (na hx rfl) (by omega) (by decide) rfl rfl ?_
        refine XW.aload_n 56 dX3_putRgb_55 rfl rfl ?_
        refine XW.iload_n 57 dX3_putRgb_56 rfl rfl ?_
        refine XW.iconst 58 dX3_putRgb_57 (v := 2) (by decide) rfl ?_
        refine XW.iadd 59 dX3_putRgb_58 rfl ?_
        refine XW.iload 61 dX3_putRgb_59 rfl rfl ?_
        refine XW.iast 62 (h' := HP (sA (sA (sA Z 3 (upd (Z.2.1 3) k r)) 3 (upd (upd (Z.2.1 3) k r) (k + 1) g)) 3 (upd (upd (upd (Z.2.1 3) k r) (k + 1) g) (k + 2) b))) (k + 2) dX3_putRgb_61 rfl (na hx rfl) (by omega) (by decide) rfl rfl ?_
        refine XW.iload 64 dX3_putRgb_62 rfl rfl ?_
        exact XW.iret dX3_putRgb_64 rfl (⟨by simp [otF, *], rfl⟩)
      · refine XW.iconst 38 dX3_putRgb_37 (v := 0) (by decide) rfl ?_
        refine XW.goto 42 dX3_putRgb_38 (by decide) ?_
        refine XW.iadd 43 dX3_putRgb_42 rfl ?_
        refine XW.istore 45 (L' := [some (.ref 3), some (.int x), some (.int r), some (.int g), some (.int b), some (.int ((1 + 0) + 0))]) dX3_putRgb_43 (by decide) rfl rfl rfl ?_
        refine XW.aload_n 46 dX3_putRgb_45 rfl rfl ?_
        refine XW.iload_n 47 dX3_putRgb_46 rfl rfl ?_
        refine XW.iload_n 48 dX3_putRgb_47 rfl rfl ?_
        refine XW.iast 49 (h' := HP (sA Z 3 (upd (Z.2.1 3) k r))) k dX3_putRgb_48 rfl hx (by omega) (by decide) rfl rfl ?_
        refine XW.aload_n 50 dX3_putRgb_49 rfl rfl ?_
        refine XW.iload_n 51 dX3_putRgb_50 rfl rfl ?_
        refine XW.iconst 52 dX3_putRgb_51 (v := 1) (by decide) rfl ?_
        refine XW.iadd 53 dX3_putRgb_52 rfl ?_
        refine XW.iload_n 54 dX3_putRgb_53 rfl rfl ?_
        refine XW.iast 55 (h' := HP (sA (sA Z 3 (upd (Z.2.1 3) k r)) 3 (upd (upd (Z.2.1 3) k r) (k + 1) g))) (k + 1) dX3_putRgb_54 rfl (na hx rfl) (by omega) (by decide) rfl rfl ?_
        refine XW.aload_n 56 dX3_putRgb_55 rfl rfl ?_
        refine XW.iload_n 57 dX3_putRgb_56 rfl rfl ?_
        refine XW.iconst 58 dX3_putRgb_57 (v := 2) (by decide) rfl ?_
        refine XW.iadd 59 dX3_putRgb_58 rfl ?_
        refine XW.iload 61 dX3_putRgb_59 rfl rfl ?_
        refine XW.iast 62 (h' := HP (sA (sA (sA Z 3 (upd (Z.2.1 3) k r)) 3 (upd (upd (Z.2.1 3) k r) (k + 1) g)) 3 (upd (upd (upd (Z.2.1 3) k r) (k + 1) g) (k + 2) b))) (k + 2) dX3_putRgb_61 rfl (na hx rfl) (by omega) (by decide) rfl rfl ?_
        refine XW.iload 64 dX3_putRgb_62 rfl rfl ?_
        exact XW.iret dX3_putRgb_64 rfl (⟨by simp [otF, *], rfl⟩)
  · refine XW.iconst 8 dX3_putRgb_7 (v := 0) (by decide) rfl ?_
    refine XW.goto 12 dX3_putRgb_8 (by decide) ?_
    refine XW.aload_n 13 dX3_putRgb_12 rfl rfl ?_
    refine XW.iload_n 14 dX3_putRgb_13 rfl rfl ?_
    refine XW.iconst 15 dX3_putRgb_14 (v := 1) (by decide) rfl ?_
    refine XW.iadd 16 dX3_putRgb_15 rfl ?_
    refine XW.iald 17 (k + 1) dX3_putRgb_16 rfl (na hx rfl) (by omega) (by decide) rfl ?_
    refine XW.iload_n 18 dX3_putRgb_17 rfl rfl ?_
    refine XW.icmp_ne 25 21 dX3_putRgb_18 (by decide) rfl (fun c_18 => ?_) (fun c_18 => ?_)
    · refine XW.iconst 26 dX3_putRgb_25 (v := 1) (by decide) rfl ?_
      refine XW.iadd 27 dX3_putRgb_26 rfl ?_
      refine XW.aload_n 28 dX3_putRgb_27 rfl rfl ?_
      refine XW.iload_n 29 dX3_putRgb_28 rfl rfl ?_
      refine XW.iconst 30 dX3_putRgb_29 (v := 2) (by decide) rfl ?_
      refine XW.iadd 31 dX3_putRgb_30 rfl ?_
      refine XW.iald 32 (k + 2) dX3_putRgb_31 rfl (na hx rfl) (by omega) (by decide) rfl ?_
      refine XW.iload 34 dX3_putRgb_32 rfl rfl ?_
      refine XW.icmp_ne 41 37 dX3_putRgb_34 (by decide) rfl (fun c_34 => ?_) (fun c_34 => ?_)
      · refine XW.iconst 42 dX3_putRgb_41 (v := 1) (by decide) rfl ?_
        refine XW.iadd 43 dX3_putRgb_42 rfl ?_
        refine XW.istore 45 (L' := [some (.ref 3), some (.int x), some (.int r), some (.int g), some (.int b), some (.int ((0 + 1) + 1))]) dX3_putRgb_43 (by decide) rfl rfl rfl ?_
        refine XW.aload_n 46 dX3_putRgb_45 rfl rfl ?_
        refine XW.iload_n 47 dX3_putRgb_46 rfl rfl ?_
        refine XW.iload_n 48 dX3_putRgb_47 rfl rfl ?_
        refine XW.iast 49 (h' := HP (sA Z 3 (upd (Z.2.1 3) k r))) k dX3_putRgb_48 rfl hx (by omega) (by decide) rfl rfl ?_
        refine XW.aload_n 50 dX3_putRgb_49 rfl rfl ?_
        refine XW.iload_n 51 dX3_putRgb_50 rfl rfl ?_
        refine XW.iconst 52 dX3_putRgb_51 (v := 1) (by decide) rfl ?_
        refine XW.iadd 53 dX3_putRgb_52 rfl ?_
        refine XW.iload_n 54 dX3_putRgb_53 rfl rfl ?_
        refine XW.iast 55 (h' := HP (sA (sA Z 3 (upd (Z.2.1 3) k r)) 3 (upd (upd (Z.2.1 3) k r) (k + 1) g))) (k + 1) dX3_putRgb_54 rfl (na hx rfl) (by omega) (by decide) rfl rfl ?_
        refine XW.aload_n 56 dX3_putRgb_55 rfl rfl ?_
        refine XW.iload_n 57 dX3_putRgb_56 rfl rfl ?_
        refine XW.iconst 58 dX3_putRgb_57 (v := 2) (by decide) rfl ?_
        refine XW.iadd 59 dX3_putRgb_58 rfl ?_
        refine XW.iload 61 dX3_putRgb_59 rfl rfl ?_
        refine XW.iast 62 (h' := HP (sA (sA (sA Z 3 (upd (Z.2.1 3) k r)) 3 (upd (upd (Z.2.1 3) k r) (k + 1) g)) 3 (upd (upd (upd (Z.2.1 3) k r) (k + 1) g) (k + 2) b))) (k + 2) dX3_putRgb_61 rfl (na hx rfl) (by omega) (by decide) rfl rfl ?_
        refine XW.iload 64 dX3_putRgb_62 rfl rfl ?_
        exact XW.iret dX3_putRgb_64 rfl (⟨by simp [otF, *], rfl⟩)
      · refine XW.iconst 38 dX3_putRgb_37 (v := 0) (by decide) rfl ?_
        refine XW.goto 42 dX3_putRgb_38 (by decide) ?_
        refine XW.iadd 43 dX3_putRgb_42 rfl ?_
        refine XW.istore 45 (L' := [some (.ref 3), some (.int x), some (.int r), some (.int g), some (.int b), some (.int ((0 + 1) + 0))]) dX3_putRgb_43 (by decide) rfl rfl rfl ?_
        refine XW.aload_n 46 dX3_putRgb_45 rfl rfl ?_
        refine XW.iload_n 47 dX3_putRgb_46 rfl rfl ?_
        refine XW.iload_n 48 dX3_putRgb_47 rfl rfl ?_
        refine XW.iast 49 (h' := HP (sA Z 3 (upd (Z.2.1 3) k r))) k dX3_putRgb_48 rfl hx (by omega) (by decide) rfl rfl ?_
        refine XW.aload_n 50 dX3_putRgb_49 rfl rfl ?_
        refine XW.iload_n 51 dX3_putRgb_50 rfl rfl ?_
        refine XW.iconst 52 dX3_putRgb_51 (v := 1) (by decide) rfl ?_
        refine XW.iadd 53 dX3_putRgb_52 rfl ?_
        refine XW.iload_n 54 dX3_putRgb_53 rfl rfl ?_
        refine XW.iast 55 (h' := HP (sA (sA Z 3 (upd (Z.2.1 3) k r)) 3 (upd (upd (Z.2.1 3) k r) (k + 1) g))) (k + 1) dX3_putRgb_54 rfl (na hx rfl) (by omega) (by decide) rfl rfl ?_
        refine XW.aload_n 56 dX3_putRgb_55 rfl rfl ?_
        refine XW.iload_n 57 dX3_putRgb_56 rfl rfl ?_
        refine XW.iconst 58 dX3_putRgb_57 (v := 2) (by decide) rfl ?_
        refine XW.iadd 59 dX3_putRgb_58 rfl ?_
        refine XW.iload 61 dX3_putRgb_59 rfl rfl ?_
        refine XW.iast 62 (h' := HP (sA (sA (sA Z 3 (upd (Z.2.1 3) k r)) 3 (upd (upd (Z.2.1 3) k r) (k + 1) g)) 3 (upd (upd (upd (Z.2.1 3) k r) (k + 1) g) (k + 2) b))) (k + 2) dX3_putRgb_61 rfl (na hx rfl) (by omega) (by decide) rfl rfl ?_
        refine XW.iload 64 dX3_putRgb_62 rfl rfl ?_
        exact XW.iret dX3_putRgb_64 rfl (⟨by simp [otF, *], rfl⟩)
    · refine XW.iconst 22 dX3_putRgb_21 (v := 0) (by decide) rfl ?_
      refine XW.goto 26 dX3_putRgb_22 (by decide) ?_
      refine XW.iadd 27 dX3_putRgb_26 rfl ?_
      refine XW.aload_n 28 dX3_putRgb_27 rfl rfl ?_
      refine XW.iload_n 29 dX3_putRgb_28 rfl rfl ?_
      refine XW.iconst 30 dX3_putRgb_29 (v := 2) (by decide) rfl ?_
      refine XW.iadd 31 dX3_putRgb_30 rfl ?_
      refine XW.iald 32 (k + 2) dX3_putRgb_31 rfl (na hx rfl) (by omega) (by decide) rfl ?_
      refine XW.iload 34 dX3_putRgb_32 rfl rfl ?_
      refine XW.icmp_ne 41 37 dX3_putRgb_34 (by decide) rfl (fun c_34 => ?_) (fun c_34 => ?_)
      · refine XW.iconst 42 dX3_putRgb_41 (v := 1) (by decide) rfl ?_
        refine XW.iadd 43 dX3_putRgb_42 rfl ?_
        refine XW.istore 45 (L' := [some (.ref 3), some (.int x), some (.int r), some (.int g), some (.int b), some (.int ((0 + 0) + 1))]) dX3_putRgb_43 (by decide) rfl rfl rfl ?_
        refine XW.aload_n 46 dX3_putRgb_45 rfl rfl ?_
        refine XW.iload_n 47 dX3_putRgb_46 rfl rfl ?_
        refine XW.iload_n 48 dX3_putRgb_47 rfl rfl ?_
        refine XW.iast 49 (h' := HP (sA Z 3 (upd (Z.2.1 3) k r))) k dX3_putRgb_48 rfl hx (by omega) (by decide) rfl rfl ?_
        refine XW.aload_n 50 dX3_putRgb_49 rfl rfl ?_
        refine XW.iload_n 51 dX3_putRgb_50 rfl rfl ?_
        refine XW.iconst 52 dX3_putRgb_51 (v := 1) (by decide) rfl ?_
        refine XW.iadd 53 dX3_putRgb_52 rfl ?_
        refine XW.iload_n 54 dX3_putRgb_53 rfl rfl ?_
        refine XW.iast 55 (h' := HP (sA (sA Z 3 (upd (Z.2.1 3) k r)) 3 (upd (upd (Z.2.1 3) k r) (k + 1) g))) (k + 1) dX3_putRgb_54 rfl (na hx rfl) (by omega) (by decide) rfl rfl ?_
        refine XW.aload_n 56 dX3_putRgb_55 rfl rfl ?_
        refine XW.iload_n 57 dX3_putRgb_56 rfl rfl ?_
        refine XW.iconst 58 dX3_putRgb_57 (v := 2) (by decide) rfl ?_
        refine XW.iadd 59 dX3_putRgb_58 rfl ?_
        refine XW.iload 61 dX3_putRgb_59 rfl rfl ?_
        refine XW.iast 62 (h' := HP (sA (sA (sA Z 3 (upd (Z.2.1 3) k r)) 3 (upd (upd (Z.2.1 3) k r) (k + 1) g)) 3 (upd (upd (upd (Z.2.1 3) k r) (k + 1) g) (k + 2) b))) (k + 2) dX3_putRgb_61 rfl (na hx rfl) (by omega) (by decide) rfl rfl ?_
        refine XW.iload 64 dX3_putRgb_62 rfl rfl ?_
        exact XW.iret dX3_putRgb_64 rfl (⟨by simp [otF, *], rfl⟩)
      · refine XW.iconst 38 dX3_putRgb_37 (v := 0) (by decide) rfl ?_
        refine XW.goto 42 dX3_putRgb_38 (by decide) ?_
        refine XW.iadd 43 dX3_putRgb_42 rfl ?_
        refine XW.istore 45 (L' := [some (.ref 3), some (.int x), some (.int r), some (.int g), some (.int b), some (.int ((0 + 0) + 0))]) dX3_putRgb_43 (by decide) rfl rfl rfl ?_
        refine XW.aload_n 46 dX3_putRgb_45 rfl rfl ?_
        refine XW.iload_n 47 dX3_putRgb_46 rfl rfl ?_
        refine XW.iload_n 48 dX3_putRgb_47 rfl rfl ?_
        refine XW.iast 49 (h' := HP (sA Z 3 (upd (Z.2.1 3) k r))) k dX3_putRgb_48 rfl hx (by omega) (by decide) rfl rfl ?_
        refine XW.aload_n 50 dX3_putRgb_49 rfl rfl ?_
        refine XW.iload_n 51 dX3_putRgb_50 rfl rfl ?_
        refine XW.iconst 52 dX3_putRgb_51 (v := 1) (by decide) rfl ?_
        refine XW.iadd 53 dX3_putRgb_52 rfl ?_
        refine XW.iload_n 54 dX3_putRgb_53 rfl rfl ?_
        refine XW.iast 55 (h' := HP (sA (sA Z 3 (upd (Z.2.1 3) k r)) 3 (upd (upd (Z.2.1 3) k r) (k + 1) g))) (k + 1) dX3_putRgb_54 rfl (na hx rfl) (by omega) (by decide) rfl rfl ?_
        refine XW.aload_n 56 dX3_putRgb_55 rfl rfl ?_
        refine XW.iload_n 57 dX3_putRgb_56 rfl rfl ?_
        refine XW.iconst 58 dX3_putRgb_57 (v := 2) (by decide) rfl ?_
        refine XW.iadd 59 dX3_putRgb_58 rfl ?_
        refine XW.iload 61 dX3_putRgb_59 rfl rfl ?_
        refine XW.iast 62 (h' := HP (sA (sA (sA Z 3 (upd (Z.2.1 3) k r)) 3 (upd (upd (Z.2.1 3) k r) (k + 1) g)) 3 (upd (upd (upd (Z.2.1 3) k r) (k + 1) g) (k + 2) b))) (k + 2) dX3_putRgb_61 rfl (na hx rfl) (by omega) (by decide) rfl rfl ?_
        refine XW.iload 64 dX3_putRgb_62 rfl rfl ?_
        exact XW.iret dX3_putRgb_64 rfl (⟨by simp [otF, *], rfl⟩)
set_option maxHeartbeats 4000000 in
set_option maxRecDepth 100000 in
theorem c_addColour {Z : xZ} {c : Nat} (r g b : Int32) (hc : Z.1 1 0 = nI c) (c20 : c < 20) : XC mX1_addColour 1 0 0 [.ref 1, .int r, .int g, .int b] (HP Z) (fun q h' => q = some (.int (Z.1 1 0)) ∧ h' = HP (sI (sA Z 2 (up3 (Z.2.1 2) (3 * c) r g b)) 1 0 (Z.1 1 0 + 1))) := by
  show XW mX1_addColour 1 0 0 0 [some (.ref 1), some (.int r), some (.int g), some (.int b), none] [] (HP Z) _
  refine XW.aload_n 1 dX1_addColour_0 rfl rfl ?_
  refine XW.getf 4 (v := .int (Z.1 1 0)) f1_9 dX1_addColour_1 rfl rfl rfl ?_
  refine XW.istore 6 (L' := [some (.ref 1), some (.int r), some (.int g), some (.int b), some (.int (Z.1 1 0))]) dX1_addColour_4 (by decide) rfl rfl rfl ?_
  refine XW.aload_n 7 dX1_addColour_6 rfl rfl ?_
  refine XW.getf 10 (v := .ref 2) f1_15 dX1_addColour_7 rfl rfl rfl ?_
  refine XW.iconst 11 dX1_addColour_10 (v := 3) (by decide) rfl ?_
  refine XW.iload 13 dX1_addColour_11 rfl rfl ?_
  refine XW.imul 14 dX1_addColour_13 rfl ?_
  refine XW.iload_n 15 dX1_addColour_14 rfl rfl ?_
  refine XW.iload_n 16 dX1_addColour_15 rfl rfl ?_
  refine XW.iload_n 17 dX1_addColour_16 rfl rfl ?_
  refine XW.callS 20 (vs := [.ref 2, .int (3 * (Z.1 1 0)), .int r, .int g, .int b]) (rest := []) (mcr := 0) (msr := 0) c1_49 dX1_addColour_17 rfl (by decide) (Nat.le_of_ble_eq_true rfl) rfl rfl (Nat.le_of_ble_eq_true rfl) rfl (c_putRgb2 (k := 3 * c) _ _ _ (nm rfl hc) (by omega)) (fun r h1 hq => ?_)
  obtain ⟨rfl, rfl⟩ := hq
  refine XW.pop 21 dX1_addColour_20 rfl rfl ?_
  refine XW.aload_n 22 dX1_addColour_21 rfl rfl ?_
  refine XW.dup 23 dX1_addColour_22 rfl rfl ?_
  refine XW.getf 26 (v := .int (Z.1 1 0)) f1_9 dX1_addColour_23 rfl rfl rfl ?_
  refine XW.iconst 27 dX1_addColour_26 (v := 1) (by decide) rfl ?_
  refine XW.iadd 28 dX1_addColour_27 rfl ?_
  refine XW.putf 31 (h' := HP (sI (sA Z 2 (up3 (Z.2.1 2) (3 * c) r g b)) 1 0 ((Z.1 1 0) + 1))) (p1_9 _) dX1_addColour_28 rfl (Nat.le_of_ble_eq_true rfl) (xfit_i _) rfl rfl ?_
  refine XW.iload 33 dX1_addColour_31 rfl rfl ?_
  exact XW.iret dX1_addColour_33 rfl (⟨rfl, rfl⟩)
set_option maxHeartbeats 4000000 in
set_option maxRecDepth 100000 in
theorem c_setLimit {Z : xZ} {x : Int32} {k : Nat} (v : Int32) (hx : x = nI k) (hk : k < 3) : XC mX1_setLimit 0 0 0 [.ref 1, .int x, .int v] (HP Z) (fun q h' => q = some (.int (Z.2.1 5 k)) ∧ h' = HP (sA Z 5 (upd (Z.2.1 5) k v))) := by
  show XW mX1_setLimit 0 0 0 0 [some (.ref 1), some (.int x), some (.int v), none] [] (HP Z) _
  refine XW.aload_n 1 dX1_setLimit_0 rfl rfl ?_
  refine XW.getf 4 (v := .ref 5) f1_31 dX1_setLimit_1 rfl rfl rfl ?_
  refine XW.iload_n 5 dX1_setLimit_4 rfl rfl ?_
  refine XW.iald 6 k dX1_setLimit_5 rfl hx (by omega) (by decide) rfl ?_
  refine XW.istore_n 7 (L' := [some (.ref 1), some (.int x), some (.int v), some (.int (Z.2.1 5 k))]) dX1_setLimit_6 (by decide) rfl rfl rfl ?_
  refine XW.aload_n 8 dX1_setLimit_7 rfl rfl ?_
  refine XW.getf 11 (v := .ref 5) f1_31 dX1_setLimit_8 rfl rfl rfl ?_
  refine XW.iload_n 12 dX1_setLimit_11 rfl rfl ?_
  refine XW.iload_n 13 dX1_setLimit_12 rfl rfl ?_
  refine XW.iast 14 (h' := HP (sA Z 5 (upd (Z.2.1 5) k v))) k dX1_setLimit_13 rfl hx (by omega) (by decide) rfl rfl ?_
  refine XW.iload_n 15 dX1_setLimit_14 rfl rfl ?_
  exact XW.iret dX1_setLimit_15 rfl (⟨rfl, rfl⟩)
/-- the FIXED ones, one put in or out -/
def fxF (f i on : Int32) : Int32 := if on = 1 then f ||| (1 <<< (i &&& 31)) else f &&& ((1 <<< (i &&& 31)) ^^^ (-1))
set_option maxHeartbeats 4000000 in
set_option maxRecDepth 100000 in
theorem c_setFixed {Z : xZ} (i on : Int32) : XC mX1_setFixed 1 0 0 [.ref 1, .int i, .int on] (HP Z) (fun q h' => q = some (.int (bcF (fxF (Z.1 1 5) i on))) ∧ h' = HP (sI Z 1 5 (fxF (Z.1 1 5) i on))) := by
  show XW mX1_setFixed 1 0 0 0 [some (.ref 1), some (.int i), some (.int on)] [] (HP Z) _
  refine XW.aload_n 1 dX1_setFixed_0 rfl rfl ?_
  refine XW.iload_n 2 dX1_setFixed_1 rfl rfl ?_
  refine XW.iconst 3 dX1_setFixed_2 (v := 1) (by decide) rfl ?_
  refine XW.icmp_ne 17 6 dX1_setFixed_3 (by decide) rfl (fun c_3 => ?_) (fun c_3 => ?_)
  · have e0 : fxF (Z.1 1 5) i on = Z.1 1 5 &&& ((1 <<< (i &&& 31)) ^^^ (-1)) := if_neg c_3
    refine XW.aload_n 18 dX1_setFixed_17 rfl rfl ?_
    refine XW.getf 21 (v := .int (Z.1 1 5)) f1_34 dX1_setFixed_18 rfl rfl rfl ?_
    refine XW.iconst 22 dX1_setFixed_21 (v := 1) (by decide) rfl ?_
    refine XW.iload_n 23 dX1_setFixed_22 rfl rfl ?_
    refine XW.ishl 24 dX1_setFixed_23 rfl ?_
    refine XW.iconst 25 dX1_setFixed_24 (v := -1) (by decide) rfl ?_
    refine XW.ixor 26 dX1_setFixed_25 rfl ?_
    refine XW.iand 27 dX1_setFixed_26 rfl ?_
    refine XW.putf 30 (h' := HP (sI Z 1 5 ((Z.1 1 5) &&& ((1 <<< (i &&& 31)) ^^^ (-1))))) (p1_34 _) dX1_setFixed_27 rfl (Nat.le_of_ble_eq_true rfl) (xfit_i _) rfl rfl ?_
    refine XW.aload_n 31 dX1_setFixed_30 rfl rfl ?_
    refine XW.getf 34 (v := .int ((Z.1 1 5) &&& ((1 <<< (i &&& 31)) ^^^ (-1)))) f1_34 dX1_setFixed_31 rfl rfl rfl ?_
    refine XW.callS 37 (vs := [.int ((Z.1 1 5) &&& ((1 <<< (i &&& 31)) ^^^ (-1)))]) (rest := []) (mcr := 0) (msr := 0) c1_53 dX1_setFixed_34 rfl (by decide) (Nat.le_of_ble_eq_true rfl) rfl rfl (Nat.le_of_ble_eq_true rfl) rfl (c_bitCount _ _) (fun r h1 hq => ?_)
    obtain ⟨rfl, rfl⟩ := hq
    exact XW.iret dX1_setFixed_37 rfl (⟨by rw [e0], by rw [e0]⟩)
  · have e0 : fxF (Z.1 1 5) i on = Z.1 1 5 ||| (1 <<< (i &&& 31)) := if_pos c_3
    refine XW.aload_n 7 dX1_setFixed_6 rfl rfl ?_
    refine XW.getf 10 (v := .int (Z.1 1 5)) f1_34 dX1_setFixed_7 rfl rfl rfl ?_
    refine XW.iconst 11 dX1_setFixed_10 (v := 1) (by decide) rfl ?_
    refine XW.iload_n 12 dX1_setFixed_11 rfl rfl ?_
    refine XW.ishl 13 dX1_setFixed_12 rfl ?_
    refine XW.ior 14 dX1_setFixed_13 rfl ?_
    refine XW.goto 27 dX1_setFixed_14 (by decide) ?_
    refine XW.putf 30 (h' := HP (sI Z 1 5 ((Z.1 1 5) ||| (1 <<< (i &&& 31))))) (p1_34 _) dX1_setFixed_27 rfl (Nat.le_of_ble_eq_true rfl) (xfit_i _) rfl rfl ?_
    refine XW.aload_n 31 dX1_setFixed_30 rfl rfl ?_
    refine XW.getf 34 (v := .int ((Z.1 1 5) ||| (1 <<< (i &&& 31)))) f1_34 dX1_setFixed_31 rfl rfl rfl ?_
    refine XW.callS 37 (vs := [.int ((Z.1 1 5) ||| (1 <<< (i &&& 31)))]) (rest := []) (mcr := 0) (msr := 0) c1_53 dX1_setFixed_34 rfl (by decide) (Nat.le_of_ble_eq_true rfl) rfl rfl (Nat.le_of_ble_eq_true rfl) rfl (c_bitCount _ _) (fun r h1 hq => ?_)
    obtain ⟨rfl, rfl⟩ := hq
    exact XW.iret dX1_setFixed_37 rfl (⟨by rw [e0], by rw [e0]⟩)
set_option maxHeartbeats 4000000 in
set_option maxRecDepth 100000 in
theorem c_putIntoRow {Z : xZ} {l : Nat} (x : Int32) (hl : Z.1 1 7 = nI l) (l8 : l < 8) : XC mX1_putIntoRow 0 0 0 [.ref 1, .int x] (HP Z) (fun q h' => q = none ∧ h' = HP (sI (sA Z 6 (upd (Z.2.1 6) l x)) 1 7 (nI (l + 1)))) := by
  show XW mX1_putIntoRow 0 0 0 0 [some (.ref 1), some (.int x)] [] (HP Z) _
  refine XW.aload_n 1 dX1_putIntoRow_0 rfl rfl ?_
  refine XW.getf 4 (v := .int (Z.1 1 7)) f1_40 dX1_putIntoRow_1 rfl rfl rfl ?_
  refine XW.aload_n 5 dX1_putIntoRow_4 rfl rfl ?_
  refine XW.getf 8 (v := .ref 6) f1_37 dX1_putIntoRow_5 rfl rfl rfl ?_
  refine XW.alen 9 (v := 8) dX1_putIntoRow_8 rfl rfl rfl ?_
  refine XW.icmp_geN 32 12 l 8 dX1_putIntoRow_9 (by decide) rfl hl rfl (by omega) (by omega) (fun c_9 => ?_) (fun c_9 => ?_)
  · omega
  · refine XW.aload_n 13 dX1_putIntoRow_12 rfl rfl ?_
    refine XW.getf 16 (v := .ref 6) f1_37 dX1_putIntoRow_13 rfl rfl rfl ?_
    refine XW.aload_n 17 dX1_putIntoRow_16 rfl rfl ?_
    refine XW.getf 20 (v := .int (Z.1 1 7)) f1_40 dX1_putIntoRow_17 rfl rfl rfl ?_
    refine XW.iload_n 21 dX1_putIntoRow_20 rfl rfl ?_
    refine XW.iast 22 (h' := HP (sA Z 6 (upd (Z.2.1 6) l x))) l dX1_putIntoRow_21 rfl hl (by omega) (by decide) rfl rfl ?_
    refine XW.aload_n 23 dX1_putIntoRow_22 rfl rfl ?_
    refine XW.dup 24 dX1_putIntoRow_23 rfl rfl ?_
    refine XW.getf 27 (v := .int (Z.1 1 7)) f1_40 dX1_putIntoRow_24 rfl rfl rfl ?_
    refine XW.iconst 28 dX1_putIntoRow_27 (v := 1) (by decide) rfl ?_
    refine XW.iadd 29 dX1_putIntoRow_28 rfl ?_
    refine XW.putf 32 (h' := HP (sI (sA Z 6 (upd (Z.2.1 6) l x)) 1 7 ((Z.1 1 7) + 1))) (p1_40 _) dX1_putIntoRow_29 rfl (Nat.le_of_ble_eq_true rfl) (xfit_i _) rfl rfl ?_
    exact XW.vret dX1_putIntoRow_32 trivial (⟨rfl, by rw [show Z.1 1 7 + 1 = nI (l + 1) from na hl rfl]⟩)
/-- the scene at a becomes as the one at b -/
def becZ (Z : xZ) (a b : Nat) : xZ := sA (sA (sA (sA (sA (sI (sI (sI Z a 0 (Z.1 b 0)) a 5 (Z.1 b 5)) a 7 (Z.1 b 7)) (a + 1) (va_cpy (Z.2.1 (b + 1)) (Z.2.1 (a + 1)) 0 0 60)) (a + 2) (va_cpy (Z.2.1 (b + 2)) (Z.2.1 (a + 2)) 0 0 3)) (a + 3) (va_cpy (Z.2.1 (b + 3)) (Z.2.1 (a + 3)) 0 0 52)) (a + 4) (va_cpy (Z.2.1 (b + 4)) (Z.2.1 (a + 4)) 0 0 3)) (a + 5) (va_cpy (Z.2.1 (b + 5)) (Z.2.1 (a + 5)) 0 0 8)
set_option maxHeartbeats 4000000 in
set_option maxRecDepth 100000 in
theorem c_become_8_1 {Z : xZ} : XC mX1_become 1 0 0 [.ref 8, .ref 1] (HP Z) (fun q h' => q = none ∧ h' = HP (becZ Z 8 1)) := by
  show XW mX1_become 1 0 0 0 [some (.ref 8), some (.ref 1)] [] (HP Z) _
  refine XW.aload_n 1 dX1_become_0 rfl rfl ?_
  refine XW.aload_n 2 dX1_become_1 rfl rfl ?_
  refine XW.getf 5 (v := .int (Z.1 1 0)) f1_9 dX1_become_2 rfl rfl rfl ?_
  refine XW.putf 8 (h' := HP (sI Z 8 0 (Z.1 1 0))) (p1_9 _) dX1_become_5 rfl (Nat.le_of_ble_eq_true rfl) (xfit_i _) rfl rfl ?_
  refine XW.aload_n 9 dX1_become_8 rfl rfl ?_
  refine XW.aload_n 10 dX1_become_9 rfl rfl ?_
  refine XW.getf 13 (v := .int (Z.1 1 5)) f1_34 dX1_become_10 rfl rfl rfl ?_
  refine XW.putf 16 (h' := HP (sI (sI Z 8 0 (Z.1 1 0)) 8 5 (Z.1 1 5))) (p1_34 _) dX1_become_13 rfl (Nat.le_of_ble_eq_true rfl) (xfit_i _) rfl rfl ?_
  refine XW.aload_n 17 dX1_become_16 rfl rfl ?_
  refine XW.aload_n 18 dX1_become_17 rfl rfl ?_
  refine XW.getf 21 (v := .int (Z.1 1 7)) f1_40 dX1_become_18 rfl rfl rfl ?_
  refine XW.putf 24 (h' := HP (sI (sI (sI Z 8 0 (Z.1 1 0)) 8 5 (Z.1 1 5)) 8 7 (Z.1 1 7))) (p1_40 _) dX1_become_21 rfl (Nat.le_of_ble_eq_true rfl) (xfit_i _) rfl rfl ?_
  refine XW.aload_n 25 dX1_become_24 rfl rfl ?_
  refine XW.getf 28 (v := .ref 2) f1_15 dX1_become_25 rfl rfl rfl ?_
  refine XW.iconst 29 dX1_become_28 (v := 0) (by decide) rfl ?_
  refine XW.aload_n 30 dX1_become_29 rfl rfl ?_
  refine XW.getf 33 (v := .ref 9) f1_15 dX1_become_30 rfl rfl rfl ?_
  refine XW.iconst 34 dX1_become_33 (v := 0) (by decide) rfl ?_
  refine XW.aload_n 35 dX1_become_34 rfl rfl ?_
  refine XW.getf 38 (v := .ref 9) f1_15 dX1_become_35 rfl rfl rfl ?_
  refine XW.alen 39 (v := 60) dX1_become_38 rfl rfl rfl ?_
  refine XW.copy 42 (h' := HP (sA (sI (sI (sI Z 8 0 (Z.1 1 0)) 8 5 (Z.1 1 5)) 8 7 (Z.1 1 7)) 9 (va_cpy (Z.2.1 2) (Z.2.1 9) 0 0 60))) 60 c1_43 wC_n wC_s wC_i dX1_become_39 rfl rfl rfl rfl rfl (by decide) (by decide) (by decide) (by decide) rfl rfl ?_
  refine XW.aload_n 43 dX1_become_42 rfl rfl ?_
  refine XW.getf 46 (v := .ref 3) f1_19 dX1_become_43 rfl rfl rfl ?_
  refine XW.iconst 47 dX1_become_46 (v := 0) (by decide) rfl ?_
  refine XW.aload_n 48 dX1_become_47 rfl rfl ?_
  refine XW.getf 51 (v := .ref 10) f1_19 dX1_become_48 rfl rfl rfl ?_
  refine XW.iconst 52 dX1_become_51 (v := 0) (by decide) rfl ?_
  refine XW.aload_n 53 dX1_become_52 rfl rfl ?_
  refine XW.getf 56 (v := .ref 10) f1_19 dX1_become_53 rfl rfl rfl ?_
  refine XW.alen 57 (v := 3) dX1_become_56 rfl rfl rfl ?_
  refine XW.copy 60 (h' := HP (sA (sA (sI (sI (sI Z 8 0 (Z.1 1 0)) 8 5 (Z.1 1 5)) 8 7 (Z.1 1 7)) 9 (va_cpy (Z.2.1 2) (Z.2.1 9) 0 0 60)) 10 (va_cpy (Z.2.1 3) (Z.2.1 10) 0 0 3))) 3 c1_43 wC_n wC_s wC_i dX1_become_57 rfl rfl rfl rfl rfl (by decide) (by decide) (by decide) (by decide) rfl rfl ?_
  refine XW.aload_n 61 dX1_become_60 rfl rfl ?_
  refine XW.getf 64 (v := .ref 4) f1_28 dX1_become_61 rfl rfl rfl ?_
  refine XW.iconst 65 dX1_become_64 (v := 0) (by decide) rfl ?_
  refine XW.aload_n 66 dX1_become_65 rfl rfl ?_
  refine XW.getf 69 (v := .ref 11) f1_28 dX1_become_66 rfl rfl rfl ?_
  refine XW.iconst 70 dX1_become_69 (v := 0) (by decide) rfl ?_
  refine XW.aload_n 71 dX1_become_70 rfl rfl ?_
  refine XW.getf 74 (v := .ref 11) f1_28 dX1_become_71 rfl rfl rfl ?_
  refine XW.alen 75 (v := 52) dX1_become_74 rfl rfl rfl ?_
  refine XW.copy 78 (h' := HP (sA (sA (sA (sI (sI (sI Z 8 0 (Z.1 1 0)) 8 5 (Z.1 1 5)) 8 7 (Z.1 1 7)) 9 (va_cpy (Z.2.1 2) (Z.2.1 9) 0 0 60)) 10 (va_cpy (Z.2.1 3) (Z.2.1 10) 0 0 3)) 11 (va_cpy (Z.2.1 4) (Z.2.1 11) 0 0 52))) 52 c1_43 wC_n wC_s wC_i dX1_become_75 rfl rfl rfl rfl rfl (by decide) (by decide) (by decide) (by decide) rfl rfl ?_
  refine XW.aload_n 79 dX1_become_78 rfl rfl ?_
  refine XW.getf 82 (v := .ref 5) f1_31 dX1_become_79 rfl rfl rfl ?_
  refine XW.iconst 83 dX1_become_82 (v := 0) (by decide) rfl ?_
  refine XW.aload_n 84 dX1_become_83 rfl rfl ?_
  refine XW.getf 87 (v := .ref 12) f1_31 dX1_become_84 rfl rfl rfl ?_
  refine XW.iconst 88 dX1_become_87 (v := 0) (by decide) rfl ?_
  refine XW.aload_n 89 dX1_become_88 rfl rfl ?_
  refine XW.getf 92 (v := .ref 12) f1_31 dX1_become_89 rfl rfl rfl ?_
  refine XW.alen 93 (v := 3) dX1_become_92 rfl rfl rfl ?_
  refine XW.copy 96 (h' := HP (sA (sA (sA (sA (sI (sI (sI Z 8 0 (Z.1 1 0)) 8 5 (Z.1 1 5)) 8 7 (Z.1 1 7)) 9 (va_cpy (Z.2.1 2) (Z.2.1 9) 0 0 60)) 10 (va_cpy (Z.2.1 3) (Z.2.1 10) 0 0 3)) 11 (va_cpy (Z.2.1 4) (Z.2.1 11) 0 0 52)) 12 (va_cpy (Z.2.1 5) (Z.2.1 12) 0 0 3))) 3 c1_43 wC_n wC_s wC_i dX1_become_93 rfl rfl rfl rfl rfl (by decide) (by decide) (by decide) (by decide) rfl rfl ?_
  refine XW.aload_n 97 dX1_become_96 rfl rfl ?_
  refine XW.getf 100 (v := .ref 6) f1_37 dX1_become_97 rfl rfl rfl ?_
  refine XW.iconst 101 dX1_become_100 (v := 0) (by decide) rfl ?_
  refine XW.aload_n 102 dX1_become_101 rfl rfl ?_
  refine XW.getf 105 (v := .ref 13) f1_37 dX1_become_102 rfl rfl rfl ?_
  refine XW.iconst 106 dX1_become_105 (v := 0) (by decide) rfl ?_
  refine XW.aload_n 107 dX1_become_106 rfl rfl ?_
  refine XW.getf 110 (v := .ref 13) f1_37 dX1_become_107 rfl rfl rfl ?_
  refine XW.alen 111 (v := 8) dX1_become_110 rfl rfl rfl ?_
  refine XW.copy 114 (h' := HP (sA (sA (sA (sA (sA (sI (sI (sI Z 8 0 (Z.1 1 0)) 8 5 (Z.1 1 5)) 8 7 (Z.1 1 7)) 9 (va_cpy (Z.2.1 2) (Z.2.1 9) 0 0 60)) 10 (va_cpy (Z.2.1 3) (Z.2.1 10) 0 0 3)) 11 (va_cpy (Z.2.1 4) (Z.2.1 11) 0 0 52)) 12 (va_cpy (Z.2.1 5) (Z.2.1 12) 0 0 3)) 13 (va_cpy (Z.2.1 6) (Z.2.1 13) 0 0 8))) 8 c1_43 wC_n wC_s wC_i dX1_become_111 rfl rfl rfl rfl rfl (by decide) (by decide) (by decide) (by decide) rfl rfl ?_
  exact XW.vret dX1_become_114 trivial (⟨rfl, rfl⟩)
set_option maxHeartbeats 4000000 in
set_option maxRecDepth 100000 in
theorem c_become_1_8 {Z : xZ} : XC mX1_become 1 0 0 [.ref 1, .ref 8] (HP Z) (fun q h' => q = none ∧ h' = HP (becZ Z 1 8)) := by
  show XW mX1_become 1 0 0 0 [some (.ref 1), some (.ref 8)] [] (HP Z) _
  refine XW.aload_n 1 dX1_become_0 rfl rfl ?_
  refine XW.aload_n 2 dX1_become_1 rfl rfl ?_
  refine XW.getf 5 (v := .int (Z.1 8 0)) f1_9 dX1_become_2 rfl rfl rfl ?_
  refine XW.putf 8 (h' := HP (sI Z 1 0 (Z.1 8 0))) (p1_9 _) dX1_become_5 rfl (Nat.le_of_ble_eq_true rfl) (xfit_i _) rfl rfl ?_
  refine XW.aload_n 9 dX1_become_8 rfl rfl ?_
  refine XW.aload_n 10 dX1_become_9 rfl rfl ?_
  refine XW.getf 13 (v := .int (Z.1 8 5)) f1_34 dX1_become_10 rfl rfl rfl ?_
  refine XW.putf 16 (h' := HP (sI (sI Z 1 0 (Z.1 8 0)) 1 5 (Z.1 8 5))) (p1_34 _) dX1_become_13 rfl (Nat.le_of_ble_eq_true rfl) (xfit_i _) rfl rfl ?_
  refine XW.aload_n 17 dX1_become_16 rfl rfl ?_
  refine XW.aload_n 18 dX1_become_17 rfl rfl ?_
  refine XW.getf 21 (v := .int (Z.1 8 7)) f1_40 dX1_become_18 rfl rfl rfl ?_
  refine XW.putf 24 (h' := HP (sI (sI (sI Z 1 0 (Z.1 8 0)) 1 5 (Z.1 8 5)) 1 7 (Z.1 8 7))) (p1_40 _) dX1_become_21 rfl (Nat.le_of_ble_eq_true rfl) (xfit_i _) rfl rfl ?_
  refine XW.aload_n 25 dX1_become_24 rfl rfl ?_
  refine XW.getf 28 (v := .ref 9) f1_15 dX1_become_25 rfl rfl rfl ?_
  refine XW.iconst 29 dX1_become_28 (v := 0) (by decide) rfl ?_
  refine XW.aload_n 30 dX1_become_29 rfl rfl ?_
  refine XW.getf 33 (v := .ref 2) f1_15 dX1_become_30 rfl rfl rfl ?_
  refine XW.iconst 34 dX1_become_33 (v := 0) (by decide) rfl ?_
  refine XW.aload_n 35 dX1_become_34 rfl rfl ?_
  refine XW.getf 38 (v := .ref 2) f1_15 dX1_become_35 rfl rfl rfl ?_
  refine XW.alen 39 (v := 60) dX1_become_38 rfl rfl rfl ?_
  refine XW.copy 42 (h' := HP (sA (sI (sI (sI Z 1 0 (Z.1 8 0)) 1 5 (Z.1 8 5)) 1 7 (Z.1 8 7)) 2 (va_cpy (Z.2.1 9) (Z.2.1 2) 0 0 60))) 60 c1_43 wC_n wC_s wC_i dX1_become_39 rfl rfl rfl rfl rfl (by decide) (by decide) (by decide) (by decide) rfl rfl ?_
  refine XW.aload_n 43 dX1_become_42 rfl rfl ?_
  refine XW.getf 46 (v := .ref 10) f1_19 dX1_become_43 rfl rfl rfl ?_
  refine XW.iconst 47 dX1_become_46 (v := 0) (by decide) rfl ?_
  refine XW.aload_n 48 dX1_become_47 rfl rfl ?_
  refine XW.getf 51 (v := .ref 3) f1_19 dX1_become_48 rfl rfl rfl ?_
  refine XW.iconst 52 dX1_become_51 (v := 0) (by decide) rfl ?_
  refine XW.aload_n 53 dX1_become_52 rfl rfl ?_
  refine XW.getf 56 (v := .ref 3) f1_19 dX1_become_53 rfl rfl rfl ?_
  refine XW.alen 57 (v := 3) dX1_become_56 rfl rfl rfl ?_
  refine XW.copy 60 (h' := HP (sA (sA (sI (sI (sI Z 1 0 (Z.1 8 0)) 1 5 (Z.1 8 5)) 1 7 (Z.1 8 7)) 2 (va_cpy (Z.2.1 9) (Z.2.1 2) 0 0 60)) 3 (va_cpy (Z.2.1 10) (Z.2.1 3) 0 0 3))) 3 c1_43 wC_n wC_s wC_i dX1_become_57 rfl rfl rfl rfl rfl (by decide) (by decide) (by decide) (by decide) rfl rfl ?_
  refine XW.aload_n 61 dX1_become_60 rfl rfl ?_
  refine XW.getf 64 (v := .ref 11) f1_28 dX1_become_61 rfl rfl rfl ?_
  refine XW.iconst 65 dX1_become_64 (v := 0) (by decide) rfl ?_
  refine XW.aload_n 66 dX1_become_65 rfl rfl ?_
  refine XW.getf 69 (v := .ref 4) f1_28 dX1_become_66 rfl rfl rfl ?_
  refine XW.iconst 70 dX1_become_69 (v := 0) (by decide) rfl ?_
  refine XW.aload_n 71 dX1_become_70 rfl rfl ?_
  refine XW.getf 74 (v := .ref 4) f1_28 dX1_become_71 rfl rfl rfl ?_
  refine XW.alen 75 (v := 52) dX1_become_74 rfl rfl rfl ?_
  refine XW.copy 78 (h' := HP (sA (sA (sA (sI (sI (sI Z 1 0 (Z.1 8 0)) 1 5 (Z.1 8 5)) 1 7 (Z.1 8 7)) 2 (va_cpy (Z.2.1 9) (Z.2.1 2) 0 0 60)) 3 (va_cpy (Z.2.1 10) (Z.2.1 3) 0 0 3)) 4 (va_cpy (Z.2.1 11) (Z.2.1 4) 0 0 52))) 52 c1_43 wC_n wC_s wC_i dX1_become_75 rfl rfl rfl rfl rfl (by decide) (by decide) (by decide) (by decide) rfl rfl ?_
  refine XW.aload_n 79 dX1_become_78 rfl rfl ?_
  refine XW.getf 82 (v := .ref 12) f1_31 dX1_become_79 rfl rfl rfl ?_
  refine XW.iconst 83 dX1_become_82 (v := 0) (by decide) rfl ?_
  refine XW.aload_n 84 dX1_become_83 rfl rfl ?_
  refine XW.getf 87 (v := .ref 5) f1_31 dX1_become_84 rfl rfl rfl ?_
  refine XW.iconst 88 dX1_become_87 (v := 0) (by decide) rfl ?_
  refine XW.aload_n 89 dX1_become_88 rfl rfl ?_
  refine XW.getf 92 (v := .ref 5) f1_31 dX1_become_89 rfl rfl rfl ?_
  refine XW.alen 93 (v := 3) dX1_become_92 rfl rfl rfl ?_
  refine XW.copy 96 (h' := HP (sA (sA (sA (sA (sI (sI (sI Z 1 0 (Z.1 8 0)) 1 5 (Z.1 8 5)) 1 7 (Z.1 8 7)) 2 (va_cpy (Z.2.1 9) (Z.2.1 2) 0 0 60)) 3 (va_cpy (Z.2.1 10) (Z.2.1 3) 0 0 3)) 4 (va_cpy (Z.2.1 11) (Z.2.1 4) 0 0 52)) 5 (va_cpy (Z.2.1 12) (Z.2.1 5) 0 0 3))) 3 c1_43 wC_n wC_s wC_i dX1_become_93 rfl rfl rfl rfl rfl (by decide) (by decide) (by decide) (by decide) rfl rfl ?_
  refine XW.aload_n 97 dX1_become_96 rfl rfl ?_
  refine XW.getf 100 (v := .ref 13) f1_37 dX1_become_97 rfl rfl rfl ?_
  refine XW.iconst 101 dX1_become_100 (v := 0) (by decide) rfl ?_
  refine XW.aload_n 102 dX1_become_101 rfl rfl ?_
  refine XW.getf 105 (v := .ref 6) f1_37 dX1_become_102 rfl rfl rfl ?_
  refine XW.iconst 106 dX1_become_105 (v := 0) (by decide) rfl ?_
  refine XW.aload_n 107 dX1_become_106 rfl rfl ?_
  refine XW.getf 110 (v := .ref 6) f1_37 dX1_become_107 rfl rfl rfl ?_
  refine XW.alen 111 (v := 8) dX1_become_110 rfl rfl rfl ?_
  refine XW.copy 114 (h' := HP (sA (sA (sA (sA (sA (sI (sI (sI Z 1 0 (Z.1 8 0)) 1 5 (Z.1 8 5)) 1 7 (Z.1 8 7)) 2 (va_cpy (Z.2.1 9) (Z.2.1 2) 0 0 60)) 3 (va_cpy (Z.2.1 10) (Z.2.1 3) 0 0 3)) 4 (va_cpy (Z.2.1 11) (Z.2.1 4) 0 0 52)) 5 (va_cpy (Z.2.1 12) (Z.2.1 5) 0 0 3)) 6 (va_cpy (Z.2.1 13) (Z.2.1 6) 0 0 8))) 8 c1_43 wC_n wC_s wC_i dX1_become_111 rfl rfl rfl rfl rfl (by decide) (by decide) (by decide) (by decide) rfl rfl ?_
  exact XW.vret dX1_become_114 trivial (⟨rfl, rfl⟩)
set_option maxHeartbeats 4000000 in
set_option maxRecDepth 100000 in
theorem c_become_14_1 {Z : xZ} : XC mX1_become 1 0 0 [.ref 14, .ref 1] (HP Z) (fun q h' => q = none ∧ h' = HP (becZ Z 14 1)) := by
  show XW mX1_become 1 0 0 0 [some (.ref 14), some (.ref 1)] [] (HP Z) _
  refine XW.aload_n 1 dX1_become_0 rfl rfl ?_
  refine XW.aload_n 2 dX1_become_1 rfl rfl ?_
  refine XW.getf 5 (v := .int (Z.1 1 0)) f1_9 dX1_become_2 rfl rfl rfl ?_
  refine XW.putf 8 (h' := HP (sI Z 14 0 (Z.1 1 0))) (p1_9 _) dX1_become_5 rfl (Nat.le_of_ble_eq_true rfl) (xfit_i _) rfl rfl ?_
  refine XW.aload_n 9 dX1_become_8 rfl rfl ?_
  refine XW.aload_n 10 dX1_become_9 rfl rfl ?_
  refine XW.getf 13 (v := .int (Z.1 1 5)) f1_34 dX1_become_10 rfl rfl rfl ?_
  refine XW.putf 16 (h' := HP (sI (sI Z 14 0 (Z.1 1 0)) 14 5 (Z.1 1 5))) (p1_34 _) dX1_become_13 rfl (Nat.le_of_ble_eq_true rfl) (xfit_i _) rfl rfl ?_
  refine XW.aload_n 17 dX1_become_16 rfl rfl ?_
  refine XW.aload_n 18 dX1_become_17 rfl rfl ?_
  refine XW.getf 21 (v := .int (Z.1 1 7)) f1_40 dX1_become_18 rfl rfl rfl ?_
  refine XW.putf 24 (h' := HP (sI (sI (sI Z 14 0 (Z.1 1 0)) 14 5 (Z.1 1 5)) 14 7 (Z.1 1 7))) (p1_40 _) dX1_become_21 rfl (Nat.le_of_ble_eq_true rfl) (xfit_i _) rfl rfl ?_
  refine XW.aload_n 25 dX1_become_24 rfl rfl ?_
  refine XW.getf 28 (v := .ref 2) f1_15 dX1_become_25 rfl rfl rfl ?_
  refine XW.iconst 29 dX1_become_28 (v := 0) (by decide) rfl ?_
  refine XW.aload_n 30 dX1_become_29 rfl rfl ?_
  refine XW.getf 33 (v := .ref 15) f1_15 dX1_become_30 rfl rfl rfl ?_
  refine XW.iconst 34 dX1_become_33 (v := 0) (by decide) rfl ?_
  refine XW.aload_n 35 dX1_become_34 rfl rfl ?_
  refine XW.getf 38 (v := .ref 15) f1_15 dX1_become_35 rfl rfl rfl ?_
  refine XW.alen 39 (v := 60) dX1_become_38 rfl rfl rfl ?_
  refine XW.copy 42 (h' := HP (sA (sI (sI (sI Z 14 0 (Z.1 1 0)) 14 5 (Z.1 1 5)) 14 7 (Z.1 1 7)) 15 (va_cpy (Z.2.1 2) (Z.2.1 15) 0 0 60))) 60 c1_43 wC_n wC_s wC_i dX1_become_39 rfl rfl rfl rfl rfl (by decide) (by decide) (by decide) (by decide) rfl rfl ?_
  refine XW.aload_n 43 dX1_become_42 rfl rfl ?_
  refine XW.getf 46 (v := .ref 3) f1_19 dX1_become_43 rfl rfl rfl ?_
  refine XW.iconst 47 dX1_become_46 (v := 0) (by decide) rfl ?_
  refine XW.aload_n 48 dX1_become_47 rfl rfl ?_
  refine XW.getf 51 (v := .ref 16) f1_19 dX1_become_48 rfl rfl rfl ?_
  refine XW.iconst 52 dX1_become_51 (v := 0) (by decide) rfl ?_
  refine XW.aload_n 53 dX1_become_52 rfl rfl ?_
  refine XW.getf 56 (v := .ref 16) f1_19 dX1_become_53 rfl rfl rfl ?_
  refine XW.alen 57 (v := 3) dX1_become_56 rfl rfl rfl ?_
  refine XW.copy 60 (h' := HP (sA (sA (sI (sI (sI Z 14 0 (Z.1 1 0)) 14 5 (Z.1 1 5)) 14 7 (Z.1 1 7)) 15 (va_cpy (Z.2.1 2) (Z.2.1 15) 0 0 60)) 16 (va_cpy (Z.2.1 3) (Z.2.1 16) 0 0 3))) 3 c1_43 wC_n wC_s wC_i dX1_become_57 rfl rfl rfl rfl rfl (by decide) (by decide) (by decide) (by decide) rfl rfl ?_
  refine XW.aload_n 61 dX1_become_60 rfl rfl ?_
  refine XW.getf 64 (v := .ref 4) f1_28 dX1_become_61 rfl rfl rfl ?_
  refine XW.iconst 65 dX1_become_64 (v := 0) (by decide) rfl ?_
  refine XW.aload_n 66 dX1_become_65 rfl rfl ?_
  refine XW.getf 69 (v := .ref 17) f1_28 dX1_become_66 rfl rfl rfl ?_
  refine XW.iconst 70 dX1_become_69 (v := 0) (by decide) rfl ?_
  refine XW.aload_n 71 dX1_become_70 rfl rfl ?_
  refine XW.getf 74 (v := .ref 17) f1_28 dX1_become_71 rfl rfl rfl ?_
  refine XW.alen 75 (v := 52) dX1_become_74 rfl rfl rfl ?_
  refine XW.copy 78 (h' := HP (sA (sA (sA (sI (sI (sI Z 14 0 (Z.1 1 0)) 14 5 (Z.1 1 5)) 14 7 (Z.1 1 7)) 15 (va_cpy (Z.2.1 2) (Z.2.1 15) 0 0 60)) 16 (va_cpy (Z.2.1 3) (Z.2.1 16) 0 0 3)) 17 (va_cpy (Z.2.1 4) (Z.2.1 17) 0 0 52))) 52 c1_43 wC_n wC_s wC_i dX1_become_75 rfl rfl rfl rfl rfl (by decide) (by decide) (by decide) (by decide) rfl rfl ?_
  refine XW.aload_n 79 dX1_become_78 rfl rfl ?_
  refine XW.getf 82 (v := .ref 5) f1_31 dX1_become_79 rfl rfl rfl ?_
  refine XW.iconst 83 dX1_become_82 (v := 0) (by decide) rfl ?_
  refine XW.aload_n 84 dX1_become_83 rfl rfl ?_
  refine XW.getf 87 (v := .ref 18) f1_31 dX1_become_84 rfl rfl rfl ?_
  refine XW.iconst 88 dX1_become_87 (v := 0) (by decide) rfl ?_
  refine XW.aload_n 89 dX1_become_88 rfl rfl ?_
  refine XW.getf 92 (v := .ref 18) f1_31 dX1_become_89 rfl rfl rfl ?_
  refine XW.alen 93 (v := 3) dX1_become_92 rfl rfl rfl ?_
  refine XW.copy 96 (h' := HP (sA (sA (sA (sA (sI (sI (sI Z 14 0 (Z.1 1 0)) 14 5 (Z.1 1 5)) 14 7 (Z.1 1 7)) 15 (va_cpy (Z.2.1 2) (Z.2.1 15) 0 0 60)) 16 (va_cpy (Z.2.1 3) (Z.2.1 16) 0 0 3)) 17 (va_cpy (Z.2.1 4) (Z.2.1 17) 0 0 52)) 18 (va_cpy (Z.2.1 5) (Z.2.1 18) 0 0 3))) 3 c1_43 wC_n wC_s wC_i dX1_become_93 rfl rfl rfl rfl rfl (by decide) (by decide) (by decide) (by decide) rfl rfl ?_
  refine XW.aload_n 97 dX1_become_96 rfl rfl ?_
  refine XW.getf 100 (v := .ref 6) f1_37 dX1_become_97 rfl rfl rfl ?_
  refine XW.iconst 101 dX1_become_100 (v := 0) (by decide) rfl ?_
  refine XW.aload_n 102 dX1_become_101 rfl rfl ?_
  refine XW.getf 105 (v := .ref 19) f1_37 dX1_become_102 rfl rfl rfl ?_
  refine XW.iconst 106 dX1_become_105 (v := 0) (by decide) rfl ?_
  refine XW.aload_n 107 dX1_become_106 rfl rfl ?_
  refine XW.getf 110 (v := .ref 19) f1_37 dX1_become_107 rfl rfl rfl ?_
  refine XW.alen 111 (v := 8) dX1_become_110 rfl rfl rfl ?_
  refine XW.copy 114 (h' := HP (sA (sA (sA (sA (sA (sI (sI (sI Z 14 0 (Z.1 1 0)) 14 5 (Z.1 1 5)) 14 7 (Z.1 1 7)) 15 (va_cpy (Z.2.1 2) (Z.2.1 15) 0 0 60)) 16 (va_cpy (Z.2.1 3) (Z.2.1 16) 0 0 3)) 17 (va_cpy (Z.2.1 4) (Z.2.1 17) 0 0 52)) 18 (va_cpy (Z.2.1 5) (Z.2.1 18) 0 0 3)) 19 (va_cpy (Z.2.1 6) (Z.2.1 19) 0 0 8))) 8 c1_43 wC_n wC_s wC_i dX1_become_111 rfl rfl rfl rfl rfl (by decide) (by decide) (by decide) (by decide) rfl rfl ?_
  exact XW.vret dX1_become_114 trivial (⟨rfl, rfl⟩)
set_option maxHeartbeats 4000000 in
set_option maxRecDepth 100000 in
theorem c_become_1_14 {Z : xZ} : XC mX1_become 1 0 0 [.ref 1, .ref 14] (HP Z) (fun q h' => q = none ∧ h' = HP (becZ Z 1 14)) := by
  show XW mX1_become 1 0 0 0 [some (.ref 1), some (.ref 14)] [] (HP Z) _
  refine XW.aload_n 1 dX1_become_0 rfl rfl ?_
  refine XW.aload_n 2 dX1_become_1 rfl rfl ?_
  refine XW.getf 5 (v := .int (Z.1 14 0)) f1_9 dX1_become_2 rfl rfl rfl ?_
  refine XW.putf 8 (h' := HP (sI Z 1 0 (Z.1 14 0))) (p1_9 _) dX1_become_5 rfl (Nat.le_of_ble_eq_true rfl) (xfit_i _) rfl rfl ?_
  refine XW.aload_n 9 dX1_become_8 rfl rfl ?_
  refine XW.aload_n 10 dX1_become_9 rfl rfl ?_
  refine XW.getf 13 (v := .int (Z.1 14 5)) f1_34 dX1_become_10 rfl rfl rfl ?_
  refine XW.putf 16 (h' := HP (sI (sI Z 1 0 (Z.1 14 0)) 1 5 (Z.1 14 5))) (p1_34 _) dX1_become_13 rfl (Nat.le_of_ble_eq_true rfl) (xfit_i _) rfl rfl ?_
  refine XW.aload_n 17 dX1_become_16 rfl rfl ?_
  refine XW.aload_n 18 dX1_become_17 rfl rfl ?_
  refine XW.getf 21 (v := .int (Z.1 14 7)) f1_40 dX1_become_18 rfl rfl rfl ?_
  refine XW.putf 24 (h' := HP (sI (sI (sI Z 1 0 (Z.1 14 0)) 1 5 (Z.1 14 5)) 1 7 (Z.1 14 7))) (p1_40 _) dX1_become_21 rfl (Nat.le_of_ble_eq_true rfl) (xfit_i _) rfl rfl ?_
  refine XW.aload_n 25 dX1_become_24 rfl rfl ?_
  refine XW.getf 28 (v := .ref 15) f1_15 dX1_become_25 rfl rfl rfl ?_
  refine XW.iconst 29 dX1_become_28 (v := 0) (by decide) rfl ?_
  refine XW.aload_n 30 dX1_become_29 rfl rfl ?_
  refine XW.getf 33 (v := .ref 2) f1_15 dX1_become_30 rfl rfl rfl ?_
  refine XW.iconst 34 dX1_become_33 (v := 0) (by decide) rfl ?_
  refine XW.aload_n 35 dX1_become_34 rfl rfl ?_
  refine XW.getf 38 (v := .ref 2) f1_15 dX1_become_35 rfl rfl rfl ?_
  refine XW.alen 39 (v := 60) dX1_become_38 rfl rfl rfl ?_
  refine XW.copy 42 (h' := HP (sA (sI (sI (sI Z 1 0 (Z.1 14 0)) 1 5 (Z.1 14 5)) 1 7 (Z.1 14 7)) 2 (va_cpy (Z.2.1 15) (Z.2.1 2) 0 0 60))) 60 c1_43 wC_n wC_s wC_i dX1_become_39 rfl rfl rfl rfl rfl (by decide) (by decide) (by decide) (by decide) rfl rfl ?_
  refine XW.aload_n 43 dX1_become_42 rfl rfl ?_
  refine XW.getf 46 (v := .ref 16) f1_19 dX1_become_43 rfl rfl rfl ?_
  refine XW.iconst 47 dX1_become_46 (v := 0) (by decide) rfl ?_
  refine XW.aload_n 48 dX1_become_47 rfl rfl ?_
  refine XW.getf 51 (v := .ref 3) f1_19 dX1_become_48 rfl rfl rfl ?_
  refine XW.iconst 52 dX1_become_51 (v := 0) (by decide) rfl ?_
  refine XW.aload_n 53 dX1_become_52 rfl rfl ?_
  refine XW.getf 56 (v := .ref 3) f1_19 dX1_become_53 rfl rfl rfl ?_
  refine XW.alen 57 (v := 3) dX1_become_56 rfl rfl rfl ?_
  refine XW.copy 60 (h' := HP (sA (sA (sI (sI (sI Z 1 0 (Z.1 14 0)) 1 5 (Z.1 14 5)) 1 7 (Z.1 14 7)) 2 (va_cpy (Z.2.1 15) (Z.2.1 2) 0 0 60)) 3 (va_cpy (Z.2.1 16) (Z.2.1 3) 0 0 3))) 3 c1_43 wC_n wC_s wC_i dX1_become_57 rfl rfl rfl rfl rfl (by decide) (by decide) (by decide) (by decide) rfl rfl ?_
  refine XW.aload_n 61 dX1_become_60 rfl rfl ?_
  refine XW.getf 64 (v := .ref 17) f1_28 dX1_become_61 rfl rfl rfl ?_
  refine XW.iconst 65 dX1_become_64 (v := 0) (by decide) rfl ?_
  refine XW.aload_n 66 dX1_become_65 rfl rfl ?_
  refine XW.getf 69 (v := .ref 4) f1_28 dX1_become_66 rfl rfl rfl ?_
  refine XW.iconst 70 dX1_become_69 (v := 0) (by decide) rfl ?_
  refine XW.aload_n 71 dX1_become_70 rfl rfl ?_
  refine XW.getf 74 (v := .ref 4) f1_28 dX1_become_71 rfl rfl rfl ?_
  refine XW.alen 75 (v := 52) dX1_become_74 rfl rfl rfl ?_
  refine XW.copy 78 (h' := HP (sA (sA (sA (sI (sI (sI Z 1 0 (Z.1 14 0)) 1 5 (Z.1 14 5)) 1 7 (Z.1 14 7)) 2 (va_cpy (Z.2.1 15) (Z.2.1 2) 0 0 60)) 3 (va_cpy (Z.2.1 16) (Z.2.1 3) 0 0 3)) 4 (va_cpy (Z.2.1 17) (Z.2.1 4) 0 0 52))) 52 c1_43 wC_n wC_s wC_i dX1_become_75 rfl rfl rfl rfl rfl (by decide) (by decide) (by decide) (by decide) rfl rfl ?_
  refine XW.aload_n 79 dX1_become_78 rfl rfl ?_
  refine XW.getf 82 (v := .ref 18) f1_31 dX1_become_79 rfl rfl rfl ?_
  refine XW.iconst 83 dX1_become_82 (v := 0) (by decide) rfl ?_
  refine XW.aload_n 84 dX1_become_83 rfl rfl ?_
  refine XW.getf 87 (v := .ref 5) f1_31 dX1_become_84 rfl rfl rfl ?_
  refine XW.iconst 88 dX1_become_87 (v := 0) (by decide) rfl ?_
  refine XW.aload_n 89 dX1_become_88 rfl rfl ?_
  refine XW.getf 92 (v := .ref 5) f1_31 dX1_become_89 rfl rfl rfl ?_
  refine XW.alen 93 (v := 3) dX1_become_92 rfl rfl rfl ?_
  refine XW.copy 96 (h' := HP (sA (sA (sA (sA (sI (sI (sI Z 1 0 (Z.1 14 0)) 1 5 (Z.1 14 5)) 1 7 (Z.1 14 7)) 2 (va_cpy (Z.2.1 15) (Z.2.1 2) 0 0 60)) 3 (va_cpy (Z.2.1 16) (Z.2.1 3) 0 0 3)) 4 (va_cpy (Z.2.1 17) (Z.2.1 4) 0 0 52)) 5 (va_cpy (Z.2.1 18) (Z.2.1 5) 0 0 3))) 3 c1_43 wC_n wC_s wC_i dX1_become_93 rfl rfl rfl rfl rfl (by decide) (by decide) (by decide) (by decide) rfl rfl ?_
  refine XW.aload_n 97 dX1_become_96 rfl rfl ?_
  refine XW.getf 100 (v := .ref 19) f1_37 dX1_become_97 rfl rfl rfl ?_
  refine XW.iconst 101 dX1_become_100 (v := 0) (by decide) rfl ?_
  refine XW.aload_n 102 dX1_become_101 rfl rfl ?_
  refine XW.getf 105 (v := .ref 6) f1_37 dX1_become_102 rfl rfl rfl ?_
  refine XW.iconst 106 dX1_become_105 (v := 0) (by decide) rfl ?_
  refine XW.aload_n 107 dX1_become_106 rfl rfl ?_
  refine XW.getf 110 (v := .ref 6) f1_37 dX1_become_107 rfl rfl rfl ?_
  refine XW.alen 111 (v := 8) dX1_become_110 rfl rfl rfl ?_
  refine XW.copy 114 (h' := HP (sA (sA (sA (sA (sA (sI (sI (sI Z 1 0 (Z.1 14 0)) 1 5 (Z.1 14 5)) 1 7 (Z.1 14 7)) 2 (va_cpy (Z.2.1 15) (Z.2.1 2) 0 0 60)) 3 (va_cpy (Z.2.1 16) (Z.2.1 3) 0 0 3)) 4 (va_cpy (Z.2.1 17) (Z.2.1 4) 0 0 52)) 5 (va_cpy (Z.2.1 18) (Z.2.1 5) 0 0 3)) 6 (va_cpy (Z.2.1 19) (Z.2.1 6) 0 0 8))) 8 c1_43 wC_n wC_s wC_i dX1_become_111 rfl rfl rfl rfl rfl (by decide) (by decide) (by decide) (by decide) rfl rfl ?_
  exact XW.vret dX1_become_114 trivial (⟨rfl, rfl⟩)
set_option maxHeartbeats 4000000 in
set_option maxRecDepth 100000 in
theorem c_become_20_1 {Z : xZ} : XC mX1_become 1 0 0 [.ref 20, .ref 1] (HP Z) (fun q h' => q = none ∧ h' = HP (becZ Z 20 1)) := by
  show XW mX1_become 1 0 0 0 [some (.ref 20), some (.ref 1)] [] (HP Z) _
  refine XW.aload_n 1 dX1_become_0 rfl rfl ?_
  refine XW.aload_n 2 dX1_become_1 rfl rfl ?_
  refine XW.getf 5 (v := .int (Z.1 1 0)) f1_9 dX1_become_2 rfl rfl rfl ?_
  refine XW.putf 8 (h' := HP (sI Z 20 0 (Z.1 1 0))) (p1_9 _) dX1_become_5 rfl (Nat.le_of_ble_eq_true rfl) (xfit_i _) rfl rfl ?_
  refine XW.aload_n 9 dX1_become_8 rfl rfl ?_
  refine XW.aload_n 10 dX1_become_9 rfl rfl ?_
  refine XW.getf 13 (v := .int (Z.1 1 5)) f1_34 dX1_become_10 rfl rfl rfl ?_
  refine XW.putf 16 (h' := HP (sI (sI Z 20 0 (Z.1 1 0)) 20 5 (Z.1 1 5))) (p1_34 _) dX1_become_13 rfl (Nat.le_of_ble_eq_true rfl) (xfit_i _) rfl rfl ?_
  refine XW.aload_n 17 dX1_become_16 rfl rfl ?_
  refine XW.aload_n 18 dX1_become_17 rfl rfl ?_
  refine XW.getf 21 (v := .int (Z.1 1 7)) f1_40 dX1_become_18 rfl rfl rfl ?_
  refine XW.putf 24 (h' := HP (sI (sI (sI Z 20 0 (Z.1 1 0)) 20 5 (Z.1 1 5)) 20 7 (Z.1 1 7))) (p1_40 _) dX1_become_21 rfl (Nat.le_of_ble_eq_true rfl) (xfit_i _) rfl rfl ?_
  refine XW.aload_n 25 dX1_become_24 rfl rfl ?_
  refine XW.getf 28 (v := .ref 2) f1_15 dX1_become_25 rfl rfl rfl ?_
  refine XW.iconst 29 dX1_become_28 (v := 0) (by decide) rfl ?_
  refine XW.aload_n 30 dX1_become_29 rfl rfl ?_
  refine XW.getf 33 (v := .ref 21) f1_15 dX1_become_30 rfl rfl rfl ?_
  refine XW.iconst 34 dX1_become_33 (v := 0) (by decide) rfl ?_
  refine XW.aload_n 35 dX1_become_34 rfl rfl ?_
  refine XW.getf 38 (v := .ref 21) f1_15 dX1_become_35 rfl rfl rfl ?_
  refine XW.alen 39 (v := 60) dX1_become_38 rfl rfl rfl ?_
  refine XW.copy 42 (h' := HP (sA (sI (sI (sI Z 20 0 (Z.1 1 0)) 20 5 (Z.1 1 5)) 20 7 (Z.1 1 7)) 21 (va_cpy (Z.2.1 2) (Z.2.1 21) 0 0 60))) 60 c1_43 wC_n wC_s wC_i dX1_become_39 rfl rfl rfl rfl rfl (by decide) (by decide) (by decide) (by decide) rfl rfl ?_
  refine XW.aload_n 43 dX1_become_42 rfl rfl ?_
  refine XW.getf 46 (v := .ref 3) f1_19 dX1_become_43 rfl rfl rfl ?_
  refine XW.iconst 47 dX1_become_46 (v := 0) (by decide) rfl ?_
  refine XW.aload_n 48 dX1_become_47 rfl rfl ?_
  refine XW.getf 51 (v := .ref 22) f1_19 dX1_become_48 rfl rfl rfl ?_
  refine XW.iconst 52 dX1_become_51 (v := 0) (by decide) rfl ?_
  refine XW.aload_n 53 dX1_become_52 rfl rfl ?_
  refine XW.getf 56 (v := .ref 22) f1_19 dX1_become_53 rfl rfl rfl ?_
  refine XW.alen 57 (v := 3) dX1_become_56 rfl rfl rfl ?_
  refine XW.copy 60 (h' := HP (sA (sA (sI (sI (sI Z 20 0 (Z.1 1 0)) 20 5 (Z.1 1 5)) 20 7 (Z.1 1 7)) 21 (va_cpy (Z.2.1 2) (Z.2.1 21) 0 0 60)) 22 (va_cpy (Z.2.1 3) (Z.2.1 22) 0 0 3))) 3 c1_43 wC_n wC_s wC_i dX1_become_57 rfl rfl rfl rfl rfl (by decide) (by decide) (by decide) (by decide) rfl rfl ?_
  refine XW.aload_n 61 dX1_become_60 rfl rfl ?_
  refine XW.getf 64 (v := .ref 4) f1_28 dX1_become_61 rfl rfl rfl ?_
  refine XW.iconst 65 dX1_become_64 (v := 0) (by decide) rfl ?_
  refine XW.aload_n 66 dX1_become_65 rfl rfl ?_
  refine XW.getf 69 (v := .ref 23) f1_28 dX1_become_66 rfl rfl rfl ?_
  refine XW.iconst 70 dX1_become_69 (v := 0) (by decide) rfl ?_
  refine XW.aload_n 71 dX1_become_70 rfl rfl ?_
  refine XW.getf 74 (v := .ref 23) f1_28 dX1_become_71 rfl rfl rfl ?_
  refine XW.alen 75 (v := 52) dX1_become_74 rfl rfl rfl ?_
  refine XW.copy 78 (h' := HP (sA (sA (sA (sI (sI (sI Z 20 0 (Z.1 1 0)) 20 5 (Z.1 1 5)) 20 7 (Z.1 1 7)) 21 (va_cpy (Z.2.1 2) (Z.2.1 21) 0 0 60)) 22 (va_cpy (Z.2.1 3) (Z.2.1 22) 0 0 3)) 23 (va_cpy (Z.2.1 4) (Z.2.1 23) 0 0 52))) 52 c1_43 wC_n wC_s wC_i dX1_become_75 rfl rfl rfl rfl rfl (by decide) (by decide) (by decide) (by decide) rfl rfl ?_
  refine XW.aload_n 79 dX1_become_78 rfl rfl ?_
  refine XW.getf 82 (v := .ref 5) f1_31 dX1_become_79 rfl rfl rfl ?_
  refine XW.iconst 83 dX1_become_82 (v := 0) (by decide) rfl ?_
  refine XW.aload_n 84 dX1_become_83 rfl rfl ?_
  refine XW.getf 87 (v := .ref 24) f1_31 dX1_become_84 rfl rfl rfl ?_
  refine XW.iconst 88 dX1_become_87 (v := 0) (by decide) rfl ?_
  refine XW.aload_n 89 dX1_become_88 rfl rfl ?_
  refine XW.getf 92 (v := .ref 24) f1_31 dX1_become_89 rfl rfl rfl ?_
  refine XW.alen 93 (v := 3) dX1_become_92 rfl rfl rfl ?_
  refine XW.copy 96 (h' := HP (sA (sA (sA (sA (sI (sI (sI Z 20 0 (Z.1 1 0)) 20 5 (Z.1 1 5)) 20 7 (Z.1 1 7)) 21 (va_cpy (Z.2.1 2) (Z.2.1 21) 0 0 60)) 22 (va_cpy (Z.2.1 3) (Z.2.1 22) 0 0 3)) 23 (va_cpy (Z.2.1 4) (Z.2.1 23) 0 0 52)) 24 (va_cpy (Z.2.1 5) (Z.2.1 24) 0 0 3))) 3 c1_43 wC_n wC_s wC_i dX1_become_93 rfl rfl rfl rfl rfl (by decide) (by decide) (by decide) (by decide) rfl rfl ?_
  refine XW.aload_n 97 dX1_become_96 rfl rfl ?_
  refine XW.getf 100 (v := .ref 6) f1_37 dX1_become_97 rfl rfl rfl ?_
  refine XW.iconst 101 dX1_become_100 (v := 0) (by decide) rfl ?_
  refine XW.aload_n 102 dX1_become_101 rfl rfl ?_
  refine XW.getf 105 (v := .ref 25) f1_37 dX1_become_102 rfl rfl rfl ?_
  refine XW.iconst 106 dX1_become_105 (v := 0) (by decide) rfl ?_
  refine XW.aload_n 107 dX1_become_106 rfl rfl ?_
  refine XW.getf 110 (v := .ref 25) f1_37 dX1_become_107 rfl rfl rfl ?_
  refine XW.alen 111 (v := 8) dX1_become_110 rfl rfl rfl ?_
  refine XW.copy 114 (h' := HP (sA (sA (sA (sA (sA (sI (sI (sI Z 20 0 (Z.1 1 0)) 20 5 (Z.1 1 5)) 20 7 (Z.1 1 7)) 21 (va_cpy (Z.2.1 2) (Z.2.1 21) 0 0 60)) 22 (va_cpy (Z.2.1 3) (Z.2.1 22) 0 0 3)) 23 (va_cpy (Z.2.1 4) (Z.2.1 23) 0 0 52)) 24 (va_cpy (Z.2.1 5) (Z.2.1 24) 0 0 3)) 25 (va_cpy (Z.2.1 6) (Z.2.1 25) 0 0 8))) 8 c1_43 wC_n wC_s wC_i dX1_become_111 rfl rfl rfl rfl rfl (by decide) (by decide) (by decide) (by decide) rfl rfl ?_
  exact XW.vret dX1_become_114 trivial (⟨rfl, rfl⟩)
set_option maxHeartbeats 4000000 in
set_option maxRecDepth 100000 in
theorem c_become_1_20 {Z : xZ} : XC mX1_become 1 0 0 [.ref 1, .ref 20] (HP Z) (fun q h' => q = none ∧ h' = HP (becZ Z 1 20)) := by
  show XW mX1_become 1 0 0 0 [some (.ref 1), some (.ref 20)] [] (HP Z) _
  refine XW.aload_n 1 dX1_become_0 rfl rfl ?_
  refine XW.aload_n 2 dX1_become_1 rfl rfl ?_
  refine XW.getf 5 (v := .int (Z.1 20 0)) f1_9 dX1_become_2 rfl rfl rfl ?_
  refine XW.putf 8 (h' := HP (sI Z 1 0 (Z.1 20 0))) (p1_9 _) dX1_become_5 rfl (Nat.le_of_ble_eq_true rfl) (xfit_i _) rfl rfl ?_
  refine XW.aload_n 9 dX1_become_8 rfl rfl ?_
  refine XW.aload_n 10 dX1_become_9 rfl rfl ?_
  refine XW.getf 13 (v := .int (Z.1 20 5)) f1_34 dX1_become_10 rfl rfl rfl ?_
  refine XW.putf 16 (h' := HP (sI (sI Z 1 0 (Z.1 20 0)) 1 5 (Z.1 20 5))) (p1_34 _) dX1_become_13 rfl (Nat.le_of_ble_eq_true rfl) (xfit_i _) rfl rfl ?_
  refine XW.aload_n 17 dX1_become_16 rfl rfl ?_
  refine XW.aload_n 18 dX1_become_17 rfl rfl ?_
  refine XW.getf 21 (v := .int (Z.1 20 7)) f1_40 dX1_become_18 rfl rfl rfl ?_
  refine XW.putf 24 (h' := HP (sI (sI (sI Z 1 0 (Z.1 20 0)) 1 5 (Z.1 20 5)) 1 7 (Z.1 20 7))) (p1_40 _) dX1_become_21 rfl (Nat.le_of_ble_eq_true rfl) (xfit_i _) rfl rfl ?_
  refine XW.aload_n 25 dX1_become_24 rfl rfl ?_
  refine XW.getf 28 (v := .ref 21) f1_15 dX1_become_25 rfl rfl rfl ?_
  refine XW.iconst 29 dX1_become_28 (v := 0) (by decide) rfl ?_
  refine XW.aload_n 30 dX1_become_29 rfl rfl ?_
  refine XW.getf 33 (v := .ref 2) f1_15 dX1_become_30 rfl rfl rfl ?_
  refine XW.iconst 34 dX1_become_33 (v := 0) (by decide) rfl ?_
  refine XW.aload_n 35 dX1_become_34 rfl rfl ?_
  refine XW.getf 38 (v := .ref 2) f1_15 dX1_become_35 rfl rfl rfl ?_
  refine XW.alen 39 (v := 60) dX1_become_38 rfl rfl rfl ?_
  refine XW.copy 42 (h' := HP (sA (sI (sI (sI Z 1 0 (Z.1 20 0)) 1 5 (Z.1 20 5)) 1 7 (Z.1 20 7)) 2 (va_cpy (Z.2.1 21) (Z.2.1 2) 0 0 60))) 60 c1_43 wC_n wC_s wC_i dX1_become_39 rfl rfl rfl rfl rfl (by decide) (by decide) (by decide) (by decide) rfl rfl ?_
  refine XW.aload_n 43 dX1_become_42 rfl rfl ?_
  refine XW.getf 46 (v := .ref 22) f1_19 dX1_become_43 rfl rfl rfl ?_
  refine XW.iconst 47 dX1_become_46 (v := 0) (by decide) rfl ?_
  refine XW.aload_n 48 dX1_become_47 rfl rfl ?_
  refine XW.getf 51 (v := .ref 3) f1_19 dX1_become_48 rfl rfl rfl ?_
  refine XW.iconst 52 dX1_become_51 (v := 0) (by decide) rfl ?_
  refine XW.aload_n 53 dX1_become_52 rfl rfl ?_
  refine XW.getf 56 (v := .ref 3) f1_19 dX1_become_53 rfl rfl rfl ?_
  refine XW.alen 57 (v := 3) dX1_become_56 rfl rfl rfl ?_
  refine XW.copy 60 (h' := HP (sA (sA (sI (sI (sI Z 1 0 (Z.1 20 0)) 1 5 (Z.1 20 5)) 1 7 (Z.1 20 7)) 2 (va_cpy (Z.2.1 21) (Z.2.1 2) 0 0 60)) 3 (va_cpy (Z.2.1 22) (Z.2.1 3) 0 0 3))) 3 c1_43 wC_n wC_s wC_i dX1_become_57 rfl rfl rfl rfl rfl (by decide) (by decide) (by decide) (by decide) rfl rfl ?_
  refine XW.aload_n 61 dX1_become_60 rfl rfl ?_
  refine XW.getf 64 (v := .ref 23) f1_28 dX1_become_61 rfl rfl rfl ?_
  refine XW.iconst 65 dX1_become_64 (v := 0) (by decide) rfl ?_
  refine XW.aload_n 66 dX1_become_65 rfl rfl ?_
  refine XW.getf 69 (v := .ref 4) f1_28 dX1_become_66 rfl rfl rfl ?_
  refine XW.iconst 70 dX1_become_69 (v := 0) (by decide) rfl ?_
  refine XW.aload_n 71 dX1_become_70 rfl rfl ?_
  refine XW.getf 74 (v := .ref 4) f1_28 dX1_become_71 rfl rfl rfl ?_
  refine XW.alen 75 (v := 52) dX1_become_74 rfl rfl rfl ?_
  refine XW.copy 78 (h' := HP (sA (sA (sA (sI (sI (sI Z 1 0 (Z.1 20 0)) 1 5 (Z.1 20 5)) 1 7 (Z.1 20 7)) 2 (va_cpy (Z.2.1 21) (Z.2.1 2) 0 0 60)) 3 (va_cpy (Z.2.1 22) (Z.2.1 3) 0 0 3)) 4 (va_cpy (Z.2.1 23) (Z.2.1 4) 0 0 52))) 52 c1_43 wC_n wC_s wC_i dX1_become_75 rfl rfl rfl rfl rfl (by decide) (by decide) (by decide) (by decide) rfl rfl ?_
  refine XW.aload_n 79 dX1_become_78 rfl rfl ?_
  refine XW.getf 82 (v := .ref 24) f1_31 dX1_become_79 rfl rfl rfl ?_
  refine XW.iconst 83 dX1_become_82 (v := 0) (by decide) rfl ?_
  refine XW.aload_n 84 dX1_become_83 rfl rfl ?_
  refine XW.getf 87 (v := .ref 5) f1_31 dX1_become_84 rfl rfl rfl ?_
  refine XW.iconst 88 dX1_become_87 (v := 0) (by decide) rfl ?_
  refine XW.aload_n 89 dX1_become_88 rfl rfl ?_
  refine XW.getf 92 (v := .ref 5) f1_31 dX1_become_89 rfl rfl rfl ?_
  refine XW.alen 93 (v := 3) dX1_become_92 rfl rfl rfl ?_
  refine XW.copy 96 (h' := HP (sA (sA (sA (sA (sI (sI (sI Z 1 0 (Z.1 20 0)) 1 5 (Z.1 20 5)) 1 7 (Z.1 20 7)) 2 (va_cpy (Z.2.1 21) (Z.2.1 2) 0 0 60)) 3 (va_cpy (Z.2.1 22) (Z.2.1 3) 0 0 3)) 4 (va_cpy (Z.2.1 23) (Z.2.1 4) 0 0 52)) 5 (va_cpy (Z.2.1 24) (Z.2.1 5) 0 0 3))) 3 c1_43 wC_n wC_s wC_i dX1_become_93 rfl rfl rfl rfl rfl (by decide) (by decide) (by decide) (by decide) rfl rfl ?_
  refine XW.aload_n 97 dX1_become_96 rfl rfl ?_
  refine XW.getf 100 (v := .ref 25) f1_37 dX1_become_97 rfl rfl rfl ?_
  refine XW.iconst 101 dX1_become_100 (v := 0) (by decide) rfl ?_
  refine XW.aload_n 102 dX1_become_101 rfl rfl ?_
  refine XW.getf 105 (v := .ref 6) f1_37 dX1_become_102 rfl rfl rfl ?_
  refine XW.iconst 106 dX1_become_105 (v := 0) (by decide) rfl ?_
  refine XW.aload_n 107 dX1_become_106 rfl rfl ?_
  refine XW.getf 110 (v := .ref 6) f1_37 dX1_become_107 rfl rfl rfl ?_
  refine XW.alen 111 (v := 8) dX1_become_110 rfl rfl rfl ?_
  refine XW.copy 114 (h' := HP (sA (sA (sA (sA (sA (sI (sI (sI Z 1 0 (Z.1 20 0)) 1 5 (Z.1 20 5)) 1 7 (Z.1 20 7)) 2 (va_cpy (Z.2.1 21) (Z.2.1 2) 0 0 60)) 3 (va_cpy (Z.2.1 22) (Z.2.1 3) 0 0 3)) 4 (va_cpy (Z.2.1 23) (Z.2.1 4) 0 0 52)) 5 (va_cpy (Z.2.1 24) (Z.2.1 5) 0 0 3)) 6 (va_cpy (Z.2.1 25) (Z.2.1 6) 0 0 8))) 8 c1_43 wC_n wC_s wC_i dX1_become_111 rfl rfl rfl rfl rfl (by decide) (by decide) (by decide) (by decide) rfl rfl ?_
  exact XW.vret dX1_become_114 trivial (⟨rfl, rfl⟩)
set_option maxHeartbeats 4000000 in
set_option maxRecDepth 100000 in
theorem c_become_26_1 {Z : xZ} : XC mX1_become 1 0 0 [.ref 26, .ref 1] (HP Z) (fun q h' => q = none ∧ h' = HP (becZ Z 26 1)) := by
  show XW mX1_become 1 0 0 0 [some (.ref 26), some (.ref 1)] [] (HP Z) _
  refine XW.aload_n 1 dX1_become_0 rfl rfl ?_
  refine XW.aload_n 2 dX1_become_1 rfl rfl ?_
  refine XW.getf 5 (v := .int (Z.1 1 0)) f1_9 dX1_become_2 rfl rfl rfl ?_
  refine XW.putf 8 (h' := HP (sI Z 26 0 (Z.1 1 0))) (p1_9 _) dX1_become_5 rfl (Nat.le_of_ble_eq_true rfl) (xfit_i _) rfl rfl ?_
  refine XW.aload_n 9 dX1_become_8 rfl rfl ?_
  refine XW.aload_n 10 dX1_become_9 rfl rfl ?_
  refine XW.getf 13 (v := .int (Z.1 1 5)) f1_34 dX1_become_10 rfl rfl rfl ?_
  refine XW.putf 16 (h' := HP (sI (sI Z 26 0 (Z.1 1 0)) 26 5 (Z.1 1 5))) (p1_34 _) dX1_become_13 rfl (Nat.le_of_ble_eq_true rfl) (xfit_i _) rfl rfl ?_
  refine XW.aload_n 17 dX1_become_16 rfl rfl ?_
  refine XW.aload_n 18 dX1_become_17 rfl rfl ?_
  refine XW.getf 21 (v := .int (Z.1 1 7)) f1_40 dX1_become_18 rfl rfl rfl ?_
  refine XW.putf 24 (h' := HP (sI (sI (sI Z 26 0 (Z.1 1 0)) 26 5 (Z.1 1 5)) 26 7 (Z.1 1 7))) (p1_40 _) dX1_become_21 rfl (Nat.le_of_ble_eq_true rfl) (xfit_i _) rfl rfl ?_
  refine XW.aload_n 25 dX1_become_24 rfl rfl ?_
  refine XW.getf 28 (v := .ref 2) f1_15 dX1_become_25 rfl rfl rfl ?_
  refine XW.iconst 29 dX1_become_28 (v := 0) (by decide) rfl ?_
  refine XW.aload_n 30 dX1_become_29 rfl rfl ?_
  refine XW.getf 33 (v := .ref 27) f1_15 dX1_become_30 rfl rfl rfl ?_
  refine XW.iconst 34 dX1_become_33 (v := 0) (by decide) rfl ?_
  refine XW.aload_n 35 dX1_become_34 rfl rfl ?_
  refine XW.getf 38 (v := .ref 27) f1_15 dX1_become_35 rfl rfl rfl ?_
  refine XW.alen 39 (v := 60) dX1_become_38 rfl rfl rfl ?_
  refine XW.copy 42 (h' := HP (sA (sI (sI (sI Z 26 0 (Z.1 1 0)) 26 5 (Z.1 1 5)) 26 7 (Z.1 1 7)) 27 (va_cpy (Z.2.1 2) (Z.2.1 27) 0 0 60))) 60 c1_43 wC_n wC_s wC_i dX1_become_39 rfl rfl rfl rfl rfl (by decide) (by decide) (by decide) (by decide) rfl rfl ?_
  refine XW.aload_n 43 dX1_become_42 rfl rfl ?_
  refine XW.getf 46 (v := .ref 3) f1_19 dX1_become_43 rfl rfl rfl ?_
  refine XW.iconst 47 dX1_become_46 (v := 0) (by decide) rfl ?_
  refine XW.aload_n 48 dX1_become_47 rfl rfl ?_
  refine XW.getf 51 (v := .ref 28) f1_19 dX1_become_48 rfl rfl rfl ?_
  refine XW.iconst 52 dX1_become_51 (v := 0) (by decide) rfl ?_
  refine XW.aload_n 53 dX1_become_52 rfl rfl ?_
  refine XW.getf 56 (v := .ref 28) f1_19 dX1_become_53 rfl rfl rfl ?_
  refine XW.alen 57 (v := 3) dX1_become_56 rfl rfl rfl ?_
  refine XW.copy 60 (h' := HP (sA (sA (sI (sI (sI Z 26 0 (Z.1 1 0)) 26 5 (Z.1 1 5)) 26 7 (Z.1 1 7)) 27 (va_cpy (Z.2.1 2) (Z.2.1 27) 0 0 60)) 28 (va_cpy (Z.2.1 3) (Z.2.1 28) 0 0 3))) 3 c1_43 wC_n wC_s wC_i dX1_become_57 rfl rfl rfl rfl rfl (by decide) (by decide) (by decide) (by decide) rfl rfl ?_
  refine XW.aload_n 61 dX1_become_60 rfl rfl ?_
  refine XW.getf 64 (v := .ref 4) f1_28 dX1_become_61 rfl rfl rfl ?_
  refine XW.iconst 65 dX1_become_64 (v := 0) (by decide) rfl ?_
  refine XW.aload_n 66 dX1_become_65 rfl rfl ?_
  refine XW.getf 69 (v := .ref 29) f1_28 dX1_become_66 rfl rfl rfl ?_
  refine XW.iconst 70 dX1_become_69 (v := 0) (by decide) rfl ?_
  refine XW.aload_n 71 dX1_become_70 rfl rfl ?_
  refine XW.getf 74 (v := .ref 29) f1_28 dX1_become_71 rfl rfl rfl ?_
  refine XW.alen 75 (v := 52) dX1_become_74 rfl rfl rfl ?_
  refine XW.copy 78 (h' := HP (sA (sA (sA (sI (sI (sI Z 26 0 (Z.1 1 0)) 26 5 (Z.1 1 5)) 26 7 (Z.1 1 7)) 27 (va_cpy (Z.2.1 2) (Z.2.1 27) 0 0 60)) 28 (va_cpy (Z.2.1 3) (Z.2.1 28) 0 0 3)) 29 (va_cpy (Z.2.1 4) (Z.2.1 29) 0 0 52))) 52 c1_43 wC_n wC_s wC_i dX1_become_75 rfl rfl rfl rfl rfl (by decide) (by decide) (by decide) (by decide) rfl rfl ?_
  refine XW.aload_n 79 dX1_become_78 rfl rfl ?_
  refine XW.getf 82 (v := .ref 5) f1_31 dX1_become_79 rfl rfl rfl ?_
  refine XW.iconst 83 dX1_become_82 (v := 0) (by decide) rfl ?_
  refine XW.aload_n 84 dX1_become_83 rfl rfl ?_
  refine XW.getf 87 (v := .ref 30) f1_31 dX1_become_84 rfl rfl rfl ?_
  refine XW.iconst 88 dX1_become_87 (v := 0) (by decide) rfl ?_
  refine XW.aload_n 89 dX1_become_88 rfl rfl ?_
  refine XW.getf 92 (v := .ref 30) f1_31 dX1_become_89 rfl rfl rfl ?_
  refine XW.alen 93 (v := 3) dX1_become_92 rfl rfl rfl ?_
  refine XW.copy 96 (h' := HP (sA (sA (sA (sA (sI (sI (sI Z 26 0 (Z.1 1 0)) 26 5 (Z.1 1 5)) 26 7 (Z.1 1 7)) 27 (va_cpy (Z.2.1 2) (Z.2.1 27) 0 0 60)) 28 (va_cpy (Z.2.1 3) (Z.2.1 28) 0 0 3)) 29 (va_cpy (Z.2.1 4) (Z.2.1 29) 0 0 52)) 30 (va_cpy (Z.2.1 5) (Z.2.1 30) 0 0 3))) 3 c1_43 wC_n wC_s wC_i dX1_become_93 rfl rfl rfl rfl rfl (by decide) (by decide) (by decide) (by decide) rfl rfl ?_
  refine XW.aload_n 97 dX1_become_96 rfl rfl ?_
  refine XW.getf 100 (v := .ref 6) f1_37 dX1_become_97 rfl rfl rfl ?_
  refine XW.iconst 101 dX1_become_100 (v := 0) (by decide) rfl ?_
  refine XW.aload_n 102 dX1_become_101 rfl rfl ?_
  refine XW.getf 105 (v := .ref 31) f1_37 dX1_become_102 rfl rfl rfl ?_
  refine XW.iconst 106 dX1_become_105 (v := 0) (by decide) rfl ?_
  refine XW.aload_n 107 dX1_become_106 rfl rfl ?_
  refine XW.getf 110 (v := .ref 31) f1_37 dX1_become_107 rfl rfl rfl ?_
  refine XW.alen 111 (v := 8) dX1_become_110 rfl rfl rfl ?_
  refine XW.copy 114 (h' := HP (sA (sA (sA (sA (sA (sI (sI (sI Z 26 0 (Z.1 1 0)) 26 5 (Z.1 1 5)) 26 7 (Z.1 1 7)) 27 (va_cpy (Z.2.1 2) (Z.2.1 27) 0 0 60)) 28 (va_cpy (Z.2.1 3) (Z.2.1 28) 0 0 3)) 29 (va_cpy (Z.2.1 4) (Z.2.1 29) 0 0 52)) 30 (va_cpy (Z.2.1 5) (Z.2.1 30) 0 0 3)) 31 (va_cpy (Z.2.1 6) (Z.2.1 31) 0 0 8))) 8 c1_43 wC_n wC_s wC_i dX1_become_111 rfl rfl rfl rfl rfl (by decide) (by decide) (by decide) (by decide) rfl rfl ?_
  exact XW.vret dX1_become_114 trivial (⟨rfl, rfl⟩)
set_option maxHeartbeats 4000000 in
set_option maxRecDepth 100000 in
theorem c_become_1_26 {Z : xZ} : XC mX1_become 1 0 0 [.ref 1, .ref 26] (HP Z) (fun q h' => q = none ∧ h' = HP (becZ Z 1 26)) := by
  show XW mX1_become 1 0 0 0 [some (.ref 1), some (.ref 26)] [] (HP Z) _
  refine XW.aload_n 1 dX1_become_0 rfl rfl ?_
  refine XW.aload_n 2 dX1_become_1 rfl rfl ?_
  refine XW.getf 5 (v := .int (Z.1 26 0)) f1_9 dX1_become_2 rfl rfl rfl ?_
  refine XW.putf 8 (h' := HP (sI Z 1 0 (Z.1 26 0))) (p1_9 _) dX1_become_5 rfl (Nat.le_of_ble_eq_true rfl) (xfit_i _) rfl rfl ?_
  refine XW.aload_n 9 dX1_become_8 rfl rfl ?_
  refine XW.aload_n 10 dX1_become_9 rfl rfl ?_
  refine XW.getf 13 (v := .int (Z.1 26 5)) f1_34 dX1_become_10 rfl rfl rfl ?_
  refine XW.putf 16 (h' := HP (sI (sI Z 1 0 (Z.1 26 0)) 1 5 (Z.1 26 5))) (p1_34 _) dX1_become_13 rfl (Nat.le_of_ble_eq_true rfl) (xfit_i _) rfl rfl ?_
  refine XW.aload_n 17 dX1_become_16 rfl rfl ?_
  refine XW.aload_n 18 dX1_become_17 rfl rfl ?_
  refine XW.getf 21 (v := .int (Z.1 26 7)) f1_40 dX1_become_18 rfl rfl rfl ?_
  refine XW.putf 24 (h' := HP (sI (sI (sI Z 1 0 (Z.1 26 0)) 1 5 (Z.1 26 5)) 1 7 (Z.1 26 7))) (p1_40 _) dX1_become_21 rfl (Nat.le_of_ble_eq_true rfl) (xfit_i _) rfl rfl ?_
  refine XW.aload_n 25 dX1_become_24 rfl rfl ?_
  refine XW.getf 28 (v := .ref 27) f1_15 dX1_become_25 rfl rfl rfl ?_
  refine XW.iconst 29 dX1_become_28 (v := 0) (by decide) rfl ?_
  refine XW.aload_n 30 dX1_become_29 rfl rfl ?_
  refine XW.getf 33 (v := .ref 2) f1_15 dX1_become_30 rfl rfl rfl ?_
  refine XW.iconst 34 dX1_become_33 (v := 0) (by decide) rfl ?_
  refine XW.aload_n 35 dX1_become_34 rfl rfl ?_
  refine XW.getf 38 (v := .ref 2) f1_15 dX1_become_35 rfl rfl rfl ?_
  refine XW.alen 39 (v := 60) dX1_become_38 rfl rfl rfl ?_
  refine XW.copy 42 (h' := HP (sA (sI (sI (sI Z 1 0 (Z.1 26 0)) 1 5 (Z.1 26 5)) 1 7 (Z.1 26 7)) 2 (va_cpy (Z.2.1 27) (Z.2.1 2) 0 0 60))) 60 c1_43 wC_n wC_s wC_i dX1_become_39 rfl rfl rfl rfl rfl (by decide) (by decide) (by decide) (by decide) rfl rfl ?_
  refine XW.aload_n 43 dX1_become_42 rfl rfl ?_
  refine XW.getf 46 (v := .ref 28) f1_19 dX1_become_43 rfl rfl rfl ?_
  refine XW.iconst 47 dX1_become_46 (v := 0) (by decide) rfl ?_
  refine XW.aload_n 48 dX1_become_47 rfl rfl ?_
  refine XW.getf 51 (v := .ref 3) f1_19 dX1_become_48 rfl rfl rfl ?_
  refine XW.iconst 52 dX1_become_51 (v := 0) (by decide) rfl ?_
  refine XW.aload_n 53 dX1_become_52 rfl rfl ?_
  refine XW.getf 56 (v := .ref 3) f1_19 dX1_become_53 rfl rfl rfl ?_
  refine XW.alen 57 (v := 3) dX1_become_56 rfl rfl rfl ?_
  refine XW.copy 60 (h' := HP (sA (sA (sI (sI (sI Z 1 0 (Z.1 26 0)) 1 5 (Z.1 26 5)) 1 7 (Z.1 26 7)) 2 (va_cpy (Z.2.1 27) (Z.2.1 2) 0 0 60)) 3 (va_cpy (Z.2.1 28) (Z.2.1 3) 0 0 3))) 3 c1_43 wC_n wC_s wC_i dX1_become_57 rfl rfl rfl rfl rfl (by decide) (by decide) (by decide) (by decide) rfl rfl ?_
  refine XW.aload_n 61 dX1_become_60 rfl rfl ?_
  refine XW.getf 64 (v := .ref 29) f1_28 dX1_become_61 rfl rfl rfl ?_
  refine XW.iconst 65 dX1_become_64 (v := 0) (by decide) rfl ?_
  refine XW.aload_n 66 dX1_become_65 rfl rfl ?_
  refine XW.getf 69 (v := .ref 4) f1_28 dX1_become_66 rfl rfl rfl ?_
  refine XW.iconst 70 dX1_become_69 (v := 0) (by decide) rfl ?_
  refine XW.aload_n 71 dX1_become_70 rfl rfl ?_
  refine XW.getf 74 (v := .ref 4) f1_28 dX1_become_71 rfl rfl rfl ?_
  refine XW.alen 75 (v := 52) dX1_become_74 rfl rfl rfl ?_
  refine XW.copy 78 (h' := HP (sA (sA (sA (sI (sI (sI Z 1 0 (Z.1 26 0)) 1 5 (Z.1 26 5)) 1 7 (Z.1 26 7)) 2 (va_cpy (Z.2.1 27) (Z.2.1 2) 0 0 60)) 3 (va_cpy (Z.2.1 28) (Z.2.1 3) 0 0 3)) 4 (va_cpy (Z.2.1 29) (Z.2.1 4) 0 0 52))) 52 c1_43 wC_n wC_s wC_i dX1_become_75 rfl rfl rfl rfl rfl (by decide) (by decide) (by decide) (by decide) rfl rfl ?_
  refine XW.aload_n 79 dX1_become_78 rfl rfl ?_
  refine XW.getf 82 (v := .ref 30) f1_31 dX1_become_79 rfl rfl rfl ?_
  refine XW.iconst 83 dX1_become_82 (v := 0) (by decide) rfl ?_
  refine XW.aload_n 84 dX1_become_83 rfl rfl ?_
  refine XW.getf 87 (v := .ref 5) f1_31 dX1_become_84 rfl rfl rfl ?_
  refine XW.iconst 88 dX1_become_87 (v := 0) (by decide) rfl ?_
  refine XW.aload_n 89 dX1_become_88 rfl rfl ?_
  refine XW.getf 92 (v := .ref 5) f1_31 dX1_become_89 rfl rfl rfl ?_
  refine XW.alen 93 (v := 3) dX1_become_92 rfl rfl rfl ?_
  refine XW.copy 96 (h' := HP (sA (sA (sA (sA (sI (sI (sI Z 1 0 (Z.1 26 0)) 1 5 (Z.1 26 5)) 1 7 (Z.1 26 7)) 2 (va_cpy (Z.2.1 27) (Z.2.1 2) 0 0 60)) 3 (va_cpy (Z.2.1 28) (Z.2.1 3) 0 0 3)) 4 (va_cpy (Z.2.1 29) (Z.2.1 4) 0 0 52)) 5 (va_cpy (Z.2.1 30) (Z.2.1 5) 0 0 3))) 3 c1_43 wC_n wC_s wC_i dX1_become_93 rfl rfl rfl rfl rfl (by decide) (by decide) (by decide) (by decide) rfl rfl ?_
  refine XW.aload_n 97 dX1_become_96 rfl rfl ?_
  refine XW.getf 100 (v := .ref 31) f1_37 dX1_become_97 rfl rfl rfl ?_
  refine XW.iconst 101 dX1_become_100 (v := 0) (by decide) rfl ?_
  refine XW.aload_n 102 dX1_become_101 rfl rfl ?_
  refine XW.getf 105 (v := .ref 6) f1_37 dX1_become_102 rfl rfl rfl ?_
  refine XW.iconst 106 dX1_become_105 (v := 0) (by decide) rfl ?_
  refine XW.aload_n 107 dX1_become_106 rfl rfl ?_
  refine XW.getf 110 (v := .ref 6) f1_37 dX1_become_107 rfl rfl rfl ?_
  refine XW.alen 111 (v := 8) dX1_become_110 rfl rfl rfl ?_
  refine XW.copy 114 (h' := HP (sA (sA (sA (sA (sA (sI (sI (sI Z 1 0 (Z.1 26 0)) 1 5 (Z.1 26 5)) 1 7 (Z.1 26 7)) 2 (va_cpy (Z.2.1 27) (Z.2.1 2) 0 0 60)) 3 (va_cpy (Z.2.1 28) (Z.2.1 3) 0 0 3)) 4 (va_cpy (Z.2.1 29) (Z.2.1 4) 0 0 52)) 5 (va_cpy (Z.2.1 30) (Z.2.1 5) 0 0 3)) 6 (va_cpy (Z.2.1 31) (Z.2.1 6) 0 0 8))) 8 c1_43 wC_n wC_s wC_i dX1_become_111 rfl rfl rfl rfl rfl (by decide) (by decide) (by decide) (by decide) rfl rfl ?_
  exact XW.vret dX1_become_114 trivial (⟨rfl, rfl⟩)
set_option maxHeartbeats 4000000 in
set_option maxRecDepth 100000 in
theorem c_become_32_1 {Z : xZ} : XC mX1_become 1 0 0 [.ref 32, .ref 1] (HP Z) (fun q h' => q = none ∧ h' = HP (becZ Z 32 1)) := by
  show XW mX1_become 1 0 0 0 [some (.ref 32), some (.ref 1)] [] (HP Z) _
  refine XW.aload_n 1 dX1_become_0 rfl rfl ?_
  refine XW.aload_n 2 dX1_become_1 rfl rfl ?_
  refine XW.getf 5 (v := .int (Z.1 1 0)) f1_9 dX1_become_2 rfl rfl rfl ?_
  refine XW.putf 8 (h' := HP (sI Z 32 0 (Z.1 1 0))) (p1_9 _) dX1_become_5 rfl (Nat.le_of_ble_eq_true rfl) (xfit_i _) rfl rfl ?_
  refine XW.aload_n 9 dX1_become_8 rfl rfl ?_
  refine XW.aload_n 10 dX1_become_9 rfl rfl ?_
  refine XW.getf 13 (v := .int (Z.1 1 5)) f1_34 dX1_become_10 rfl rfl rfl ?_
  refine XW.putf 16 (h' := HP (sI (sI Z 32 0 (Z.1 1 0)) 32 5 (Z.1 1 5))) (p1_34 _) dX1_become_13 rfl (Nat.le_of_ble_eq_true rfl) (xfit_i _) rfl rfl ?_
  refine XW.aload_n 17 dX1_become_16 rfl rfl ?_
  refine XW.aload_n 18 dX1_become_17 rfl rfl ?_
  refine XW.getf 21 (v := .int (Z.1 1 7)) f1_40 dX1_become_18 rfl rfl rfl ?_
  refine XW.putf 24 (h' := HP (sI (sI (sI Z 32 0 (Z.1 1 0)) 32 5 (Z.1 1 5)) 32 7 (Z.1 1 7))) (p1_40 _) dX1_become_21 rfl (Nat.le_of_ble_eq_true rfl) (xfit_i _) rfl rfl ?_
  refine XW.aload_n 25 dX1_become_24 rfl rfl ?_
  refine XW.getf 28 (v := .ref 2) f1_15 dX1_become_25 rfl rfl rfl ?_
  refine XW.iconst 29 dX1_become_28 (v := 0) (by decide) rfl ?_
  refine XW.aload_n 30 dX1_become_29 rfl rfl ?_
  refine XW.getf 33 (v := .ref 33) f1_15 dX1_become_30 rfl rfl rfl ?_
  refine XW.iconst 34 dX1_become_33 (v := 0) (by decide) rfl ?_
  refine XW.aload_n 35 dX1_become_34 rfl rfl ?_
  refine XW.getf 38 (v := .ref 33) f1_15 dX1_become_35 rfl rfl rfl ?_
  refine XW.alen 39 (v := 60) dX1_become_38 rfl rfl rfl ?_
  refine XW.copy 42 (h' := HP (sA (sI (sI (sI Z 32 0 (Z.1 1 0)) 32 5 (Z.1 1 5)) 32 7 (Z.1 1 7)) 33 (va_cpy (Z.2.1 2) (Z.2.1 33) 0 0 60))) 60 c1_43 wC_n wC_s wC_i dX1_become_39 rfl rfl rfl rfl rfl (by decide) (by decide) (by decide) (by decide) rfl rfl ?_
  refine XW.aload_n 43 dX1_become_42 rfl rfl ?_
  refine XW.getf 46 (v := .ref 3) f1_19 dX1_become_43 rfl rfl rfl ?_
  refine XW.iconst 47 dX1_become_46 (v := 0) (by decide) rfl ?_
  refine XW.aload_n 48 dX1_become_47 rfl rfl ?_
  refine XW.getf 51 (v := .ref 34) f1_19 dX1_become_48 rfl rfl rfl ?_
  refine XW.iconst 52 dX1_become_51 (v := 0) (by decide) rfl ?_
  refine XW.aload_n 53 dX1_become_52 rfl rfl ?_
  refine XW.getf 56 (v := .ref 34) f1_19 dX1_become_53 rfl rfl rfl ?_
  refine XW.alen 57 (v := 3) dX1_become_56 rfl rfl rfl ?_
  refine XW.copy 60 (h' := HP (sA (sA (sI (sI (sI Z 32 0 (Z.1 1 0)) 32 5 (Z.1 1 5)) 32 7 (Z.1 1 7)) 33 (va_cpy (Z.2.1 2) (Z.2.1 33) 0 0 60)) 34 (va_cpy (Z.2.1 3) (Z.2.1 34) 0 0 3))) 3 c1_43 wC_n wC_s wC_i dX1_become_57 rfl rfl rfl rfl rfl (by decide) (by decide) (by decide) (by decide) rfl rfl ?_
  refine XW.aload_n 61 dX1_become_60 rfl rfl ?_
  refine XW.getf 64 (v := .ref 4) f1_28 dX1_become_61 rfl rfl rfl ?_
  refine XW.iconst 65 dX1_become_64 (v := 0) (by decide) rfl ?_
  refine XW.aload_n 66 dX1_become_65 rfl rfl ?_
  refine XW.getf 69 (v := .ref 35) f1_28 dX1_become_66 rfl rfl rfl ?_
  refine XW.iconst 70 dX1_become_69 (v := 0) (by decide) rfl ?_
  refine XW.aload_n 71 dX1_become_70 rfl rfl ?_
  refine XW.getf 74 (v := .ref 35) f1_28 dX1_become_71 rfl rfl rfl ?_
  refine XW.alen 75 (v := 52) dX1_become_74 rfl rfl rfl ?_
  refine XW.copy 78 (h' := HP (sA (sA (sA (sI (sI (sI Z 32 0 (Z.1 1 0)) 32 5 (Z.1 1 5)) 32 7 (Z.1 1 7)) 33 (va_cpy (Z.2.1 2) (Z.2.1 33) 0 0 60)) 34 (va_cpy (Z.2.1 3) (Z.2.1 34) 0 0 3)) 35 (va_cpy (Z.2.1 4) (Z.2.1 35) 0 0 52))) 52 c1_43 wC_n wC_s wC_i dX1_become_75 rfl rfl rfl rfl rfl (by decide) (by decide) (by decide) (by decide) rfl rfl ?_
  refine XW.aload_n 79 dX1_become_78 rfl rfl ?_
  refine XW.getf 82 (v := .ref 5) f1_31 dX1_become_79 rfl rfl rfl ?_
  refine XW.iconst 83 dX1_become_82 (v := 0) (by decide) rfl ?_
  refine XW.aload_n 84 dX1_become_83 rfl rfl ?_
  refine XW.getf 87 (v := .ref 36) f1_31 dX1_become_84 rfl rfl rfl ?_
  refine XW.iconst 88 dX1_become_87 (v := 0) (by decide) rfl ?_
  refine XW.aload_n 89 dX1_become_88 rfl rfl ?_
  refine XW.getf 92 (v := .ref 36) f1_31 dX1_become_89 rfl rfl rfl ?_
  refine XW.alen 93 (v := 3) dX1_become_92 rfl rfl rfl ?_
  refine XW.copy 96 (h' := HP (sA (sA (sA (sA (sI (sI (sI Z 32 0 (Z.1 1 0)) 32 5 (Z.1 1 5)) 32 7 (Z.1 1 7)) 33 (va_cpy (Z.2.1 2) (Z.2.1 33) 0 0 60)) 34 (va_cpy (Z.2.1 3) (Z.2.1 34) 0 0 3)) 35 (va_cpy (Z.2.1 4) (Z.2.1 35) 0 0 52)) 36 (va_cpy (Z.2.1 5) (Z.2.1 36) 0 0 3))) 3 c1_43 wC_n wC_s wC_i dX1_become_93 rfl rfl rfl rfl rfl (by decide) (by decide) (by decide) (by decide) rfl rfl ?_
  refine XW.aload_n 97 dX1_become_96 rfl rfl ?_
  refine XW.getf 100 (v := .ref 6) f1_37 dX1_become_97 rfl rfl rfl ?_
  refine XW.iconst 101 dX1_become_100 (v := 0) (by decide) rfl ?_
  refine XW.aload_n 102 dX1_become_101 rfl rfl ?_
  refine XW.getf 105 (v := .ref 37) f1_37 dX1_become_102 rfl rfl rfl ?_
  refine XW.iconst 106 dX1_become_105 (v := 0) (by decide) rfl ?_
  refine XW.aload_n 107 dX1_become_106 rfl rfl ?_
  refine XW.getf 110 (v := .ref 37) f1_37 dX1_become_107 rfl rfl rfl ?_
  refine XW.alen 111 (v := 8) dX1_become_110 rfl rfl rfl ?_
  refine XW.copy 114 (h' := HP (sA (sA (sA (sA (sA (sI (sI (sI Z 32 0 (Z.1 1 0)) 32 5 (Z.1 1 5)) 32 7 (Z.1 1 7)) 33 (va_cpy (Z.2.1 2) (Z.2.1 33) 0 0 60)) 34 (va_cpy (Z.2.1 3) (Z.2.1 34) 0 0 3)) 35 (va_cpy (Z.2.1 4) (Z.2.1 35) 0 0 52)) 36 (va_cpy (Z.2.1 5) (Z.2.1 36) 0 0 3)) 37 (va_cpy (Z.2.1 6) (Z.2.1 37) 0 0 8))) 8 c1_43 wC_n wC_s wC_i dX1_become_111 rfl rfl rfl rfl rfl (by decide) (by decide) (by decide) (by decide) rfl rfl ?_
  exact XW.vret dX1_become_114 trivial (⟨rfl, rfl⟩)
set_option maxHeartbeats 4000000 in
set_option maxRecDepth 100000 in
theorem c_become_1_32 {Z : xZ} : XC mX1_become 1 0 0 [.ref 1, .ref 32] (HP Z) (fun q h' => q = none ∧ h' = HP (becZ Z 1 32)) := by
  show XW mX1_become 1 0 0 0 [some (.ref 1), some (.ref 32)] [] (HP Z) _
  refine XW.aload_n 1 dX1_become_0 rfl rfl ?_
  refine XW.aload_n 2 dX1_become_1 rfl rfl ?_
  refine XW.getf 5 (v := .int (Z.1 32 0)) f1_9 dX1_become_2 rfl rfl rfl ?_
  refine XW.putf 8 (h' := HP (sI Z 1 0 (Z.1 32 0))) (p1_9 _) dX1_become_5 rfl (Nat.le_of_ble_eq_true rfl) (xfit_i _) rfl rfl ?_
  refine XW.aload_n 9 dX1_become_8 rfl rfl ?_
  refine XW.aload_n 10 dX1_become_9 rfl rfl ?_
  refine XW.getf 13 (v := .int (Z.1 32 5)) f1_34 dX1_become_10 rfl rfl rfl ?_
  refine XW.putf 16 (h' := HP (sI (sI Z 1 0 (Z.1 32 0)) 1 5 (Z.1 32 5))) (p1_34 _) dX1_become_13 rfl (Nat.le_of_ble_eq_true rfl) (xfit_i _) rfl rfl ?_
  refine XW.aload_n 17 dX1_become_16 rfl rfl ?_
  refine XW.aload_n 18 dX1_become_17 rfl rfl ?_
  refine XW.getf 21 (v := .int (Z.1 32 7)) f1_40 dX1_become_18 rfl rfl rfl ?_
  refine XW.putf 24 (h' := HP (sI (sI (sI Z 1 0 (Z.1 32 0)) 1 5 (Z.1 32 5)) 1 7 (Z.1 32 7))) (p1_40 _) dX1_become_21 rfl (Nat.le_of_ble_eq_true rfl) (xfit_i _) rfl rfl ?_
  refine XW.aload_n 25 dX1_become_24 rfl rfl ?_
  refine XW.getf 28 (v := .ref 33) f1_15 dX1_become_25 rfl rfl rfl ?_
  refine XW.iconst 29 dX1_become_28 (v := 0) (by decide) rfl ?_
  refine XW.aload_n 30 dX1_become_29 rfl rfl ?_
  refine XW.getf 33 (v := .ref 2) f1_15 dX1_become_30 rfl rfl rfl ?_
  refine XW.iconst 34 dX1_become_33 (v := 0) (by decide) rfl ?_
  refine XW.aload_n 35 dX1_become_34 rfl rfl ?_
  refine XW.getf 38 (v := .ref 2) f1_15 dX1_become_35 rfl rfl rfl ?_
  refine XW.alen 39 (v := 60) dX1_become_38 rfl rfl rfl ?_
  refine XW.copy 42 (h' := HP (sA (sI (sI (sI Z 1 0 (Z.1 32 0)) 1 5 (Z.1 32 5)) 1 7 (Z.1 32 7)) 2 (va_cpy (Z.2.1 33) (Z.2.1 2) 0 0 60))) 60 c1_43 wC_n wC_s wC_i dX1_become_39 rfl rfl rfl rfl rfl (by decide) (by decide) (by decide) (by decide) rfl rfl ?_
  refine XW.aload_n 43 dX1_become_42 rfl rfl ?_
  refine XW.getf 46 (v := .ref 34) f1_19 dX1_become_43 rfl rfl rfl ?_
  refine XW.iconst 47 dX1_become_46 (v := 0) (by decide) rfl ?_
  refine XW.aload_n 48 dX1_become_47 rfl rfl ?_
  refine XW.getf 51 (v := .ref 3) f1_19 dX1_become_48 rfl rfl rfl ?_
  refine XW.iconst 52 dX1_become_51 (v := 0) (by decide) rfl ?_
  refine XW.aload_n 53 dX1_become_52 rfl rfl ?_
  refine XW.getf 56 (v := .ref 3) f1_19 dX1_become_53 rfl rfl rfl ?_
  refine XW.alen 57 (v := 3) dX1_become_56 rfl rfl rfl ?_
  refine XW.copy 60 (h' := HP (sA (sA (sI (sI (sI Z 1 0 (Z.1 32 0)) 1 5 (Z.1 32 5)) 1 7 (Z.1 32 7)) 2 (va_cpy (Z.2.1 33) (Z.2.1 2) 0 0 60)) 3 (va_cpy (Z.2.1 34) (Z.2.1 3) 0 0 3))) 3 c1_43 wC_n wC_s wC_i dX1_become_57 rfl rfl rfl rfl rfl (by decide) (by decide) (by decide) (by decide) rfl rfl ?_
  refine XW.aload_n 61 dX1_become_60 rfl rfl ?_
  refine XW.getf 64 (v := .ref 35) f1_28 dX1_become_61 rfl rfl rfl ?_
  refine XW.iconst 65 dX1_become_64 (v := 0) (by decide) rfl ?_
  refine XW.aload_n 66 dX1_become_65 rfl rfl ?_
  refine XW.getf 69 (v := .ref 4) f1_28 dX1_become_66 rfl rfl rfl ?_
  refine XW.iconst 70 dX1_become_69 (v := 0) (by decide) rfl ?_
  refine XW.aload_n 71 dX1_become_70 rfl rfl ?_
  refine XW.getf 74 (v := .ref 4) f1_28 dX1_become_71 rfl rfl rfl ?_
  refine XW.alen 75 (v := 52) dX1_become_74 rfl rfl rfl ?_
  refine XW.copy 78 (h' := HP (sA (sA (sA (sI (sI (sI Z 1 0 (Z.1 32 0)) 1 5 (Z.1 32 5)) 1 7 (Z.1 32 7)) 2 (va_cpy (Z.2.1 33) (Z.2.1 2) 0 0 60)) 3 (va_cpy (Z.2.1 34) (Z.2.1 3) 0 0 3)) 4 (va_cpy (Z.2.1 35) (Z.2.1 4) 0 0 52))) 52 c1_43 wC_n wC_s wC_i dX1_become_75 rfl rfl rfl rfl rfl (by decide) (by decide) (by decide) (by decide) rfl rfl ?_
  refine XW.aload_n 79 dX1_become_78 rfl rfl ?_
  refine XW.getf 82 (v := .ref 36) f1_31 dX1_become_79 rfl rfl rfl ?_
  refine XW.iconst 83 dX1_become_82 (v := 0) (by decide) rfl ?_
  refine XW.aload_n 84 dX1_become_83 rfl rfl ?_
  refine XW.getf 87 (v := .ref 5) f1_31 dX1_become_84 rfl rfl rfl ?_
  refine XW.iconst 88 dX1_become_87 (v := 0) (by decide) rfl ?_
  refine XW.aload_n 89 dX1_become_88 rfl rfl ?_
  refine XW.getf 92 (v := .ref 5) f1_31 dX1_become_89 rfl rfl rfl ?_
  refine XW.alen 93 (v := 3) dX1_become_92 rfl rfl rfl ?_
  refine XW.copy 96 (h' := HP (sA (sA (sA (sA (sI (sI (sI Z 1 0 (Z.1 32 0)) 1 5 (Z.1 32 5)) 1 7 (Z.1 32 7)) 2 (va_cpy (Z.2.1 33) (Z.2.1 2) 0 0 60)) 3 (va_cpy (Z.2.1 34) (Z.2.1 3) 0 0 3)) 4 (va_cpy (Z.2.1 35) (Z.2.1 4) 0 0 52)) 5 (va_cpy (Z.2.1 36) (Z.2.1 5) 0 0 3))) 3 c1_43 wC_n wC_s wC_i dX1_become_93 rfl rfl rfl rfl rfl (by decide) (by decide) (by decide) (by decide) rfl rfl ?_
  refine XW.aload_n 97 dX1_become_96 rfl rfl ?_
  refine XW.getf 100 (v := .ref 37) f1_37 dX1_become_97 rfl rfl rfl ?_
  refine XW.iconst 101 dX1_become_100 (v := 0) (by decide) rfl ?_
  refine XW.aload_n 102 dX1_become_101 rfl rfl ?_
  refine XW.getf 105 (v := .ref 6) f1_37 dX1_become_102 rfl rfl rfl ?_
  refine XW.iconst 106 dX1_become_105 (v := 0) (by decide) rfl ?_
  refine XW.aload_n 107 dX1_become_106 rfl rfl ?_
  refine XW.getf 110 (v := .ref 6) f1_37 dX1_become_107 rfl rfl rfl ?_
  refine XW.alen 111 (v := 8) dX1_become_110 rfl rfl rfl ?_
  refine XW.copy 114 (h' := HP (sA (sA (sA (sA (sA (sI (sI (sI Z 1 0 (Z.1 32 0)) 1 5 (Z.1 32 5)) 1 7 (Z.1 32 7)) 2 (va_cpy (Z.2.1 33) (Z.2.1 2) 0 0 60)) 3 (va_cpy (Z.2.1 34) (Z.2.1 3) 0 0 3)) 4 (va_cpy (Z.2.1 35) (Z.2.1 4) 0 0 52)) 5 (va_cpy (Z.2.1 36) (Z.2.1 5) 0 0 3)) 6 (va_cpy (Z.2.1 37) (Z.2.1 6) 0 0 8))) 8 c1_43 wC_n wC_s wC_i dX1_become_111 rfl rfl rfl rfl rfl (by decide) (by decide) (by decide) (by decide) rfl rfl ?_
  exact XW.vret dX1_become_114 trivial (⟨rfl, rfl⟩)
set_option maxHeartbeats 4000000 in
set_option maxRecDepth 100000 in
theorem c_become_38_1 {Z : xZ} : XC mX1_become 1 0 0 [.ref 38, .ref 1] (HP Z) (fun q h' => q = none ∧ h' = HP (becZ Z 38 1)) := by
  show XW mX1_become 1 0 0 0 [some (.ref 38), some (.ref 1)] [] (HP Z) _
  refine XW.aload_n 1 dX1_become_0 rfl rfl ?_
  refine XW.aload_n 2 dX1_become_1 rfl rfl ?_
  refine XW.getf 5 (v := .int (Z.1 1 0)) f1_9 dX1_become_2 rfl rfl rfl ?_
  refine XW.putf 8 (h' := HP (sI Z 38 0 (Z.1 1 0))) (p1_9 _) dX1_become_5 rfl (Nat.le_of_ble_eq_true rfl) (xfit_i _) rfl rfl ?_
  refine XW.aload_n 9 dX1_become_8 rfl rfl ?_
  refine XW.aload_n 10 dX1_become_9 rfl rfl ?_
  refine XW.getf 13 (v := .int (Z.1 1 5)) f1_34 dX1_become_10 rfl rfl rfl ?_
  refine XW.putf 16 (h' := HP (sI (sI Z 38 0 (Z.1 1 0)) 38 5 (Z.1 1 5))) (p1_34 _) dX1_become_13 rfl (Nat.le_of_ble_eq_true rfl) (xfit_i _) rfl rfl ?_
  refine XW.aload_n 17 dX1_become_16 rfl rfl ?_
  refine XW.aload_n 18 dX1_become_17 rfl rfl ?_
  refine XW.getf 21 (v := .int (Z.1 1 7)) f1_40 dX1_become_18 rfl rfl rfl ?_
  refine XW.putf 24 (h' := HP (sI (sI (sI Z 38 0 (Z.1 1 0)) 38 5 (Z.1 1 5)) 38 7 (Z.1 1 7))) (p1_40 _) dX1_become_21 rfl (Nat.le_of_ble_eq_true rfl) (xfit_i _) rfl rfl ?_
  refine XW.aload_n 25 dX1_become_24 rfl rfl ?_
  refine XW.getf 28 (v := .ref 2) f1_15 dX1_become_25 rfl rfl rfl ?_
  refine XW.iconst 29 dX1_become_28 (v := 0) (by decide) rfl ?_
  refine XW.aload_n 30 dX1_become_29 rfl rfl ?_
  refine XW.getf 33 (v := .ref 39) f1_15 dX1_become_30 rfl rfl rfl ?_
  refine XW.iconst 34 dX1_become_33 (v := 0) (by decide) rfl ?_
  refine XW.aload_n 35 dX1_become_34 rfl rfl ?_
  refine XW.getf 38 (v := .ref 39) f1_15 dX1_become_35 rfl rfl rfl ?_
  refine XW.alen 39 (v := 60) dX1_become_38 rfl rfl rfl ?_
  refine XW.copy 42 (h' := HP (sA (sI (sI (sI Z 38 0 (Z.1 1 0)) 38 5 (Z.1 1 5)) 38 7 (Z.1 1 7)) 39 (va_cpy (Z.2.1 2) (Z.2.1 39) 0 0 60))) 60 c1_43 wC_n wC_s wC_i dX1_become_39 rfl rfl rfl rfl rfl (by decide) (by decide) (by decide) (by decide) rfl rfl ?_
  refine XW.aload_n 43 dX1_become_42 rfl rfl ?_
  refine XW.getf 46 (v := .ref 3) f1_19 dX1_become_43 rfl rfl rfl ?_
  refine XW.iconst 47 dX1_become_46 (v := 0) (by decide) rfl ?_
  refine XW.aload_n 48 dX1_become_47 rfl rfl ?_
  refine XW.getf 51 (v := .ref 40) f1_19 dX1_become_48 rfl rfl rfl ?_
  refine XW.iconst 52 dX1_become_51 (v := 0) (by decide) rfl ?_
  refine XW.aload_n 53 dX1_become_52 rfl rfl ?_
  refine XW.getf 56 (v := .ref 40) f1_19 dX1_become_53 rfl rfl rfl ?_
  refine XW.alen 57 (v := 3) dX1_become_56 rfl rfl rfl ?_
  refine XW.copy 60 (h' := HP (sA (sA (sI (sI (sI Z 38 0 (Z.1 1 0)) 38 5 (Z.1 1 5)) 38 7 (Z.1 1 7)) 39 (va_cpy (Z.2.1 2) (Z.2.1 39) 0 0 60)) 40 (va_cpy (Z.2.1 3) (Z.2.1 40) 0 0 3))) 3 c1_43 wC_n wC_s wC_i dX1_become_57 rfl rfl rfl rfl rfl (by decide) (by decide) (by decide) (by decide) rfl rfl ?_
  refine XW.aload_n 61 dX1_become_60 rfl rfl ?_
  refine XW.getf 64 (v := .ref 4) f1_28 dX1_become_61 rfl rfl rfl ?_
  refine XW.iconst 65 dX1_become_64 (v := 0) (by decide) rfl ?_
  refine XW.aload_n 66 dX1_become_65 rfl rfl ?_
  refine XW.getf 69 (v := .ref 41) f1_28 dX1_become_66 rfl rfl rfl ?_
  refine XW.iconst 70 dX1_become_69 (v := 0) (by decide) rfl ?_
  refine XW.aload_n 71 dX1_become_70 rfl rfl ?_
  refine XW.getf 74 (v := .ref 41) f1_28 dX1_become_71 rfl rfl rfl ?_
  refine XW.alen 75 (v := 52) dX1_become_74 rfl rfl rfl ?_
  refine XW.copy 78 (h' := HP (sA (sA (sA (sI (sI (sI Z 38 0 (Z.1 1 0)) 38 5 (Z.1 1 5)) 38 7 (Z.1 1 7)) 39 (va_cpy (Z.2.1 2) (Z.2.1 39) 0 0 60)) 40 (va_cpy (Z.2.1 3) (Z.2.1 40) 0 0 3)) 41 (va_cpy (Z.2.1 4) (Z.2.1 41) 0 0 52))) 52 c1_43 wC_n wC_s wC_i dX1_become_75 rfl rfl rfl rfl rfl (by decide) (by decide) (by decide) (by decide) rfl rfl ?_
  refine XW.aload_n 79 dX1_become_78 rfl rfl ?_
  refine XW.getf 82 (v := .ref 5) f1_31 dX1_become_79 rfl rfl rfl ?_
  refine XW.iconst 83 dX1_become_82 (v := 0) (by decide) rfl ?_
  refine XW.aload_n 84 dX1_become_83 rfl rfl ?_
  refine XW.getf 87 (v := .ref 42) f1_31 dX1_become_84 rfl rfl rfl ?_
  refine XW.iconst 88 dX1_become_87 (v := 0) (by decide) rfl ?_
  refine XW.aload_n 89 dX1_become_88 rfl rfl ?_
  refine XW.getf 92 (v := .ref 42) f1_31 dX1_become_89 rfl rfl rfl ?_
  refine XW.alen 93 (v := 3) dX1_become_92 rfl rfl rfl ?_
  refine XW.copy 96 (h' := HP (sA (sA (sA (sA (sI (sI (sI Z 38 0 (Z.1 1 0)) 38 5 (Z.1 1 5)) 38 7 (Z.1 1 7)) 39 (va_cpy (Z.2.1 2) (Z.2.1 39) 0 0 60)) 40 (va_cpy (Z.2.1 3) (Z.2.1 40) 0 0 3)) 41 (va_cpy (Z.2.1 4) (Z.2.1 41) 0 0 52)) 42 (va_cpy (Z.2.1 5) (Z.2.1 42) 0 0 3))) 3 c1_43 wC_n wC_s wC_i dX1_become_93 rfl rfl rfl rfl rfl (by decide) (by decide) (by decide) (by decide) rfl rfl ?_
  refine XW.aload_n 97 dX1_become_96 rfl rfl ?_
  refine XW.getf 100 (v := .ref 6) f1_37 dX1_become_97 rfl rfl rfl ?_
  refine XW.iconst 101 dX1_become_100 (v := 0) (by decide) rfl ?_
  refine XW.aload_n 102 dX1_become_101 rfl rfl ?_
  refine XW.getf 105 (v := .ref 43) f1_37 dX1_become_102 rfl rfl rfl ?_
  refine XW.iconst 106 dX1_become_105 (v := 0) (by decide) rfl ?_
  refine XW.aload_n 107 dX1_become_106 rfl rfl ?_
  refine XW.getf 110 (v := .ref 43) f1_37 dX1_become_107 rfl rfl rfl ?_
  refine XW.alen 111 (v := 8) dX1_become_110 rfl rfl rfl ?_
  refine XW.copy 114 (h' := HP (sA (sA (sA (sA (sA (sI (sI (sI Z 38 0 (Z.1 1 0)) 38 5 (Z.1 1 5)) 38 7 (Z.1 1 7)) 39 (va_cpy (Z.2.1 2) (Z.2.1 39) 0 0 60)) 40 (va_cpy (Z.2.1 3) (Z.2.1 40) 0 0 3)) 41 (va_cpy (Z.2.1 4) (Z.2.1 41) 0 0 52)) 42 (va_cpy (Z.2.1 5) (Z.2.1 42) 0 0 3)) 43 (va_cpy (Z.2.1 6) (Z.2.1 43) 0 0 8))) 8 c1_43 wC_n wC_s wC_i dX1_become_111 rfl rfl rfl rfl rfl (by decide) (by decide) (by decide) (by decide) rfl rfl ?_
  exact XW.vret dX1_become_114 trivial (⟨rfl, rfl⟩)
set_option maxHeartbeats 4000000 in
set_option maxRecDepth 100000 in
theorem c_become_1_38 {Z : xZ} : XC mX1_become 1 0 0 [.ref 1, .ref 38] (HP Z) (fun q h' => q = none ∧ h' = HP (becZ Z 1 38)) := by
  show XW mX1_become 1 0 0 0 [some (.ref 1), some (.ref 38)] [] (HP Z) _
  refine XW.aload_n 1 dX1_become_0 rfl rfl ?_
  refine XW.aload_n 2 dX1_become_1 rfl rfl ?_
  refine XW.getf 5 (v := .int (Z.1 38 0)) f1_9 dX1_become_2 rfl rfl rfl ?_
  refine XW.putf 8 (h' := HP (sI Z 1 0 (Z.1 38 0))) (p1_9 _) dX1_become_5 rfl (Nat.le_of_ble_eq_true rfl) (xfit_i _) rfl rfl ?_
  refine XW.aload_n 9 dX1_become_8 rfl rfl ?_
  refine XW.aload_n 10 dX1_become_9 rfl rfl ?_
  refine XW.getf 13 (v := .int (Z.1 38 5)) f1_34 dX1_become_10 rfl rfl rfl ?_
  refine XW.putf 16 (h' := HP (sI (sI Z 1 0 (Z.1 38 0)) 1 5 (Z.1 38 5))) (p1_34 _) dX1_become_13 rfl (Nat.le_of_ble_eq_true rfl) (xfit_i _) rfl rfl ?_
  refine XW.aload_n 17 dX1_become_16 rfl rfl ?_
  refine XW.aload_n 18 dX1_become_17 rfl rfl ?_
  refine XW.getf 21 (v := .int (Z.1 38 7)) f1_40 dX1_become_18 rfl rfl rfl ?_
  refine XW.putf 24 (h' := HP (sI (sI (sI Z 1 0 (Z.1 38 0)) 1 5 (Z.1 38 5)) 1 7 (Z.1 38 7))) (p1_40 _) dX1_become_21 rfl (Nat.le_of_ble_eq_true rfl) (xfit_i _) rfl rfl ?_
  refine XW.aload_n 25 dX1_become_24 rfl rfl ?_
  refine XW.getf 28 (v := .ref 39) f1_15 dX1_become_25 rfl rfl rfl ?_
  refine XW.iconst 29 dX1_become_28 (v := 0) (by decide) rfl ?_
  refine XW.aload_n 30 dX1_become_29 rfl rfl ?_
  refine XW.getf 33 (v := .ref 2) f1_15 dX1_become_30 rfl rfl rfl ?_
  refine XW.iconst 34 dX1_become_33 (v := 0) (by decide) rfl ?_
  refine XW.aload_n 35 dX1_become_34 rfl rfl ?_
  refine XW.getf 38 (v := .ref 2) f1_15 dX1_become_35 rfl rfl rfl ?_
  refine XW.alen 39 (v := 60) dX1_become_38 rfl rfl rfl ?_
  refine XW.copy 42 (h' := HP (sA (sI (sI (sI Z 1 0 (Z.1 38 0)) 1 5 (Z.1 38 5)) 1 7 (Z.1 38 7)) 2 (va_cpy (Z.2.1 39) (Z.2.1 2) 0 0 60))) 60 c1_43 wC_n wC_s wC_i dX1_become_39 rfl rfl rfl rfl rfl (by decide) (by decide) (by decide) (by decide) rfl rfl ?_
  refine XW.aload_n 43 dX1_become_42 rfl rfl ?_
  refine XW.getf 46 (v := .ref 40) f1_19 dX1_become_43 rfl rfl rfl ?_
  refine XW.iconst 47 dX1_become_46 (v := 0) (by decide) rfl ?_
  refine XW.aload_n 48 dX1_become_47 rfl rfl ?_
  refine XW.getf 51 (v := .ref 3) f1_19 dX1_become_48 rfl rfl rfl ?_
  refine XW.iconst 52 dX1_become_51 (v := 0) (by decide) rfl ?_
  refine XW.aload_n 53 dX1_become_52 rfl rfl ?_
  refine XW.getf 56 (v := .ref 3) f1_19 dX1_become_53 rfl rfl rfl ?_
  refine XW.alen 57 (v := 3) dX1_become_56 rfl rfl rfl ?_
  refine XW.copy 60 (h' := HP (sA (sA (sI (sI (sI Z 1 0 (Z.1 38 0)) 1 5 (Z.1 38 5)) 1 7 (Z.1 38 7)) 2 (va_cpy (Z.2.1 39) (Z.2.1 2) 0 0 60)) 3 (va_cpy (Z.2.1 40) (Z.2.1 3) 0 0 3))) 3 c1_43 wC_n wC_s wC_i dX1_become_57 rfl rfl rfl rfl rfl (by decide) (by decide) (by decide) (by decide) rfl rfl ?_
  refine XW.aload_n 61 dX1_become_60 rfl rfl ?_
  refine XW.getf 64 (v := .ref 41) f1_28 dX1_become_61 rfl rfl rfl ?_
  refine XW.iconst 65 dX1_become_64 (v := 0) (by decide) rfl ?_
  refine XW.aload_n 66 dX1_become_65 rfl rfl ?_
  refine XW.getf 69 (v := .ref 4) f1_28 dX1_become_66 rfl rfl rfl ?_
  refine XW.iconst 70 dX1_become_69 (v := 0) (by decide) rfl ?_
  refine XW.aload_n 71 dX1_become_70 rfl rfl ?_
  refine XW.getf 74 (v := .ref 4) f1_28 dX1_become_71 rfl rfl rfl ?_
  refine XW.alen 75 (v := 52) dX1_become_74 rfl rfl rfl ?_
  refine XW.copy 78 (h' := HP (sA (sA (sA (sI (sI (sI Z 1 0 (Z.1 38 0)) 1 5 (Z.1 38 5)) 1 7 (Z.1 38 7)) 2 (va_cpy (Z.2.1 39) (Z.2.1 2) 0 0 60)) 3 (va_cpy (Z.2.1 40) (Z.2.1 3) 0 0 3)) 4 (va_cpy (Z.2.1 41) (Z.2.1 4) 0 0 52))) 52 c1_43 wC_n wC_s wC_i dX1_become_75 rfl rfl rfl rfl rfl (by decide) (by decide) (by decide) (by decide) rfl rfl ?_
  refine XW.aload_n 79 dX1_become_78 rfl rfl ?_
  refine XW.getf 82 (v := .ref 42) f1_31 dX1_become_79 rfl rfl rfl ?_
  refine XW.iconst 83 dX1_become_82 (v := 0) (by decide) rfl ?_
  refine XW.aload_n 84 dX1_become_83 rfl rfl ?_
  refine XW.getf 87 (v := .ref 5) f1_31 dX1_become_84 rfl rfl rfl ?_
  refine XW.iconst 88 dX1_become_87 (v := 0) (by decide) rfl ?_
  refine XW.aload_n 89 dX1_become_88 rfl rfl ?_
  refine XW.getf 92 (v := .ref 5) f1_31 dX1_become_89 rfl rfl rfl ?_
  refine XW.alen 93 (v := 3) dX1_become_92 rfl rfl rfl ?_
  refine XW.copy 96 (h' := HP (sA (sA (sA (sA (sI (sI (sI Z 1 0 (Z.1 38 0)) 1 5 (Z.1 38 5)) 1 7 (Z.1 38 7)) 2 (va_cpy (Z.2.1 39) (Z.2.1 2) 0 0 60)) 3 (va_cpy (Z.2.1 40) (Z.2.1 3) 0 0 3)) 4 (va_cpy (Z.2.1 41) (Z.2.1 4) 0 0 52)) 5 (va_cpy (Z.2.1 42) (Z.2.1 5) 0 0 3))) 3 c1_43 wC_n wC_s wC_i dX1_become_93 rfl rfl rfl rfl rfl (by decide) (by decide) (by decide) (by decide) rfl rfl ?_
  refine XW.aload_n 97 dX1_become_96 rfl rfl ?_
  refine XW.getf 100 (v := .ref 43) f1_37 dX1_become_97 rfl rfl rfl ?_
  refine XW.iconst 101 dX1_become_100 (v := 0) (by decide) rfl ?_
  refine XW.aload_n 102 dX1_become_101 rfl rfl ?_
  refine XW.getf 105 (v := .ref 6) f1_37 dX1_become_102 rfl rfl rfl ?_
  refine XW.iconst 106 dX1_become_105 (v := 0) (by decide) rfl ?_
  refine XW.aload_n 107 dX1_become_106 rfl rfl ?_
  refine XW.getf 110 (v := .ref 6) f1_37 dX1_become_107 rfl rfl rfl ?_
  refine XW.alen 111 (v := 8) dX1_become_110 rfl rfl rfl ?_
  refine XW.copy 114 (h' := HP (sA (sA (sA (sA (sA (sI (sI (sI Z 1 0 (Z.1 38 0)) 1 5 (Z.1 38 5)) 1 7 (Z.1 38 7)) 2 (va_cpy (Z.2.1 39) (Z.2.1 2) 0 0 60)) 3 (va_cpy (Z.2.1 40) (Z.2.1 3) 0 0 3)) 4 (va_cpy (Z.2.1 41) (Z.2.1 4) 0 0 52)) 5 (va_cpy (Z.2.1 42) (Z.2.1 5) 0 0 3)) 6 (va_cpy (Z.2.1 43) (Z.2.1 6) 0 0 8))) 8 c1_43 wC_n wC_s wC_i dX1_become_111 rfl rfl rfl rfl rfl (by decide) (by decide) (by decide) (by decide) rfl rfl ?_
  exact XW.vret dX1_become_114 trivial (⟨rfl, rfl⟩)
theorem c_note {Z : xZ} {q j : Nat} (hq : q = 8 + 6 * j) (hj : j < 6) : XC mX1_become 1 0 0 [.ref q, .ref 1] (HP Z) (fun r h' => r = none ∧ h' = HP (becZ Z q 1)) := by
  subst hq
  match j, hj with
  | 0, _ => exact c_become_8_1
  | 1, _ => exact c_become_14_1
  | 2, _ => exact c_become_20_1
  | 3, _ => exact c_become_26_1
  | 4, _ => exact c_become_32_1
  | 5, _ => exact c_become_38_1
  | n + 6, h => omega
theorem c_unnote {Z : xZ} {q j : Nat} (hq : q = 8 + 6 * j) (hj : j < 6) : XC mX1_become 1 0 0 [.ref 1, .ref q] (HP Z) (fun r h' => r = none ∧ h' = HP (becZ Z 1 q)) := by
  subst hq
  match j, hj with
  | 0, _ => exact c_become_1_8
  | 1, _ => exact c_become_1_14
  | 2, _ => exact c_become_1_20
  | 3, _ => exact c_become_1_26
  | 4, _ => exact c_become_1_32
  | 5, _ => exact c_become_1_38
  | n + 6, h => omega
