section SS1
variable {d : Nat} {a0 a1 a2 a3 a4 a5 a6 a7 a8 a9 a10 a11 : Value} {L S : List Value} {M : Mt} {N : Nt} {P : Pt'} {Q : Qt} {x z j : Int32} {lx lz : Int64} {r r2 c n : Nat}
theorem sX4_parse_0 : Wp mX4_parse d 0 (.ref r :: L) S M N P Q = Wp mX4_parse d 1 (.ref r :: L) (.ref r :: S) M N P Q := wp_aload_n rfl dX4_parse_0 rfl
theorem sX4_parse_1 (hs : shk r = (4, 0)) : Wp mX4_parse d 1 L (.ref r :: S) M N P Q = Wp mX4_parse d 4 L (.ref (P r 1) :: S) M N P Q := wp_getfield rfl dX4_parse_1 rfl rfl hs rfl
theorem sX4_parse_4 (hs : shk r = (2, 0)) (hS : stk S ≤ 8) : Wp mX4_parse (d + 1) 4 L (.ref r :: S) M N P Q = Wp mX2_clear d 0 [.ref r] [] M N P (fun v M' N' P' => Wp mX4_parse (d + 1) 7 L (v.toList ++ S) M' N' P' Q) := wp_callV (As := []) rfl dX4_parse_4 rfl rfl (Or.inl ⟨_, _, _, hs, rfl⟩) rfl ⟨rfl, Nat.le_of_ble_eq_true rfl, Nat.le_of_ble_eq_true rfl⟩ rfl hS
theorem sX4_parse_7 : Wp mX4_parse d 7 (.ref r :: L) S M N P Q = Wp mX4_parse d 8 (.ref r :: L) (.ref r :: S) M N P Q := wp_aload_n rfl dX4_parse_7 rfl
theorem sX4_parse_8 : Wp mX4_parse d 8 L S M N P Q = Wp mX4_parse d 9 L (.int 0 :: S) M N P Q := wp_iconst rfl dX4_parse_8 rfl
theorem sX4_parse_9 (hs : shk r = (4, 0)) : Wp mX4_parse d 9 L (.int x :: .ref r :: S) M N P Q = Wp mX4_parse d 12 L S (up2 M r 2 x) N P Q := wp_putI rfl dX4_parse_9 rfl rfl hs rfl ⟨_, _, _, _, rfl, by decide, rfl, tyX4_ok 2 (by decide), rfl, rfl⟩
theorem sX4_parse_12 : Wp mX4_parse d 12 (.ref r :: L) S M N P Q = Wp mX4_parse d 13 (.ref r :: L) (.ref r :: S) M N P Q := wp_aload_n rfl dX4_parse_12 rfl
theorem sX4_parse_13 : Wp mX4_parse d 13 L S M N P Q = Wp mX4_parse d 14 L (.int (-1) :: S) M N P Q := wp_iconst rfl dX4_parse_13 rfl
theorem sX4_parse_14 (hs : shk r = (4, 0)) : Wp mX4_parse d 14 L (.int x :: .ref r :: S) M N P Q = Wp mX4_parse d 17 L S (up2 M r 3 x) N P Q := wp_putI rfl dX4_parse_14 rfl rfl hs rfl ⟨_, _, _, _, rfl, by decide, rfl, tyX4_ok 3 (by decide), rfl, rfl⟩
theorem sX4_parse_17 : Wp mX4_parse d 17 (.ref r :: L) S M N P Q = Wp mX4_parse d 18 (.ref r :: L) (.ref r :: S) M N P Q := wp_aload_n rfl dX4_parse_17 rfl
theorem sX4_parse_18 : Wp mX4_parse d 18 L S M N P Q = Wp mX4_parse d 19 L (.int 0 :: S) M N P Q := wp_iconst rfl dX4_parse_18 rfl
theorem sX4_parse_19 (hs : shk r = (4, 0)) : Wp mX4_parse d 19 L (.int x :: .ref r :: S) M N P Q = Wp mX4_parse d 22 L S (up2 M r 7 x) N P Q := wp_putI rfl dX4_parse_19 rfl rfl hs rfl ⟨_, _, _, _, rfl, by decide, rfl, tyX4_ok 7 (by decide), rfl, rfl⟩
theorem sX4_parse_22 : Wp mX4_parse d 22 (.ref r :: L) S M N P Q = Wp mX4_parse d 23 (.ref r :: L) (.ref r :: S) M N P Q := wp_aload_n rfl dX4_parse_22 rfl
theorem sX4_parse_23 : Wp mX4_parse d 23 L S M N P Q = Wp mX4_parse d 24 L (.int 0 :: S) M N P Q := wp_iconst rfl dX4_parse_23 rfl
theorem sX4_parse_24 {x0 : Int32} (hs : shk r = (4, 0)) (hS : stk S ≤ 8) : Wp mX4_parse (d + 1) 24 L (.int x0 :: .ref r :: S) M N P Q = Wp mX4_moveTo d 0 [.ref r, .int x0, .float 0] [] M N P (fun v M' N' P' => Wp mX4_parse (d + 1) 27 L (v.toList ++ S) M' N' P' Q) := wp_callV (As := [.int x0]) rfl dX4_parse_24 rfl rfl (Or.inl ⟨_, _, _, hs, rfl⟩) rfl ⟨rfl, Nat.le_of_ble_eq_true rfl, Nat.le_of_ble_eq_true rfl⟩ rfl hS
theorem sX4_parse_27 : Wp mX4_parse d 27 L S M N P Q = Wp mX4_parse d 28 L (.int 0 :: S) M N P Q := wp_iconst rfl dX4_parse_27 rfl
theorem sX4_parse_28 (hn : nl a0 = true) : Wp mX4_parse d 28 (a0 :: a1 :: L) (.int x :: S) M N P Q = Wp mX4_parse d 29 (a0 :: .int x :: L) S M N P Q := wp_istore_n rfl dX4_parse_28 (lenGt1 ..) (okst1 hn) rfl
theorem sX4_parse_29 : Wp mX4_parse d 29 (a0 :: .int x :: L) S M N P Q = Wp mX4_parse d 30 (a0 :: .int x :: L) (.int x :: S) M N P Q := wp_iload_n rfl dX4_parse_29 rfl
theorem sX4_parse_30 : Wp mX4_parse d 30 L S M N P Q = Wp mX4_parse d 32 L (.int 16 :: S) M N P Q := wp_bipush rfl dX4_parse_30 rfl
theorem sX4_parse_32 : Wp mX4_parse d 32 L (.int z :: .int x :: S) M N P Q = (if z ≤ x then Wp mX4_parse d 59 L S M N P Q else Wp mX4_parse d 35 L S M N P Q) := wp_icmp_ge rfl dX4_parse_32 rfl
theorem sX4_parse_35 : Wp mX4_parse d 35 (.ref r :: L) S M N P Q = Wp mX4_parse d 36 (.ref r :: L) (.ref r :: S) M N P Q := wp_aload_n rfl dX4_parse_35 rfl
theorem sX4_parse_36 (hs : shk r = (4, 0)) : Wp mX4_parse d 36 L (.ref r :: S) M N P Q = Wp mX4_parse d 39 L (.int (M r 5) :: S) M N P Q := wp_getfield rfl dX4_parse_36 rfl rfl hs rfl
theorem sX4_parse_39 : Wp mX4_parse d 39 L S M N P Q = Wp mX4_parse d 41 L (.int 9 :: S) M N P Q := wp_bipush rfl dX4_parse_39 rfl
theorem sX4_parse_41 : Wp mX4_parse d 41 L (.int z :: .int x :: S) M N P Q = (if x = z then Wp mX4_parse d 44 L S M N P Q else Wp mX4_parse d 59 L S M N P Q) := wp_icmp_ne rfl dX4_parse_41 rfl
theorem sX4_parse_44 : Wp mX4_parse d 44 (.ref r :: L) S M N P Q = Wp mX4_parse d 45 (.ref r :: L) (.ref r :: S) M N P Q := wp_aload_n rfl dX4_parse_44 rfl
theorem sX4_parse_45 (hs : shk r = (4, 0)) (hS : stk S ≤ 8) : Wp mX4_parse (d + 1) 45 L (.ref r :: S) M N P Q = Wp mX4_parseLine d 0 [.ref r] [] M N P (fun v M' N' P' => Wp mX4_parse (d + 1) 48 L (v.toList ++ S) M' N' P' Q) := wp_callV (As := []) rfl dX4_parse_45 rfl rfl (Or.inl ⟨_, _, _, hs, rfl⟩) rfl ⟨rfl, Nat.le_of_ble_eq_true rfl, Nat.le_of_ble_eq_true rfl⟩ rfl hS
theorem sX4_parse_48 : Wp mX4_parse d 48 L (.int x :: S) M N P Q = (if x = 0 then Wp mX4_parse d 51 L S M N P Q else Wp mX4_parse d 53 L S M N P Q) := wp_if_ne rfl dX4_parse_48 rfl
theorem sX4_parse_51 : Wp mX4_parse d 51 L S M N P Q = Wp mX4_parse d 52 L (.int 0 :: S) M N P Q := wp_iconst rfl dX4_parse_51 rfl
theorem sX4_parse_52 (hb : bit x) : Wp mX4_parse d 52 L [.int x] M N P Q = Q (some (.int x)) M N P := wp_iret rfl dX4_parse_52 rfl (bit_n hb)
theorem sX4_parse_53 (hn : nl a0 = true) : Wp mX4_parse d 53 (a0 :: .int x :: L) S M N P Q = Wp mX4_parse d 56 (a0 :: .int (x + 1) :: L) S M N P Q := wp_iinc rfl dX4_parse_53 rfl rfl (okst1 hn) rfl
theorem sX4_parse_56 : Wp mX4_parse d 56 L S M N P Q = Wp mX4_parse d 29 L S M N P Q := wp_goto rfl dX4_parse_56 rfl
theorem sX4_parse_59 : Wp mX4_parse d 59 (.ref r :: L) S M N P Q = Wp mX4_parse d 60 (.ref r :: L) (.ref r :: S) M N P Q := wp_aload_n rfl dX4_parse_59 rfl
theorem sX4_parse_60 (hs : shk r = (4, 0)) : Wp mX4_parse d 60 L (.ref r :: S) M N P Q = Wp mX4_parse d 63 L (.int (M r 5) :: S) M N P Q := wp_getfield rfl dX4_parse_60 rfl rfl hs rfl
theorem sX4_parse_63 : Wp mX4_parse d 63 L S M N P Q = Wp mX4_parse d 65 L (.int 20 :: S) M N P Q := wp_bipush rfl dX4_parse_63 rfl
theorem sX4_parse_65 : Wp mX4_parse d 65 L (.int z :: .int x :: S) M N P Q = (if x = z then Wp mX4_parse d 75 L S M N P Q else Wp mX4_parse d 68 L S M N P Q) := wp_icmp_eq rfl dX4_parse_65 rfl
theorem sX4_parse_68 : Wp mX4_parse d 68 (.ref r :: L) S M N P Q = Wp mX4_parse d 69 (.ref r :: L) (.ref r :: S) M N P Q := wp_aload_n rfl dX4_parse_68 rfl
theorem sX4_parse_69 (hs : shk r = (4, 0)) (hS : stk S ≤ 8) : Wp mX4_parse (d + 1) 69 L (.ref r :: S) M N P Q = Wp mX4_refuse d 0 [.ref r] [] M N P (fun v M' N' P' => Wp mX4_parse (d + 1) 72 L (v.toList ++ S) M' N' P' Q) := wp_callV (As := []) rfl dX4_parse_69 rfl rfl (Or.inl ⟨_, _, _, hs, rfl⟩) rfl ⟨rfl, Nat.le_of_ble_eq_true rfl, Nat.le_of_ble_eq_true rfl⟩ rfl hS
theorem sX4_parse_72 : Wp mX4_parse d 72 L (.int x :: S) M N P Q = (if x = 0 then Wp mX4_parse d 79 L S M N P Q else Wp mX4_parse d 75 L S M N P Q) := wp_if_eq rfl dX4_parse_72 rfl
theorem sX4_parse_75 : Wp mX4_parse d 75 L S M N P Q = Wp mX4_parse d 76 L (.int 1 :: S) M N P Q := wp_iconst rfl dX4_parse_75 rfl
theorem sX4_parse_76 : Wp mX4_parse d 76 L S M N P Q = Wp mX4_parse d 80 L S M N P Q := wp_goto rfl dX4_parse_76 rfl
theorem sX4_parse_79 : Wp mX4_parse d 79 L S M N P Q = Wp mX4_parse d 80 L (.int 0 :: S) M N P Q := wp_iconst rfl dX4_parse_79 rfl
theorem sX4_parse_80 (hb : bit x) : Wp mX4_parse d 80 L [.int x] M N P Q = Q (some (.int x)) M N P := wp_iret rfl dX4_parse_80 rfl (bit_n hb)
theorem sX4_moveTo_0 : Wp mX4_moveTo d 0 (a0 :: .int x :: L) S M N P Q = Wp mX4_moveTo d 1 (a0 :: .int x :: L) (.int x :: S) M N P Q := wp_iload_n rfl dX4_moveTo_0 rfl
theorem sX4_moveTo_1 : Wp mX4_moveTo d 1 (.ref r :: L) S M N P Q = Wp mX4_moveTo d 2 (.ref r :: L) (.ref r :: S) M N P Q := wp_aload_n rfl dX4_moveTo_1 rfl
theorem sX4_moveTo_2 (hs : shk r = (4, 0)) : Wp mX4_moveTo d 2 L (.ref r :: S) M N P Q = Wp mX4_moveTo d 5 L (.ref (P r 0) :: S) M N P Q := wp_getfield rfl dX4_moveTo_2 rfl rfl hs rfl
theorem sX4_moveTo_5 (hs : shk r = (9, 0)) : Wp mX4_moveTo d 5 L (.ref r :: S) M N P Q = Wp mX4_moveTo d 8 L (.int (M r 3) :: S) M N P Q := wp_getfield rfl dX4_moveTo_5 rfl rfl hs rfl
theorem sX4_moveTo_8 : Wp mX4_moveTo d 8 L (.int z :: .int x :: S) M N P Q = (if z ≤ x then Wp mX4_moveTo d 15 L S M N P Q else Wp mX4_moveTo d 11 L S M N P Q) := wp_icmp_ge rfl dX4_moveTo_8 rfl
theorem sX4_moveTo_11 : Wp mX4_moveTo d 11 L S M N P Q = Wp mX4_moveTo d 12 L (.int 1 :: S) M N P Q := wp_iconst rfl dX4_moveTo_11 rfl
theorem sX4_moveTo_12 : Wp mX4_moveTo d 12 L S M N P Q = Wp mX4_moveTo d 16 L S M N P Q := wp_goto rfl dX4_moveTo_12 rfl
theorem sX4_moveTo_15 : Wp mX4_moveTo d 15 L S M N P Q = Wp mX4_moveTo d 16 L (.int 0 :: S) M N P Q := wp_iconst rfl dX4_moveTo_15 rfl
theorem sX4_moveTo_16 (hn : nl a1 = true) : Wp mX4_moveTo d 16 (a0 :: a1 :: a2 :: L) (.int x :: S) M N P Q = Wp mX4_moveTo d 17 (a0 :: a1 :: .int x :: L) S M N P Q := wp_istore_n rfl dX4_moveTo_16 (lenGt2 ..) (okst2 hn) rfl
theorem sX4_moveTo_17 : Wp mX4_moveTo d 17 (.ref r :: L) S M N P Q = Wp mX4_moveTo d 18 (.ref r :: L) (.ref r :: S) M N P Q := wp_aload_n rfl dX4_moveTo_17 rfl
theorem sX4_moveTo_18 : Wp mX4_moveTo d 18 (a0 :: .int x :: L) S M N P Q = Wp mX4_moveTo d 19 (a0 :: .int x :: L) (.int x :: S) M N P Q := wp_iload_n rfl dX4_moveTo_18 rfl
theorem sX4_moveTo_19 (hs : shk r = (4, 0)) : Wp mX4_moveTo d 19 L (.int x :: .ref r :: S) M N P Q = Wp mX4_moveTo d 22 L S (up2 M r 4 x) N P Q := wp_putI rfl dX4_moveTo_19 rfl rfl hs rfl ⟨_, _, _, _, rfl, by decide, rfl, tyX4_ok 4 (by decide), rfl, rfl⟩
theorem sX4_moveTo_22 : Wp mX4_moveTo d 22 (.ref r :: L) S M N P Q = Wp mX4_moveTo d 23 (.ref r :: L) (.ref r :: S) M N P Q := wp_aload_n rfl dX4_moveTo_22 rfl
theorem sX4_moveTo_23 : Wp mX4_moveTo d 23 (a0 :: a1 :: .int x :: L) S M N P Q = Wp mX4_moveTo d 24 (a0 :: a1 :: .int x :: L) (.int x :: S) M N P Q := wp_iload_n rfl dX4_moveTo_23 rfl
theorem sX4_moveTo_24 : Wp mX4_moveTo d 24 L (.int x :: S) M N P Q = (if x = 0 then Wp mX4_moveTo d 39 L S M N P Q else Wp mX4_moveTo d 27 L S M N P Q) := wp_if_eq rfl dX4_moveTo_24 rfl
theorem sX4_moveTo_27 : Wp mX4_moveTo d 27 (.ref r :: L) S M N P Q = Wp mX4_moveTo d 28 (.ref r :: L) (.ref r :: S) M N P Q := wp_aload_n rfl dX4_moveTo_27 rfl
theorem sX4_moveTo_28 (hs : shk r = (4, 0)) : Wp mX4_moveTo d 28 L (.ref r :: S) M N P Q = Wp mX4_moveTo d 31 L (.ref (P r 0) :: S) M N P Q := wp_getfield rfl dX4_moveTo_28 rfl rfl hs rfl
theorem sX4_moveTo_31 (hs : shk r = (9, 0)) : Wp mX4_moveTo d 31 L (.ref r :: S) M N P Q = Wp mX4_moveTo d 34 L (.ref (P r 0) :: S) M N P Q := wp_getfield rfl dX4_moveTo_31 rfl rfl hs rfl
theorem sX4_moveTo_34 : Wp mX4_moveTo d 34 (a0 :: .int x :: L) S M N P Q = Wp mX4_moveTo d 35 (a0 :: .int x :: L) (.int x :: S) M N P Q := wp_iload_n rfl dX4_moveTo_34 rfl
theorem sX4_moveTo_35 (hc : isB (shk r).1 = true) : Wp mX4_moveTo d 35 L (.int j :: .ref r :: S) M N P Q = (vp_in j (shk r).2 ∧ Wp mX4_moveTo d 36 L (.int (M r j.toNatClampNeg) :: S) M N P Q) := wp_baload rfl dX4_moveTo_35 (isB_or hc) (kd rfl)
theorem sX4_moveTo_36 : Wp mX4_moveTo d 36 L S M N P Q = Wp mX4_moveTo d 41 L S M N P Q := wp_goto rfl dX4_moveTo_36 rfl
theorem sX4_moveTo_39 : Wp mX4_moveTo d 39 L S M N P Q = Wp mX4_moveTo d 41 L (.int 20 :: S) M N P Q := wp_bipush rfl dX4_moveTo_39 rfl
theorem sX4_moveTo_41 (hs : shk r = (4, 0)) : Wp mX4_moveTo d 41 L (.int x :: .ref r :: S) M N P Q = Wp mX4_moveTo d 44 L S (up2 M r 5 x) N P Q := wp_putI rfl dX4_moveTo_41 rfl rfl hs rfl ⟨_, _, _, _, rfl, by decide, rfl, tyX4_ok 5 (by decide), rfl, rfl⟩
theorem sX4_moveTo_44 : Wp mX4_moveTo d 44 (.ref r :: L) S M N P Q = Wp mX4_moveTo d 45 (.ref r :: L) (.ref r :: S) M N P Q := wp_aload_n rfl dX4_moveTo_44 rfl
theorem sX4_moveTo_45 : Wp mX4_moveTo d 45 (a0 :: a1 :: .int x :: L) S M N P Q = Wp mX4_moveTo d 46 (a0 :: a1 :: .int x :: L) (.int x :: S) M N P Q := wp_iload_n rfl dX4_moveTo_45 rfl
theorem sX4_moveTo_46 : Wp mX4_moveTo d 46 L (.int x :: S) M N P Q = (if x = 0 then Wp mX4_moveTo d 61 L S M N P Q else Wp mX4_moveTo d 49 L S M N P Q) := wp_if_eq rfl dX4_moveTo_46 rfl
theorem sX4_moveTo_49 : Wp mX4_moveTo d 49 (.ref r :: L) S M N P Q = Wp mX4_moveTo d 50 (.ref r :: L) (.ref r :: S) M N P Q := wp_aload_n rfl dX4_moveTo_49 rfl
theorem sX4_moveTo_50 (hs : shk r = (4, 0)) : Wp mX4_moveTo d 50 L (.ref r :: S) M N P Q = Wp mX4_moveTo d 53 L (.ref (P r 0) :: S) M N P Q := wp_getfield rfl dX4_moveTo_50 rfl rfl hs rfl
theorem sX4_moveTo_53 (hs : shk r = (9, 0)) : Wp mX4_moveTo d 53 L (.ref r :: S) M N P Q = Wp mX4_moveTo d 56 L (.ref (P r 2) :: S) M N P Q := wp_getfield rfl dX4_moveTo_53 rfl rfl hs rfl
theorem sX4_moveTo_56 : Wp mX4_moveTo d 56 (a0 :: .int x :: L) S M N P Q = Wp mX4_moveTo d 57 (a0 :: .int x :: L) (.int x :: S) M N P Q := wp_iload_n rfl dX4_moveTo_56 rfl
theorem sX4_moveTo_57 (hs : (shk r).1 = 100) : Wp mX4_moveTo d 57 L (.int j :: .ref r :: S) M N P Q = (vp_in j (shk r).2 ∧ Wp mX4_moveTo d 58 L (.int (M r j.toNatClampNeg) :: S) M N P Q) := wp_iaload rfl dX4_moveTo_57 (kd hs)
theorem sX4_moveTo_58 : Wp mX4_moveTo d 58 L S M N P Q = Wp mX4_moveTo d 62 L S M N P Q := wp_goto rfl dX4_moveTo_58 rfl
theorem sX4_moveTo_61 : Wp mX4_moveTo d 61 L S M N P Q = Wp mX4_moveTo d 62 L (.int 0 :: S) M N P Q := wp_iconst rfl dX4_moveTo_61 rfl
theorem sX4_moveTo_62 (hs : shk r = (4, 0)) : Wp mX4_moveTo d 62 L (.int x :: .ref r :: S) M N P Q = Wp mX4_moveTo d 65 L S (up2 M r 6 x) N P Q := wp_putI rfl dX4_moveTo_62 rfl rfl hs rfl ⟨_, _, _, _, rfl, by decide, rfl, tyX4_ok 6 (by decide), rfl, rfl⟩
theorem sX4_moveTo_65 : Wp mX4_moveTo d 65 L [] M N P Q = Q none M N P := wp_vret rfl dX4_moveTo_65 rfl
theorem sX4_take_0 : Wp mX4_take d 0 (.ref r :: L) S M N P Q = Wp mX4_take d 1 (.ref r :: L) (.ref r :: S) M N P Q := wp_aload_n rfl dX4_take_0 rfl
theorem sX4_take_1 (hs : shk r = (4, 0)) : Wp mX4_take d 1 L (.ref r :: S) M N P Q = Wp mX4_take d 4 L (.int (M r 5) :: S) M N P Q := wp_getfield rfl dX4_take_1 rfl rfl hs rfl
theorem sX4_take_4 : Wp mX4_take d 4 (a0 :: .int x :: L) S M N P Q = Wp mX4_take d 5 (a0 :: .int x :: L) (.int x :: S) M N P Q := wp_iload_n rfl dX4_take_4 rfl
theorem sX4_take_5 : Wp mX4_take d 5 L (.int z :: .int x :: S) M N P Q = (if x = z then Wp mX4_take d 13 L S M N P Q else Wp mX4_take d 8 L S M N P Q) := wp_icmp_eq rfl dX4_take_5 rfl
theorem sX4_take_8 : Wp mX4_take d 8 (.ref r :: L) S M N P Q = Wp mX4_take d 9 (.ref r :: L) (.ref r :: S) M N P Q := wp_aload_n rfl dX4_take_8 rfl
theorem sX4_take_9 (hs : shk r = (4, 0)) (hS : stk S ≤ 8) : Wp mX4_take (d + 1) 9 L (.ref r :: S) M N P Q = Wp mX4_refuse d 0 [.ref r] [] M N P (fun v M' N' P' => Wp mX4_take (d + 1) 12 L (v.toList ++ S) M' N' P' Q) := wp_callV (As := []) rfl dX4_take_9 rfl rfl (Or.inl ⟨_, _, _, hs, rfl⟩) rfl ⟨rfl, Nat.le_of_ble_eq_true rfl, Nat.le_of_ble_eq_true rfl⟩ rfl hS
theorem sX4_take_12 (hb : bit x) : Wp mX4_take d 12 L [.int x] M N P Q = Q (some (.int x)) M N P := wp_iret rfl dX4_take_12 rfl (bit_n hb)
theorem sX4_take_13 : Wp mX4_take d 13 (.ref r :: L) S M N P Q = Wp mX4_take d 14 (.ref r :: L) (.ref r :: S) M N P Q := wp_aload_n rfl dX4_take_13 rfl
theorem sX4_take_14 : Wp mX4_take d 14 (.ref r :: L) S M N P Q = Wp mX4_take d 15 (.ref r :: L) (.ref r :: S) M N P Q := wp_aload_n rfl dX4_take_14 rfl
theorem sX4_take_15 (hs : shk r = (4, 0)) : Wp mX4_take d 15 L (.ref r :: S) M N P Q = Wp mX4_take d 18 L (.int (M r 4) :: S) M N P Q := wp_getfield rfl dX4_take_15 rfl rfl hs rfl
theorem sX4_take_18 : Wp mX4_take d 18 L S M N P Q = Wp mX4_take d 19 L (.int 1 :: S) M N P Q := wp_iconst rfl dX4_take_18 rfl
theorem sX4_take_19 : Wp mX4_take d 19 L (.int z :: .int x :: S) M N P Q = Wp mX4_take d 20 L (.int (x + z) :: S) M N P Q := wp_iadd rfl dX4_take_19
theorem sX4_take_20 {x0 : Int32} (hs : shk r = (4, 0)) (hS : stk S ≤ 8) : Wp mX4_take (d + 1) 20 L (.int x0 :: .ref r :: S) M N P Q = Wp mX4_moveTo d 0 [.ref r, .int x0, .float 0] [] M N P (fun v M' N' P' => Wp mX4_take (d + 1) 23 L (v.toList ++ S) M' N' P' Q) := wp_callV (As := [.int x0]) rfl dX4_take_20 rfl rfl (Or.inl ⟨_, _, _, hs, rfl⟩) rfl ⟨rfl, Nat.le_of_ble_eq_true rfl, Nat.le_of_ble_eq_true rfl⟩ rfl hS
theorem sX4_take_23 : Wp mX4_take d 23 L S M N P Q = Wp mX4_take d 24 L (.int 1 :: S) M N P Q := wp_iconst rfl dX4_take_23 rfl
theorem sX4_take_24 (hb : bit x) : Wp mX4_take d 24 L [.int x] M N P Q = Q (some (.int x)) M N P := wp_iret rfl dX4_take_24 rfl (bit_n hb)
theorem sX4_refuse_0 : Wp mX4_refuse d 0 (.ref r :: L) S M N P Q = Wp mX4_refuse d 1 (.ref r :: L) (.ref r :: S) M N P Q := wp_aload_n rfl dX4_refuse_0 rfl
theorem sX4_refuse_1 : Wp mX4_refuse d 1 (.ref r :: L) S M N P Q = Wp mX4_refuse d 2 (.ref r :: L) (.ref r :: S) M N P Q := wp_aload_n rfl dX4_refuse_1 rfl
theorem sX4_refuse_2 (hs : shk r = (4, 0)) : Wp mX4_refuse d 2 L (.ref r :: S) M N P Q = Wp mX4_refuse d 5 L (.int (M r 5) :: S) M N P Q := wp_getfield rfl dX4_refuse_2 rfl rfl hs rfl
theorem sX4_refuse_5 : Wp mX4_refuse d 5 L S M N P Q = Wp mX4_refuse d 7 L (.int 21 :: S) M N P Q := wp_bipush rfl dX4_refuse_5 rfl
theorem sX4_refuse_7 : Wp mX4_refuse d 7 L (.int z :: .int x :: S) M N P Q = (if x = z then Wp mX4_refuse d 10 L S M N P Q else Wp mX4_refuse d 14 L S M N P Q) := wp_icmp_ne rfl dX4_refuse_7 rfl
theorem sX4_refuse_10 : Wp mX4_refuse d 10 L S M N P Q = Wp mX4_refuse d 11 L (.int 1 :: S) M N P Q := wp_iconst rfl dX4_refuse_10 rfl
theorem sX4_refuse_11 : Wp mX4_refuse d 11 L S M N P Q = Wp mX4_refuse d 15 L S M N P Q := wp_goto rfl dX4_refuse_11 rfl
theorem sX4_refuse_14 : Wp mX4_refuse d 14 L S M N P Q = Wp mX4_refuse d 15 L (.int 2 :: S) M N P Q := wp_iconst rfl dX4_refuse_14 rfl
theorem sX4_refuse_15 (hs : shk r = (4, 0)) : Wp mX4_refuse d 15 L (.int x :: .ref r :: S) M N P Q = Wp mX4_refuse d 18 L S (up2 M r 2 x) N P Q := wp_putI rfl dX4_refuse_15 rfl rfl hs rfl ⟨_, _, _, _, rfl, by decide, rfl, tyX4_ok 2 (by decide), rfl, rfl⟩
theorem sX4_refuse_18 : Wp mX4_refuse d 18 (.ref r :: L) S M N P Q = Wp mX4_refuse d 19 (.ref r :: L) (.ref r :: S) M N P Q := wp_aload_n rfl dX4_refuse_18 rfl
theorem sX4_refuse_19 : Wp mX4_refuse d 19 (.ref r :: L) S M N P Q = Wp mX4_refuse d 20 (.ref r :: L) (.ref r :: S) M N P Q := wp_aload_n rfl dX4_refuse_19 rfl
theorem sX4_refuse_20 (hs : shk r = (4, 0)) : Wp mX4_refuse d 20 L (.ref r :: S) M N P Q = Wp mX4_refuse d 23 L (.int (M r 4) :: S) M N P Q := wp_getfield rfl dX4_refuse_20 rfl rfl hs rfl
theorem sX4_refuse_23 : Wp mX4_refuse d 23 (.ref r :: L) S M N P Q = Wp mX4_refuse d 24 (.ref r :: L) (.ref r :: S) M N P Q := wp_aload_n rfl dX4_refuse_23 rfl
theorem sX4_refuse_24 (hs : shk r = (4, 0)) : Wp mX4_refuse d 24 L (.ref r :: S) M N P Q = Wp mX4_refuse d 27 L (.ref (P r 0) :: S) M N P Q := wp_getfield rfl dX4_refuse_24 rfl rfl hs rfl
theorem sX4_refuse_27 (hs : shk r = (9, 0)) : Wp mX4_refuse d 27 L (.ref r :: S) M N P Q = Wp mX4_refuse d 30 L (.int (M r 3) :: S) M N P Q := wp_getfield rfl dX4_refuse_27 rfl rfl hs rfl
theorem sX4_refuse_30 : Wp mX4_refuse d 30 L (.int z :: .int x :: S) M N P Q = (if z ≤ x then Wp mX4_refuse d 48 L S M N P Q else Wp mX4_refuse d 33 L S M N P Q) := wp_icmp_ge rfl dX4_refuse_30 rfl
theorem sX4_refuse_33 : Wp mX4_refuse d 33 (.ref r :: L) S M N P Q = Wp mX4_refuse d 34 (.ref r :: L) (.ref r :: S) M N P Q := wp_aload_n rfl dX4_refuse_33 rfl
theorem sX4_refuse_34 (hs : shk r = (4, 0)) : Wp mX4_refuse d 34 L (.ref r :: S) M N P Q = Wp mX4_refuse d 37 L (.ref (P r 0) :: S) M N P Q := wp_getfield rfl dX4_refuse_34 rfl rfl hs rfl
theorem sX4_refuse_37 (hs : shk r = (9, 0)) : Wp mX4_refuse d 37 L (.ref r :: S) M N P Q = Wp mX4_refuse d 40 L (.ref (P r 1) :: S) M N P Q := wp_getfield rfl dX4_refuse_37 rfl rfl hs rfl
theorem sX4_refuse_40 : Wp mX4_refuse d 40 (.ref r :: L) S M N P Q = Wp mX4_refuse d 41 (.ref r :: L) (.ref r :: S) M N P Q := wp_aload_n rfl dX4_refuse_40 rfl
theorem sX4_refuse_41 (hs : shk r = (4, 0)) : Wp mX4_refuse d 41 L (.ref r :: S) M N P Q = Wp mX4_refuse d 44 L (.int (M r 4) :: S) M N P Q := wp_getfield rfl dX4_refuse_41 rfl rfl hs rfl
theorem sX4_refuse_44 (hs : (shk r).1 = 103) : Wp mX4_refuse d 44 L (.int j :: .ref r :: S) M N P Q = (vp_in j (shk r).2 ∧ Wp mX4_refuse d 45 L (.int (M r j.toNatClampNeg) :: S) M N P Q) := wp_saload rfl dX4_refuse_44 (kd hs)
theorem sX4_refuse_45 : Wp mX4_refuse d 45 L S M N P Q = Wp mX4_refuse d 49 L S M N P Q := wp_goto rfl dX4_refuse_45 rfl
theorem sX4_refuse_48 : Wp mX4_refuse d 48 L S M N P Q = Wp mX4_refuse d 49 L (.int (-1) :: S) M N P Q := wp_iconst rfl dX4_refuse_48 rfl
theorem sX4_refuse_49 (hs : shk r = (4, 0)) : Wp mX4_refuse d 49 L (.int x :: .ref r :: S) M N P Q = Wp mX4_refuse d 52 L S (up2 M r 3 x) N P Q := wp_putI rfl dX4_refuse_49 rfl rfl hs rfl ⟨_, _, _, _, rfl, by decide, rfl, tyX4_ok 3 (by decide), rfl, rfl⟩
theorem sX4_refuse_52 : Wp mX4_refuse d 52 L S M N P Q = Wp mX4_refuse d 53 L (.int 0 :: S) M N P Q := wp_iconst rfl dX4_refuse_52 rfl
theorem sX4_refuse_53 (hb : bit x) : Wp mX4_refuse d 53 L [.int x] M N P Q = Q (some (.int x)) M N P := wp_iret rfl dX4_refuse_53 rfl (bit_n hb)
theorem sX4_parseLine_0 : Wp mX4_parseLine d 0 (.ref r :: L) S M N P Q = Wp mX4_parseLine d 1 (.ref r :: L) (.ref r :: S) M N P Q := wp_aload_n rfl dX4_parseLine_0 rfl
theorem sX4_parseLine_1 : Wp mX4_parseLine d 1 L S M N P Q = Wp mX4_parseLine d 3 L (.int 9 :: S) M N P Q := wp_bipush rfl dX4_parseLine_1 rfl
theorem sX4_parseLine_3 {x0 : Int32} (hs : shk r = (4, 0)) (hS : stk S ≤ 8) : Wp mX4_parseLine (d + 1) 3 L (.int x0 :: .ref r :: S) M N P Q = Wp mX4_take d 0 [.ref r, .int x0] [] M N P (fun v M' N' P' => Wp mX4_parseLine (d + 1) 6 L (v.toList ++ S) M' N' P' Q) := wp_callV (As := [.int x0]) rfl dX4_parseLine_3 rfl rfl (Or.inl ⟨_, _, _, hs, rfl⟩) rfl ⟨rfl, Nat.le_of_ble_eq_true rfl, Nat.le_of_ble_eq_true rfl⟩ rfl hS
theorem sX4_parseLine_6 : Wp mX4_parseLine d 6 L (.int x :: S) M N P Q = (if x = 0 then Wp mX4_parseLine d 46 L S M N P Q else Wp mX4_parseLine d 9 L S M N P Q) := wp_if_eq rfl dX4_parseLine_6 rfl
theorem sX4_parseLine_9 : Wp mX4_parseLine d 9 (.ref r :: L) S M N P Q = Wp mX4_parseLine d 10 (.ref r :: L) (.ref r :: S) M N P Q := wp_aload_n rfl dX4_parseLine_9 rfl
theorem sX4_parseLine_10 : Wp mX4_parseLine d 10 L S M N P Q = Wp mX4_parseLine d 11 L (.int 0 :: S) M N P Q := wp_iconst rfl dX4_parseLine_10 rfl
theorem sX4_parseLine_11 {x0 : Int32} (hs : shk r = (4, 0)) (hS : stk S ≤ 8) : Wp mX4_parseLine (d + 1) 11 L (.int x0 :: .ref r :: S) M N P Q = Wp mX4_parseEither d 0 [.ref r, .int x0, .float 0] [] M N P (fun v M' N' P' => Wp mX4_parseLine (d + 1) 14 L (v.toList ++ S) M' N' P' Q) := wp_callV (As := [.int x0]) rfl dX4_parseLine_11 rfl rfl (Or.inl ⟨_, _, _, hs, rfl⟩) rfl ⟨rfl, Nat.le_of_ble_eq_true rfl, Nat.le_of_ble_eq_true rfl⟩ rfl hS
theorem sX4_parseLine_14 : Wp mX4_parseLine d 14 L (.int x :: S) M N P Q = (if x = 0 then Wp mX4_parseLine d 46 L S M N P Q else Wp mX4_parseLine d 17 L S M N P Q) := wp_if_eq rfl dX4_parseLine_14 rfl
theorem sX4_parseLine_17 : Wp mX4_parseLine d 17 (.ref r :: L) S M N P Q = Wp mX4_parseLine d 18 (.ref r :: L) (.ref r :: S) M N P Q := wp_aload_n rfl dX4_parseLine_17 rfl
theorem sX4_parseLine_18 : Wp mX4_parseLine d 18 L S M N P Q = Wp mX4_parseLine d 20 L (.int 10 :: S) M N P Q := wp_bipush rfl dX4_parseLine_18 rfl
theorem sX4_parseLine_20 {x0 : Int32} (hs : shk r = (4, 0)) (hS : stk S ≤ 8) : Wp mX4_parseLine (d + 1) 20 L (.int x0 :: .ref r :: S) M N P Q = Wp mX4_take d 0 [.ref r, .int x0] [] M N P (fun v M' N' P' => Wp mX4_parseLine (d + 1) 23 L (v.toList ++ S) M' N' P' Q) := wp_callV (As := [.int x0]) rfl dX4_parseLine_20 rfl rfl (Or.inl ⟨_, _, _, hs, rfl⟩) rfl ⟨rfl, Nat.le_of_ble_eq_true rfl, Nat.le_of_ble_eq_true rfl⟩ rfl hS
theorem sX4_parseLine_23 : Wp mX4_parseLine d 23 L (.int x :: S) M N P Q = (if x = 0 then Wp mX4_parseLine d 46 L S M N P Q else Wp mX4_parseLine d 26 L S M N P Q) := wp_if_eq rfl dX4_parseLine_23 rfl
theorem sX4_parseLine_26 : Wp mX4_parseLine d 26 (.ref r :: L) S M N P Q = Wp mX4_parseLine d 27 (.ref r :: L) (.ref r :: S) M N P Q := wp_aload_n rfl dX4_parseLine_26 rfl
theorem sX4_parseLine_27 (hs : shk r = (4, 0)) (hS : stk S ≤ 8) : Wp mX4_parseLine (d + 1) 27 L (.ref r :: S) M N P Q = Wp mX4_parseRuling d 0 [.ref r, .float 0] [] M N P (fun v M' N' P' => Wp mX4_parseLine (d + 1) 30 L (v.toList ++ S) M' N' P' Q) := wp_callV (As := []) rfl dX4_parseLine_27 rfl rfl (Or.inl ⟨_, _, _, hs, rfl⟩) rfl ⟨rfl, Nat.le_of_ble_eq_true rfl, Nat.le_of_ble_eq_true rfl⟩ rfl hS
theorem sX4_parseLine_30 : Wp mX4_parseLine d 30 L (.int x :: S) M N P Q = (if x = 0 then Wp mX4_parseLine d 46 L S M N P Q else Wp mX4_parseLine d 33 L S M N P Q) := wp_if_eq rfl dX4_parseLine_30 rfl
theorem sX4_parseLine_33 : Wp mX4_parseLine d 33 (.ref r :: L) S M N P Q = Wp mX4_parseLine d 34 (.ref r :: L) (.ref r :: S) M N P Q := wp_aload_n rfl dX4_parseLine_33 rfl
theorem sX4_parseLine_34 : Wp mX4_parseLine d 34 L S M N P Q = Wp mX4_parseLine d 36 L (.int 22 :: S) M N P Q := wp_bipush rfl dX4_parseLine_34 rfl
theorem sX4_parseLine_36 {x0 : Int32} (hs : shk r = (4, 0)) (hS : stk S ≤ 8) : Wp mX4_parseLine (d + 1) 36 L (.int x0 :: .ref r :: S) M N P Q = Wp mX4_take d 0 [.ref r, .int x0] [] M N P (fun v M' N' P' => Wp mX4_parseLine (d + 1) 39 L (v.toList ++ S) M' N' P' Q) := wp_callV (As := [.int x0]) rfl dX4_parseLine_36 rfl rfl (Or.inl ⟨_, _, _, hs, rfl⟩) rfl ⟨rfl, Nat.le_of_ble_eq_true rfl, Nat.le_of_ble_eq_true rfl⟩ rfl hS
theorem sX4_parseLine_39 : Wp mX4_parseLine d 39 L (.int x :: S) M N P Q = (if x = 0 then Wp mX4_parseLine d 46 L S M N P Q else Wp mX4_parseLine d 42 L S M N P Q) := wp_if_eq rfl dX4_parseLine_39 rfl
theorem sX4_parseLine_42 : Wp mX4_parseLine d 42 L S M N P Q = Wp mX4_parseLine d 43 L (.int 1 :: S) M N P Q := wp_iconst rfl dX4_parseLine_42 rfl
theorem sX4_parseLine_43 : Wp mX4_parseLine d 43 L S M N P Q = Wp mX4_parseLine d 47 L S M N P Q := wp_goto rfl dX4_parseLine_43 rfl
theorem sX4_parseLine_46 : Wp mX4_parseLine d 46 L S M N P Q = Wp mX4_parseLine d 47 L (.int 0 :: S) M N P Q := wp_iconst rfl dX4_parseLine_46 rfl
theorem sX4_parseLine_47 (hb : bit x) : Wp mX4_parseLine d 47 L [.int x] M N P Q = Q (some (.int x)) M N P := wp_iret rfl dX4_parseLine_47 rfl (bit_n hb)
theorem sX4_parseRuling_0 : Wp mX4_parseRuling d 0 (.ref r :: L) S M N P Q = Wp mX4_parseRuling d 1 (.ref r :: L) (.ref r :: S) M N P Q := wp_aload_n rfl dX4_parseRuling_0 rfl
theorem sX4_parseRuling_1 (hs : shk r = (4, 0)) : Wp mX4_parseRuling d 1 L (.ref r :: S) M N P Q = Wp mX4_parseRuling d 4 L (.int (M r 5) :: S) M N P Q := wp_getfield rfl dX4_parseRuling_1 rfl rfl hs rfl
theorem sX4_parseRuling_4 : Wp mX4_parseRuling d 4 L S M N P Q = Wp mX4_parseRuling d 6 L (.int 11 :: S) M N P Q := wp_bipush rfl dX4_parseRuling_4 rfl
theorem sX4_parseRuling_6 : Wp mX4_parseRuling d 6 L (.int z :: .int x :: S) M N P Q = (if x < z then Wp mX4_parseRuling d 18 L S M N P Q else Wp mX4_parseRuling d 9 L S M N P Q) := wp_icmp_lt rfl dX4_parseRuling_6 rfl
theorem sX4_parseRuling_9 : Wp mX4_parseRuling d 9 (.ref r :: L) S M N P Q = Wp mX4_parseRuling d 10 (.ref r :: L) (.ref r :: S) M N P Q := wp_aload_n rfl dX4_parseRuling_9 rfl
theorem sX4_parseRuling_10 (hs : shk r = (4, 0)) : Wp mX4_parseRuling d 10 L (.ref r :: S) M N P Q = Wp mX4_parseRuling d 13 L (.int (M r 5) :: S) M N P Q := wp_getfield rfl dX4_parseRuling_10 rfl rfl hs rfl
theorem sX4_parseRuling_13 : Wp mX4_parseRuling d 13 L S M N P Q = Wp mX4_parseRuling d 15 L (.int 14 :: S) M N P Q := wp_bipush rfl dX4_parseRuling_13 rfl
theorem sX4_parseRuling_15 : Wp mX4_parseRuling d 15 L (.int z :: .int x :: S) M N P Q = (if x ≤ z then Wp mX4_parseRuling d 23 L S M N P Q else Wp mX4_parseRuling d 18 L S M N P Q) := wp_icmp_le rfl dX4_parseRuling_15 rfl
theorem sX4_parseRuling_18 : Wp mX4_parseRuling d 18 (.ref r :: L) S M N P Q = Wp mX4_parseRuling d 19 (.ref r :: L) (.ref r :: S) M N P Q := wp_aload_n rfl dX4_parseRuling_18 rfl
theorem sX4_parseRuling_19 (hs : shk r = (4, 0)) (hS : stk S ≤ 8) : Wp mX4_parseRuling (d + 1) 19 L (.ref r :: S) M N P Q = Wp mX4_refuse d 0 [.ref r] [] M N P (fun v M' N' P' => Wp mX4_parseRuling (d + 1) 22 L (v.toList ++ S) M' N' P' Q) := wp_callV (As := []) rfl dX4_parseRuling_19 rfl rfl (Or.inl ⟨_, _, _, hs, rfl⟩) rfl ⟨rfl, Nat.le_of_ble_eq_true rfl, Nat.le_of_ble_eq_true rfl⟩ rfl hS
theorem sX4_parseRuling_22 (hb : bit x) : Wp mX4_parseRuling d 22 L [.int x] M N P Q = Q (some (.int x)) M N P := wp_iret rfl dX4_parseRuling_22 rfl (bit_n hb)
theorem sX4_parseRuling_23 : Wp mX4_parseRuling d 23 (.ref r :: L) S M N P Q = Wp mX4_parseRuling d 24 (.ref r :: L) (.ref r :: S) M N P Q := wp_aload_n rfl dX4_parseRuling_23 rfl
theorem sX4_parseRuling_24 (hs : shk r = (4, 0)) : Wp mX4_parseRuling d 24 L (.ref r :: S) M N P Q = Wp mX4_parseRuling d 27 L (.int (M r 5) :: S) M N P Q := wp_getfield rfl dX4_parseRuling_24 rfl rfl hs rfl
theorem sX4_parseRuling_27 : Wp mX4_parseRuling d 27 L S M N P Q = Wp mX4_parseRuling d 29 L (.int 11 :: S) M N P Q := wp_bipush rfl dX4_parseRuling_27 rfl
theorem sX4_parseRuling_29 : Wp mX4_parseRuling d 29 L (.int z :: .int x :: S) M N P Q = Wp mX4_parseRuling d 30 L (.int (x - z) :: S) M N P Q := wp_isub rfl dX4_parseRuling_29
theorem sX4_parseRuling_30 : Wp mX4_parseRuling d 30 L S M N P Q = Wp mX4_parseRuling d 31 L (.int 1 :: S) M N P Q := wp_iconst rfl dX4_parseRuling_30 rfl
theorem sX4_parseRuling_31 : Wp mX4_parseRuling d 31 L (.int z :: .int x :: S) M N P Q = Wp mX4_parseRuling d 32 L (.int (x + z) :: S) M N P Q := wp_iadd rfl dX4_parseRuling_31
theorem sX4_parseRuling_32 (hn : nl a0 = true) : Wp mX4_parseRuling d 32 (a0 :: a1 :: L) (.int x :: S) M N P Q = Wp mX4_parseRuling d 33 (a0 :: .int x :: L) S M N P Q := wp_istore_n rfl dX4_parseRuling_32 (lenGt1 ..) (okst1 hn) rfl
theorem sX4_parseRuling_33 : Wp mX4_parseRuling d 33 (.ref r :: L) S M N P Q = Wp mX4_parseRuling d 34 (.ref r :: L) (.ref r :: S) M N P Q := wp_aload_n rfl dX4_parseRuling_33 rfl
theorem sX4_parseRuling_34 : Wp mX4_parseRuling d 34 (.ref r :: L) S M N P Q = Wp mX4_parseRuling d 35 (.ref r :: L) (.ref r :: S) M N P Q := wp_aload_n rfl dX4_parseRuling_34 rfl
theorem sX4_parseRuling_35 (hs : shk r = (4, 0)) : Wp mX4_parseRuling d 35 L (.ref r :: S) M N P Q = Wp mX4_parseRuling d 38 L (.int (M r 4) :: S) M N P Q := wp_getfield rfl dX4_parseRuling_35 rfl rfl hs rfl
theorem sX4_parseRuling_38 : Wp mX4_parseRuling d 38 L S M N P Q = Wp mX4_parseRuling d 39 L (.int 1 :: S) M N P Q := wp_iconst rfl dX4_parseRuling_38 rfl
theorem sX4_parseRuling_39 : Wp mX4_parseRuling d 39 L (.int z :: .int x :: S) M N P Q = Wp mX4_parseRuling d 40 L (.int (x + z) :: S) M N P Q := wp_iadd rfl dX4_parseRuling_39
theorem sX4_parseRuling_40 {x0 : Int32} (hs : shk r = (4, 0)) (hS : stk S ≤ 8) : Wp mX4_parseRuling (d + 1) 40 L (.int x0 :: .ref r :: S) M N P Q = Wp mX4_moveTo d 0 [.ref r, .int x0, .float 0] [] M N P (fun v M' N' P' => Wp mX4_parseRuling (d + 1) 43 L (v.toList ++ S) M' N' P' Q) := wp_callV (As := [.int x0]) rfl dX4_parseRuling_40 rfl rfl (Or.inl ⟨_, _, _, hs, rfl⟩) rfl ⟨rfl, Nat.le_of_ble_eq_true rfl, Nat.le_of_ble_eq_true rfl⟩ rfl hS
theorem sX4_parseRuling_43 : Wp mX4_parseRuling d 43 (a0 :: .int x :: L) S M N P Q = Wp mX4_parseRuling d 44 (a0 :: .int x :: L) (.int x :: S) M N P Q := wp_iload_n rfl dX4_parseRuling_43 rfl
theorem sX4_parseRuling_44 : Wp mX4_parseRuling d 44 L S M N P Q = Wp mX4_parseRuling d 45 L (.int 3 :: S) M N P Q := wp_iconst rfl dX4_parseRuling_44 rfl
theorem sX4_parseRuling_45 : Wp mX4_parseRuling d 45 L (.int z :: .int x :: S) M N P Q = (if x = z then Wp mX4_parseRuling d 59 L S M N P Q else Wp mX4_parseRuling d 48 L S M N P Q) := wp_icmp_eq rfl dX4_parseRuling_45 rfl
theorem sX4_parseRuling_48 : Wp mX4_parseRuling d 48 (.ref r :: L) S M N P Q = Wp mX4_parseRuling d 49 (.ref r :: L) (.ref r :: S) M N P Q := wp_aload_n rfl dX4_parseRuling_48 rfl
theorem sX4_parseRuling_49 (hs : shk r = (4, 0)) : Wp mX4_parseRuling d 49 L (.ref r :: S) M N P Q = Wp mX4_parseRuling d 52 L (.ref (P r 1) :: S) M N P Q := wp_getfield rfl dX4_parseRuling_49 rfl rfl hs rfl
theorem sX4_parseRuling_52 : Wp mX4_parseRuling d 52 (a0 :: .int x :: L) S M N P Q = Wp mX4_parseRuling d 53 (a0 :: .int x :: L) (.int x :: S) M N P Q := wp_iload_n rfl dX4_parseRuling_52 rfl
theorem sX4_parseRuling_53 : Wp mX4_parseRuling d 53 L S M N P Q = Wp mX4_parseRuling d 54 L (.int 0 :: S) M N P Q := wp_iconst rfl dX4_parseRuling_53 rfl
theorem sX4_parseRuling_54 {x0 : Int32} {x1 : Int32} (hs : shk r = (2, 0)) (hS : stk S ≤ 8) : Wp mX4_parseRuling (d + 1) 54 L (.int x1 :: .int x0 :: .ref r :: S) M N P Q = Wp mX2_closeLine d 0 [.ref r, .int x0, .int x1] [] M N P (fun v M' N' P' => Wp mX4_parseRuling (d + 1) 57 L (v.toList ++ S) M' N' P' Q) := wp_callV (As := [.int x0, .int x1]) rfl dX4_parseRuling_54 rfl rfl (Or.inl ⟨_, _, _, hs, rfl⟩) rfl ⟨rfl, Nat.le_of_ble_eq_true rfl, Nat.le_of_ble_eq_true rfl⟩ rfl hS
theorem sX4_parseRuling_57 : Wp mX4_parseRuling d 57 L S M N P Q = Wp mX4_parseRuling d 58 L (.int 1 :: S) M N P Q := wp_iconst rfl dX4_parseRuling_57 rfl
theorem sX4_parseRuling_58 (hb : bit x) : Wp mX4_parseRuling d 58 L [.int x] M N P Q = Q (some (.int x)) M N P := wp_iret rfl dX4_parseRuling_58 rfl (bit_n hb)
theorem sX4_parseRuling_59 : Wp mX4_parseRuling d 59 (.ref r :: L) S M N P Q = Wp mX4_parseRuling d 60 (.ref r :: L) (.ref r :: S) M N P Q := wp_aload_n rfl dX4_parseRuling_59 rfl
theorem sX4_parseRuling_60 (hs : shk r = (4, 0)) : Wp mX4_parseRuling d 60 L (.ref r :: S) M N P Q = Wp mX4_parseRuling d 63 L (.int (M r 5) :: S) M N P Q := wp_getfield rfl dX4_parseRuling_60 rfl rfl hs rfl
theorem sX4_parseRuling_63 : Wp mX4_parseRuling d 63 L S M N P Q = Wp mX4_parseRuling d 65 L (.int 19 :: S) M N P Q := wp_bipush rfl dX4_parseRuling_63 rfl
theorem sX4_parseRuling_65 : Wp mX4_parseRuling d 65 L (.int z :: .int x :: S) M N P Q = (if x = z then Wp mX4_parseRuling d 68 L S M N P Q else Wp mX4_parseRuling d 89 L S M N P Q) := wp_icmp_ne rfl dX4_parseRuling_65 rfl
theorem sX4_parseRuling_68 : Wp mX4_parseRuling d 68 (.ref r :: L) S M N P Q = Wp mX4_parseRuling d 69 (.ref r :: L) (.ref r :: S) M N P Q := wp_aload_n rfl dX4_parseRuling_68 rfl
theorem sX4_parseRuling_69 (hs : shk r = (4, 0)) : Wp mX4_parseRuling d 69 L (.ref r :: S) M N P Q = Wp mX4_parseRuling d 72 L (.int (M r 6) :: S) M N P Q := wp_getfield rfl dX4_parseRuling_69 rfl rfl hs rfl
theorem sX4_parseRuling_72 : Wp mX4_parseRuling d 72 L S M N P Q = Wp mX4_parseRuling d 74 L (.int 100 :: S) M N P Q := wp_bipush rfl dX4_parseRuling_72 rfl
theorem sX4_parseRuling_74 : Wp mX4_parseRuling d 74 L (.int z :: .int x :: S) M N P Q = (if x ≤ z then Wp mX4_parseRuling d 89 L S M N P Q else Wp mX4_parseRuling d 77 L S M N P Q) := wp_icmp_le rfl dX4_parseRuling_74 rfl
theorem sX4_parseRuling_77 : Wp mX4_parseRuling d 77 (.ref r :: L) S M N P Q = Wp mX4_parseRuling d 78 (.ref r :: L) (.ref r :: S) M N P Q := wp_aload_n rfl dX4_parseRuling_77 rfl
theorem sX4_parseRuling_78 (hs : shk r = (4, 0)) (hS : stk S ≤ 8) : Wp mX4_parseRuling (d + 1) 78 L (.ref r :: S) M N P Q = Wp mX4_refuse d 0 [.ref r] [] M N P (fun v M' N' P' => Wp mX4_parseRuling (d + 1) 81 L (v.toList ++ S) M' N' P' Q) := wp_callV (As := []) rfl dX4_parseRuling_78 rfl rfl (Or.inl ⟨_, _, _, hs, rfl⟩) rfl ⟨rfl, Nat.le_of_ble_eq_true rfl, Nat.le_of_ble_eq_true rfl⟩ rfl hS
theorem sX4_parseRuling_81 (hv : a0.category = 1) : Wp mX4_parseRuling d 81 L (a0 :: S) M N P Q = Wp mX4_parseRuling d 82 L S M N P Q := wp_pop rfl dX4_parseRuling_81 hv
theorem sX4_parseRuling_82 : Wp mX4_parseRuling d 82 (.ref r :: L) S M N P Q = Wp mX4_parseRuling d 83 (.ref r :: L) (.ref r :: S) M N P Q := wp_aload_n rfl dX4_parseRuling_82 rfl
theorem sX4_parseRuling_83 : Wp mX4_parseRuling d 83 L S M N P Q = Wp mX4_parseRuling d 84 L (.int 3 :: S) M N P Q := wp_iconst rfl dX4_parseRuling_83 rfl
theorem sX4_parseRuling_84 (hs : shk r = (4, 0)) : Wp mX4_parseRuling d 84 L (.int x :: .ref r :: S) M N P Q = Wp mX4_parseRuling d 87 L S (up2 M r 2 x) N P Q := wp_putI rfl dX4_parseRuling_84 rfl rfl hs rfl ⟨_, _, _, _, rfl, by decide, rfl, tyX4_ok 2 (by decide), rfl, rfl⟩
theorem sX4_parseRuling_87 : Wp mX4_parseRuling d 87 L S M N P Q = Wp mX4_parseRuling d 88 L (.int 0 :: S) M N P Q := wp_iconst rfl dX4_parseRuling_87 rfl
theorem sX4_parseRuling_88 (hb : bit x) : Wp mX4_parseRuling d 88 L [.int x] M N P Q = Q (some (.int x)) M N P := wp_iret rfl dX4_parseRuling_88 rfl (bit_n hb)
theorem sX4_parseRuling_89 : Wp mX4_parseRuling d 89 (.ref r :: L) S M N P Q = Wp mX4_parseRuling d 90 (.ref r :: L) (.ref r :: S) M N P Q := wp_aload_n rfl dX4_parseRuling_89 rfl
theorem sX4_parseRuling_90 (hs : shk r = (4, 0)) : Wp mX4_parseRuling d 90 L (.ref r :: S) M N P Q = Wp mX4_parseRuling d 93 L (.ref (P r 1) :: S) M N P Q := wp_getfield rfl dX4_parseRuling_90 rfl rfl hs rfl
theorem sX4_parseRuling_93 : Wp mX4_parseRuling d 93 (a0 :: .int x :: L) S M N P Q = Wp mX4_parseRuling d 94 (a0 :: .int x :: L) (.int x :: S) M N P Q := wp_iload_n rfl dX4_parseRuling_93 rfl
theorem sX4_parseRuling_94 : Wp mX4_parseRuling d 94 (.ref r :: L) S M N P Q = Wp mX4_parseRuling d 95 (.ref r :: L) (.ref r :: S) M N P Q := wp_aload_n rfl dX4_parseRuling_94 rfl
theorem sX4_parseRuling_95 (hs : shk r = (4, 0)) : Wp mX4_parseRuling d 95 L (.ref r :: S) M N P Q = Wp mX4_parseRuling d 98 L (.int (M r 6) :: S) M N P Q := wp_getfield rfl dX4_parseRuling_95 rfl rfl hs rfl
theorem sX4_parseRuling_98 {x0 : Int32} {x1 : Int32} (hs : shk r = (2, 0)) (hS : stk S ≤ 8) : Wp mX4_parseRuling (d + 1) 98 L (.int x1 :: .int x0 :: .ref r :: S) M N P Q = Wp mX2_closeLine d 0 [.ref r, .int x0, .int x1] [] M N P (fun v M' N' P' => Wp mX4_parseRuling (d + 1) 101 L (v.toList ++ S) M' N' P' Q) := wp_callV (As := [.int x0, .int x1]) rfl dX4_parseRuling_98 rfl rfl (Or.inl ⟨_, _, _, hs, rfl⟩) rfl ⟨rfl, Nat.le_of_ble_eq_true rfl, Nat.le_of_ble_eq_true rfl⟩ rfl hS
theorem sX4_parseRuling_101 : Wp mX4_parseRuling d 101 (.ref r :: L) S M N P Q = Wp mX4_parseRuling d 102 (.ref r :: L) (.ref r :: S) M N P Q := wp_aload_n rfl dX4_parseRuling_101 rfl
theorem sX4_parseRuling_102 : Wp mX4_parseRuling d 102 L S M N P Q = Wp mX4_parseRuling d 104 L (.int 19 :: S) M N P Q := wp_bipush rfl dX4_parseRuling_102 rfl
theorem sX4_parseRuling_104 {x0 : Int32} (hs : shk r = (4, 0)) (hS : stk S ≤ 8) : Wp mX4_parseRuling (d + 1) 104 L (.int x0 :: .ref r :: S) M N P Q = Wp mX4_take d 0 [.ref r, .int x0] [] M N P (fun v M' N' P' => Wp mX4_parseRuling (d + 1) 107 L (v.toList ++ S) M' N' P' Q) := wp_callV (As := [.int x0]) rfl dX4_parseRuling_104 rfl rfl (Or.inl ⟨_, _, _, hs, rfl⟩) rfl ⟨rfl, Nat.le_of_ble_eq_true rfl, Nat.le_of_ble_eq_true rfl⟩ rfl hS
theorem sX4_parseRuling_107 (hb : bit x) : Wp mX4_parseRuling d 107 L [.int x] M N P Q = Q (some (.int x)) M N P := wp_iret rfl dX4_parseRuling_107 rfl (bit_n hb)
theorem sX4_parseEither_0 : Wp mX4_parseEither d 0 (.ref r :: L) S M N P Q = Wp mX4_parseEither d 1 (.ref r :: L) (.ref r :: S) M N P Q := wp_aload_n rfl dX4_parseEither_0 rfl
theorem sX4_parseEither_1 : Wp mX4_parseEither d 1 (a0 :: .int x :: L) S M N P Q = Wp mX4_parseEither d 2 (a0 :: .int x :: L) (.int x :: S) M N P Q := wp_iload_n rfl dX4_parseEither_1 rfl
theorem sX4_parseEither_2 {x0 : Int32} (hs : shk r = (4, 0)) (hS : stk S ≤ 8) : Wp mX4_parseEither (d + 1) 2 L (.int x0 :: .ref r :: S) M N P Q = Wp mX4_parseBoth d 0 [.ref r, .int x0, .float 0] [] M N P (fun v M' N' P' => Wp mX4_parseEither (d + 1) 5 L (v.toList ++ S) M' N' P' Q) := wp_callV (As := [.int x0]) rfl dX4_parseEither_2 rfl rfl (Or.inl ⟨_, _, _, hs, rfl⟩) rfl ⟨rfl, Nat.le_of_ble_eq_true rfl, Nat.le_of_ble_eq_true rfl⟩ rfl hS
theorem sX4_parseEither_5 : Wp mX4_parseEither d 5 L (.int x :: S) M N P Q = (if x = 0 then Wp mX4_parseEither d 8 L S M N P Q else Wp mX4_parseEither d 10 L S M N P Q) := wp_if_ne rfl dX4_parseEither_5 rfl
theorem sX4_parseEither_8 : Wp mX4_parseEither d 8 L S M N P Q = Wp mX4_parseEither d 9 L (.int 0 :: S) M N P Q := wp_iconst rfl dX4_parseEither_8 rfl
theorem sX4_parseEither_9 (hb : bit x) : Wp mX4_parseEither d 9 L [.int x] M N P Q = Q (some (.int x)) M N P := wp_iret rfl dX4_parseEither_9 rfl (bit_n hb)
theorem sX4_parseEither_10 : Wp mX4_parseEither d 10 L S M N P Q = Wp mX4_parseEither d 11 L (.int 0 :: S) M N P Q := wp_iconst rfl dX4_parseEither_10 rfl
theorem sX4_parseEither_11 (hn : nl a1 = true) : Wp mX4_parseEither d 11 (a0 :: a1 :: a2 :: L) (.int x :: S) M N P Q = Wp mX4_parseEither d 12 (a0 :: a1 :: .int x :: L) S M N P Q := wp_istore_n rfl dX4_parseEither_11 (lenGt2 ..) (okst2 hn) rfl
theorem sX4_parseEither_12 : Wp mX4_parseEither d 12 (a0 :: a1 :: .int x :: L) S M N P Q = Wp mX4_parseEither d 13 (a0 :: a1 :: .int x :: L) (.int x :: S) M N P Q := wp_iload_n rfl dX4_parseEither_12 rfl
theorem sX4_parseEither_13 : Wp mX4_parseEither d 13 L S M N P Q = Wp mX4_parseEither d 15 L (.int 80 :: S) M N P Q := wp_bipush rfl dX4_parseEither_13 rfl
theorem sX4_parseEither_15 : Wp mX4_parseEither d 15 L (.int z :: .int x :: S) M N P Q = (if z ≤ x then Wp mX4_parseEither d 62 L S M N P Q else Wp mX4_parseEither d 18 L S M N P Q) := wp_icmp_ge rfl dX4_parseEither_15 rfl
theorem sX4_parseEither_18 : Wp mX4_parseEither d 18 (.ref r :: L) S M N P Q = Wp mX4_parseEither d 19 (.ref r :: L) (.ref r :: S) M N P Q := wp_aload_n rfl dX4_parseEither_18 rfl
theorem sX4_parseEither_19 (hs : shk r = (4, 0)) : Wp mX4_parseEither d 19 L (.ref r :: S) M N P Q = Wp mX4_parseEither d 22 L (.int (M r 5) :: S) M N P Q := wp_getfield rfl dX4_parseEither_19 rfl rfl hs rfl
theorem sX4_parseEither_22 : Wp mX4_parseEither d 22 L S M N P Q = Wp mX4_parseEither d 24 L (.int 15 :: S) M N P Q := wp_bipush rfl dX4_parseEither_22 rfl
theorem sX4_parseEither_24 : Wp mX4_parseEither d 24 L (.int z :: .int x :: S) M N P Q = (if x = z then Wp mX4_parseEither d 27 L S M N P Q else Wp mX4_parseEither d 62 L S M N P Q) := wp_icmp_ne rfl dX4_parseEither_24 rfl
theorem sX4_parseEither_27 : Wp mX4_parseEither d 27 (.ref r :: L) S M N P Q = Wp mX4_parseEither d 28 (.ref r :: L) (.ref r :: S) M N P Q := wp_aload_n rfl dX4_parseEither_27 rfl
theorem sX4_parseEither_28 : Wp mX4_parseEither d 28 (.ref r :: L) S M N P Q = Wp mX4_parseEither d 29 (.ref r :: L) (.ref r :: S) M N P Q := wp_aload_n rfl dX4_parseEither_28 rfl
theorem sX4_parseEither_29 (hs : shk r = (4, 0)) : Wp mX4_parseEither d 29 L (.ref r :: S) M N P Q = Wp mX4_parseEither d 32 L (.int (M r 4) :: S) M N P Q := wp_getfield rfl dX4_parseEither_29 rfl rfl hs rfl
theorem sX4_parseEither_32 : Wp mX4_parseEither d 32 L S M N P Q = Wp mX4_parseEither d 33 L (.int 1 :: S) M N P Q := wp_iconst rfl dX4_parseEither_32 rfl
theorem sX4_parseEither_33 : Wp mX4_parseEither d 33 L (.int z :: .int x :: S) M N P Q = Wp mX4_parseEither d 34 L (.int (x + z) :: S) M N P Q := wp_iadd rfl dX4_parseEither_33
theorem sX4_parseEither_34 {x0 : Int32} (hs : shk r = (4, 0)) (hS : stk S ≤ 8) : Wp mX4_parseEither (d + 1) 34 L (.int x0 :: .ref r :: S) M N P Q = Wp mX4_moveTo d 0 [.ref r, .int x0, .float 0] [] M N P (fun v M' N' P' => Wp mX4_parseEither (d + 1) 37 L (v.toList ++ S) M' N' P' Q) := wp_callV (As := [.int x0]) rfl dX4_parseEither_34 rfl rfl (Or.inl ⟨_, _, _, hs, rfl⟩) rfl ⟨rfl, Nat.le_of_ble_eq_true rfl, Nat.le_of_ble_eq_true rfl⟩ rfl hS
theorem sX4_parseEither_37 : Wp mX4_parseEither d 37 (.ref r :: L) S M N P Q = Wp mX4_parseEither d 38 (.ref r :: L) (.ref r :: S) M N P Q := wp_aload_n rfl dX4_parseEither_37 rfl
theorem sX4_parseEither_38 : Wp mX4_parseEither d 38 (a0 :: .int x :: L) S M N P Q = Wp mX4_parseEither d 39 (a0 :: .int x :: L) (.int x :: S) M N P Q := wp_iload_n rfl dX4_parseEither_38 rfl
theorem sX4_parseEither_39 {x0 : Int32} (hs : shk r = (4, 0)) (hS : stk S ≤ 8) : Wp mX4_parseEither (d + 1) 39 L (.int x0 :: .ref r :: S) M N P Q = Wp mX4_parseBoth d 0 [.ref r, .int x0, .float 0] [] M N P (fun v M' N' P' => Wp mX4_parseEither (d + 1) 42 L (v.toList ++ S) M' N' P' Q) := wp_callV (As := [.int x0]) rfl dX4_parseEither_39 rfl rfl (Or.inl ⟨_, _, _, hs, rfl⟩) rfl ⟨rfl, Nat.le_of_ble_eq_true rfl, Nat.le_of_ble_eq_true rfl⟩ rfl hS
theorem sX4_parseEither_42 : Wp mX4_parseEither d 42 L (.int x :: S) M N P Q = (if x = 0 then Wp mX4_parseEither d 45 L S M N P Q else Wp mX4_parseEither d 47 L S M N P Q) := wp_if_ne rfl dX4_parseEither_42 rfl
theorem sX4_parseEither_45 : Wp mX4_parseEither d 45 L S M N P Q = Wp mX4_parseEither d 46 L (.int 0 :: S) M N P Q := wp_iconst rfl dX4_parseEither_45 rfl
theorem sX4_parseEither_46 (hb : bit x) : Wp mX4_parseEither d 46 L [.int x] M N P Q = Q (some (.int x)) M N P := wp_iret rfl dX4_parseEither_46 rfl (bit_n hb)
theorem sX4_parseEither_47 : Wp mX4_parseEither d 47 (.ref r :: L) S M N P Q = Wp mX4_parseEither d 48 (.ref r :: L) (.ref r :: S) M N P Q := wp_aload_n rfl dX4_parseEither_47 rfl
theorem sX4_parseEither_48 (hs : shk r = (4, 0)) : Wp mX4_parseEither d 48 L (.ref r :: S) M N P Q = Wp mX4_parseEither d 51 L (.ref (P r 1) :: S) M N P Q := wp_getfield rfl dX4_parseEither_48 rfl rfl hs rfl
theorem sX4_parseEither_51 : Wp mX4_parseEither d 51 L S M N P Q = Wp mX4_parseEither d 52 L (.int 4 :: S) M N P Q := wp_iconst rfl dX4_parseEither_51 rfl
theorem sX4_parseEither_52 : Wp mX4_parseEither d 52 L S M N P Q = Wp mX4_parseEither d 53 L (.int 0 :: S) M N P Q := wp_iconst rfl dX4_parseEither_52 rfl
theorem sX4_parseEither_53 {x0 : Int32} {x1 : Int32} (hs : shk r = (2, 0)) (hS : stk S ≤ 8) : Wp mX4_parseEither (d + 1) 53 L (.int x1 :: .int x0 :: .ref r :: S) M N P Q = Wp mX2_write d 0 [.ref r, .int x0, .int x1] [] M N P (fun v M' N' P' => Wp mX4_parseEither (d + 1) 56 L (v.toList ++ S) M' N' P' Q) := wp_callV (As := [.int x0, .int x1]) rfl dX4_parseEither_53 rfl rfl (Or.inl ⟨_, _, _, hs, rfl⟩) rfl ⟨rfl, Nat.le_of_ble_eq_true rfl, Nat.le_of_ble_eq_true rfl⟩ rfl hS
theorem sX4_parseEither_56 (hn : nl a1 = true) : Wp mX4_parseEither d 56 (a0 :: a1 :: .int x :: L) S M N P Q = Wp mX4_parseEither d 59 (a0 :: a1 :: .int (x + 1) :: L) S M N P Q := wp_iinc rfl dX4_parseEither_56 rfl rfl (okst2 hn) rfl
theorem sX4_parseEither_59 : Wp mX4_parseEither d 59 L S M N P Q = Wp mX4_parseEither d 12 L S M N P Q := wp_goto rfl dX4_parseEither_59 rfl
theorem sX4_parseEither_62 : Wp mX4_parseEither d 62 L S M N P Q = Wp mX4_parseEither d 63 L (.int 1 :: S) M N P Q := wp_iconst rfl dX4_parseEither_62 rfl
theorem sX4_parseEither_63 (hb : bit x) : Wp mX4_parseEither d 63 L [.int x] M N P Q = Q (some (.int x)) M N P := wp_iret rfl dX4_parseEither_63 rfl (bit_n hb)
theorem sX4_parseBoth_0 : Wp mX4_parseBoth d 0 (.ref r :: L) S M N P Q = Wp mX4_parseBoth d 1 (.ref r :: L) (.ref r :: S) M N P Q := wp_aload_n rfl dX4_parseBoth_0 rfl
theorem sX4_parseBoth_1 : Wp mX4_parseBoth d 1 (a0 :: .int x :: L) S M N P Q = Wp mX4_parseBoth d 2 (a0 :: .int x :: L) (.int x :: S) M N P Q := wp_iload_n rfl dX4_parseBoth_1 rfl
theorem sX4_parseBoth_2 {x0 : Int32} (hs : shk r = (4, 0)) (hS : stk S ≤ 8) : Wp mX4_parseBoth (d + 1) 2 L (.int x0 :: .ref r :: S) M N P Q = Wp mX4_parseOne d 0 [.ref r, .int x0, .float 0, .float 0] [] M N P (fun v M' N' P' => Wp mX4_parseBoth (d + 1) 5 L (v.toList ++ S) M' N' P' Q) := wp_callV (As := [.int x0]) rfl dX4_parseBoth_2 rfl rfl (Or.inl ⟨_, _, _, hs, rfl⟩) rfl ⟨rfl, Nat.le_of_ble_eq_true rfl, Nat.le_of_ble_eq_true rfl⟩ rfl hS
theorem sX4_parseBoth_5 : Wp mX4_parseBoth d 5 L (.int x :: S) M N P Q = (if x = 0 then Wp mX4_parseBoth d 8 L S M N P Q else Wp mX4_parseBoth d 10 L S M N P Q) := wp_if_ne rfl dX4_parseBoth_5 rfl
theorem sX4_parseBoth_8 : Wp mX4_parseBoth d 8 L S M N P Q = Wp mX4_parseBoth d 9 L (.int 0 :: S) M N P Q := wp_iconst rfl dX4_parseBoth_8 rfl
theorem sX4_parseBoth_9 (hb : bit x) : Wp mX4_parseBoth d 9 L [.int x] M N P Q = Q (some (.int x)) M N P := wp_iret rfl dX4_parseBoth_9 rfl (bit_n hb)
theorem sX4_parseBoth_10 : Wp mX4_parseBoth d 10 L S M N P Q = Wp mX4_parseBoth d 11 L (.int 0 :: S) M N P Q := wp_iconst rfl dX4_parseBoth_10 rfl
theorem sX4_parseBoth_11 (hn : nl a1 = true) : Wp mX4_parseBoth d 11 (a0 :: a1 :: a2 :: L) (.int x :: S) M N P Q = Wp mX4_parseBoth d 12 (a0 :: a1 :: .int x :: L) S M N P Q := wp_istore_n rfl dX4_parseBoth_11 (lenGt2 ..) (okst2 hn) rfl
theorem sX4_parseBoth_12 : Wp mX4_parseBoth d 12 (a0 :: a1 :: .int x :: L) S M N P Q = Wp mX4_parseBoth d 13 (a0 :: a1 :: .int x :: L) (.int x :: S) M N P Q := wp_iload_n rfl dX4_parseBoth_12 rfl
theorem sX4_parseBoth_13 : Wp mX4_parseBoth d 13 L S M N P Q = Wp mX4_parseBoth d 15 L (.int 80 :: S) M N P Q := wp_bipush rfl dX4_parseBoth_13 rfl
theorem sX4_parseBoth_15 : Wp mX4_parseBoth d 15 L (.int z :: .int x :: S) M N P Q = (if z ≤ x then Wp mX4_parseBoth d 62 L S M N P Q else Wp mX4_parseBoth d 18 L S M N P Q) := wp_icmp_ge rfl dX4_parseBoth_15 rfl
theorem sX4_parseBoth_18 : Wp mX4_parseBoth d 18 (.ref r :: L) S M N P Q = Wp mX4_parseBoth d 19 (.ref r :: L) (.ref r :: S) M N P Q := wp_aload_n rfl dX4_parseBoth_18 rfl
theorem sX4_parseBoth_19 (hs : shk r = (4, 0)) : Wp mX4_parseBoth d 19 L (.ref r :: S) M N P Q = Wp mX4_parseBoth d 22 L (.int (M r 5) :: S) M N P Q := wp_getfield rfl dX4_parseBoth_19 rfl rfl hs rfl
theorem sX4_parseBoth_22 : Wp mX4_parseBoth d 22 L S M N P Q = Wp mX4_parseBoth d 24 L (.int 16 :: S) M N P Q := wp_bipush rfl dX4_parseBoth_22 rfl
theorem sX4_parseBoth_24 : Wp mX4_parseBoth d 24 L (.int z :: .int x :: S) M N P Q = (if x = z then Wp mX4_parseBoth d 27 L S M N P Q else Wp mX4_parseBoth d 62 L S M N P Q) := wp_icmp_ne rfl dX4_parseBoth_24 rfl
theorem sX4_parseBoth_27 : Wp mX4_parseBoth d 27 (.ref r :: L) S M N P Q = Wp mX4_parseBoth d 28 (.ref r :: L) (.ref r :: S) M N P Q := wp_aload_n rfl dX4_parseBoth_27 rfl
theorem sX4_parseBoth_28 : Wp mX4_parseBoth d 28 (.ref r :: L) S M N P Q = Wp mX4_parseBoth d 29 (.ref r :: L) (.ref r :: S) M N P Q := wp_aload_n rfl dX4_parseBoth_28 rfl
theorem sX4_parseBoth_29 (hs : shk r = (4, 0)) : Wp mX4_parseBoth d 29 L (.ref r :: S) M N P Q = Wp mX4_parseBoth d 32 L (.int (M r 4) :: S) M N P Q := wp_getfield rfl dX4_parseBoth_29 rfl rfl hs rfl
theorem sX4_parseBoth_32 : Wp mX4_parseBoth d 32 L S M N P Q = Wp mX4_parseBoth d 33 L (.int 1 :: S) M N P Q := wp_iconst rfl dX4_parseBoth_32 rfl
theorem sX4_parseBoth_33 : Wp mX4_parseBoth d 33 L (.int z :: .int x :: S) M N P Q = Wp mX4_parseBoth d 34 L (.int (x + z) :: S) M N P Q := wp_iadd rfl dX4_parseBoth_33
theorem sX4_parseBoth_34 {x0 : Int32} (hs : shk r = (4, 0)) (hS : stk S ≤ 8) : Wp mX4_parseBoth (d + 1) 34 L (.int x0 :: .ref r :: S) M N P Q = Wp mX4_moveTo d 0 [.ref r, .int x0, .float 0] [] M N P (fun v M' N' P' => Wp mX4_parseBoth (d + 1) 37 L (v.toList ++ S) M' N' P' Q) := wp_callV (As := [.int x0]) rfl dX4_parseBoth_34 rfl rfl (Or.inl ⟨_, _, _, hs, rfl⟩) rfl ⟨rfl, Nat.le_of_ble_eq_true rfl, Nat.le_of_ble_eq_true rfl⟩ rfl hS
theorem sX4_parseBoth_37 : Wp mX4_parseBoth d 37 (.ref r :: L) S M N P Q = Wp mX4_parseBoth d 38 (.ref r :: L) (.ref r :: S) M N P Q := wp_aload_n rfl dX4_parseBoth_37 rfl
theorem sX4_parseBoth_38 : Wp mX4_parseBoth d 38 (a0 :: .int x :: L) S M N P Q = Wp mX4_parseBoth d 39 (a0 :: .int x :: L) (.int x :: S) M N P Q := wp_iload_n rfl dX4_parseBoth_38 rfl
theorem sX4_parseBoth_39 {x0 : Int32} (hs : shk r = (4, 0)) (hS : stk S ≤ 8) : Wp mX4_parseBoth (d + 1) 39 L (.int x0 :: .ref r :: S) M N P Q = Wp mX4_parseOne d 0 [.ref r, .int x0, .float 0, .float 0] [] M N P (fun v M' N' P' => Wp mX4_parseBoth (d + 1) 42 L (v.toList ++ S) M' N' P' Q) := wp_callV (As := [.int x0]) rfl dX4_parseBoth_39 rfl rfl (Or.inl ⟨_, _, _, hs, rfl⟩) rfl ⟨rfl, Nat.le_of_ble_eq_true rfl, Nat.le_of_ble_eq_true rfl⟩ rfl hS
theorem sX4_parseBoth_42 : Wp mX4_parseBoth d 42 L (.int x :: S) M N P Q = (if x = 0 then Wp mX4_parseBoth d 45 L S M N P Q else Wp mX4_parseBoth d 47 L S M N P Q) := wp_if_ne rfl dX4_parseBoth_42 rfl
theorem sX4_parseBoth_45 : Wp mX4_parseBoth d 45 L S M N P Q = Wp mX4_parseBoth d 46 L (.int 0 :: S) M N P Q := wp_iconst rfl dX4_parseBoth_45 rfl
theorem sX4_parseBoth_46 (hb : bit x) : Wp mX4_parseBoth d 46 L [.int x] M N P Q = Q (some (.int x)) M N P := wp_iret rfl dX4_parseBoth_46 rfl (bit_n hb)
theorem sX4_parseBoth_47 : Wp mX4_parseBoth d 47 (.ref r :: L) S M N P Q = Wp mX4_parseBoth d 48 (.ref r :: L) (.ref r :: S) M N P Q := wp_aload_n rfl dX4_parseBoth_47 rfl
theorem sX4_parseBoth_48 (hs : shk r = (4, 0)) : Wp mX4_parseBoth d 48 L (.ref r :: S) M N P Q = Wp mX4_parseBoth d 51 L (.ref (P r 1) :: S) M N P Q := wp_getfield rfl dX4_parseBoth_48 rfl rfl hs rfl
theorem sX4_parseBoth_51 : Wp mX4_parseBoth d 51 L S M N P Q = Wp mX4_parseBoth d 52 L (.int 3 :: S) M N P Q := wp_iconst rfl dX4_parseBoth_51 rfl
theorem sX4_parseBoth_52 : Wp mX4_parseBoth d 52 L S M N P Q = Wp mX4_parseBoth d 53 L (.int 0 :: S) M N P Q := wp_iconst rfl dX4_parseBoth_52 rfl
theorem sX4_parseBoth_53 {x0 : Int32} {x1 : Int32} (hs : shk r = (2, 0)) (hS : stk S ≤ 8) : Wp mX4_parseBoth (d + 1) 53 L (.int x1 :: .int x0 :: .ref r :: S) M N P Q = Wp mX2_write d 0 [.ref r, .int x0, .int x1] [] M N P (fun v M' N' P' => Wp mX4_parseBoth (d + 1) 56 L (v.toList ++ S) M' N' P' Q) := wp_callV (As := [.int x0, .int x1]) rfl dX4_parseBoth_53 rfl rfl (Or.inl ⟨_, _, _, hs, rfl⟩) rfl ⟨rfl, Nat.le_of_ble_eq_true rfl, Nat.le_of_ble_eq_true rfl⟩ rfl hS
theorem sX4_parseBoth_56 (hn : nl a1 = true) : Wp mX4_parseBoth d 56 (a0 :: a1 :: .int x :: L) S M N P Q = Wp mX4_parseBoth d 59 (a0 :: a1 :: .int (x + 1) :: L) S M N P Q := wp_iinc rfl dX4_parseBoth_56 rfl rfl (okst2 hn) rfl
theorem sX4_parseBoth_59 : Wp mX4_parseBoth d 59 L S M N P Q = Wp mX4_parseBoth d 12 L S M N P Q := wp_goto rfl dX4_parseBoth_59 rfl
theorem sX4_parseBoth_62 : Wp mX4_parseBoth d 62 L S M N P Q = Wp mX4_parseBoth d 63 L (.int 1 :: S) M N P Q := wp_iconst rfl dX4_parseBoth_62 rfl
theorem sX4_parseBoth_63 (hb : bit x) : Wp mX4_parseBoth d 63 L [.int x] M N P Q = Q (some (.int x)) M N P := wp_iret rfl dX4_parseBoth_63 rfl (bit_n hb)
theorem sX4_parseOne_0 : Wp mX4_parseOne d 0 (a0 :: .int x :: L) S M N P Q = Wp mX4_parseOne d 1 (a0 :: .int x :: L) (.int x :: S) M N P Q := wp_iload_n rfl dX4_parseOne_0 rfl
theorem sX4_parseOne_1 : Wp mX4_parseOne d 1 L S M N P Q = Wp mX4_parseOne d 3 L (.int 6 :: S) M N P Q := wp_bipush rfl dX4_parseOne_1 rfl
theorem sX4_parseOne_3 : Wp mX4_parseOne d 3 L (.int z :: .int x :: S) M N P Q = (if x < z then Wp mX4_parseOne d 11 L S M N P Q else Wp mX4_parseOne d 6 L S M N P Q) := wp_icmp_lt rfl dX4_parseOne_3 rfl
theorem sX4_parseOne_6 : Wp mX4_parseOne d 6 (.ref r :: L) S M N P Q = Wp mX4_parseOne d 7 (.ref r :: L) (.ref r :: S) M N P Q := wp_aload_n rfl dX4_parseOne_6 rfl
theorem sX4_parseOne_7 (hs : shk r = (4, 0)) (hS : stk S ≤ 8) : Wp mX4_parseOne (d + 1) 7 L (.ref r :: S) M N P Q = Wp mX4_refuse d 0 [.ref r] [] M N P (fun v M' N' P' => Wp mX4_parseOne (d + 1) 10 L (v.toList ++ S) M' N' P' Q) := wp_callV (As := []) rfl dX4_parseOne_7 rfl rfl (Or.inl ⟨_, _, _, hs, rfl⟩) rfl ⟨rfl, Nat.le_of_ble_eq_true rfl, Nat.le_of_ble_eq_true rfl⟩ rfl hS
theorem sX4_parseOne_10 (hb : bit x) : Wp mX4_parseOne d 10 L [.int x] M N P Q = Q (some (.int x)) M N P := wp_iret rfl dX4_parseOne_10 rfl (bit_n hb)
theorem sX4_parseOne_11 : Wp mX4_parseOne d 11 (.ref r :: L) S M N P Q = Wp mX4_parseOne d 12 (.ref r :: L) (.ref r :: S) M N P Q := wp_aload_n rfl dX4_parseOne_11 rfl
theorem sX4_parseOne_12 (hs : shk r = (4, 0)) : Wp mX4_parseOne d 12 L (.ref r :: S) M N P Q = Wp mX4_parseOne d 15 L (.int (M r 5) :: S) M N P Q := wp_getfield rfl dX4_parseOne_12 rfl rfl hs rfl
theorem sX4_parseOne_15 : Wp mX4_parseOne d 15 L S M N P Q = Wp mX4_parseOne d 17 L (.int 23 :: S) M N P Q := wp_bipush rfl dX4_parseOne_15 rfl
theorem sX4_parseOne_17 : Wp mX4_parseOne d 17 L (.int z :: .int x :: S) M N P Q = (if x = z then Wp mX4_parseOne d 20 L S M N P Q else Wp mX4_parseOne d 55 L S M N P Q) := wp_icmp_ne rfl dX4_parseOne_17 rfl
theorem sX4_parseOne_20 : Wp mX4_parseOne d 20 (.ref r :: L) S M N P Q = Wp mX4_parseOne d 21 (.ref r :: L) (.ref r :: S) M N P Q := wp_aload_n rfl dX4_parseOne_20 rfl
theorem sX4_parseOne_21 : Wp mX4_parseOne d 21 (.ref r :: L) S M N P Q = Wp mX4_parseOne d 22 (.ref r :: L) (.ref r :: S) M N P Q := wp_aload_n rfl dX4_parseOne_21 rfl
theorem sX4_parseOne_22 (hs : shk r = (4, 0)) : Wp mX4_parseOne d 22 L (.ref r :: S) M N P Q = Wp mX4_parseOne d 25 L (.int (M r 4) :: S) M N P Q := wp_getfield rfl dX4_parseOne_22 rfl rfl hs rfl
theorem sX4_parseOne_25 : Wp mX4_parseOne d 25 L S M N P Q = Wp mX4_parseOne d 26 L (.int 1 :: S) M N P Q := wp_iconst rfl dX4_parseOne_25 rfl
theorem sX4_parseOne_26 : Wp mX4_parseOne d 26 L (.int z :: .int x :: S) M N P Q = Wp mX4_parseOne d 27 L (.int (x + z) :: S) M N P Q := wp_iadd rfl dX4_parseOne_26
theorem sX4_parseOne_27 {x0 : Int32} (hs : shk r = (4, 0)) (hS : stk S ≤ 8) : Wp mX4_parseOne (d + 1) 27 L (.int x0 :: .ref r :: S) M N P Q = Wp mX4_moveTo d 0 [.ref r, .int x0, .float 0] [] M N P (fun v M' N' P' => Wp mX4_parseOne (d + 1) 30 L (v.toList ++ S) M' N' P' Q) := wp_callV (As := [.int x0]) rfl dX4_parseOne_27 rfl rfl (Or.inl ⟨_, _, _, hs, rfl⟩) rfl ⟨rfl, Nat.le_of_ble_eq_true rfl, Nat.le_of_ble_eq_true rfl⟩ rfl hS
theorem sX4_parseOne_30 : Wp mX4_parseOne d 30 (.ref r :: L) S M N P Q = Wp mX4_parseOne d 31 (.ref r :: L) (.ref r :: S) M N P Q := wp_aload_n rfl dX4_parseOne_30 rfl
theorem sX4_parseOne_31 : Wp mX4_parseOne d 31 (a0 :: .int x :: L) S M N P Q = Wp mX4_parseOne d 32 (a0 :: .int x :: L) (.int x :: S) M N P Q := wp_iload_n rfl dX4_parseOne_31 rfl
theorem sX4_parseOne_32 : Wp mX4_parseOne d 32 L S M N P Q = Wp mX4_parseOne d 33 L (.int 1 :: S) M N P Q := wp_iconst rfl dX4_parseOne_32 rfl
theorem sX4_parseOne_33 : Wp mX4_parseOne d 33 L (.int z :: .int x :: S) M N P Q = Wp mX4_parseOne d 34 L (.int (x + z) :: S) M N P Q := wp_iadd rfl dX4_parseOne_33
theorem sX4_parseOne_34 {x0 : Int32} (hs : shk r = (4, 0)) (hS : stk S ≤ 8) : Wp mX4_parseOne (d + 1) 34 L (.int x0 :: .ref r :: S) M N P Q = Wp mX4_parseEither d 0 [.ref r, .int x0, .float 0] [] M N P (fun v M' N' P' => Wp mX4_parseOne (d + 1) 37 L (v.toList ++ S) M' N' P' Q) := wp_callV (As := [.int x0]) rfl dX4_parseOne_34 rfl rfl (Or.inl ⟨_, _, _, hs, rfl⟩) rfl ⟨rfl, Nat.le_of_ble_eq_true rfl, Nat.le_of_ble_eq_true rfl⟩ rfl hS
theorem sX4_parseOne_37 : Wp mX4_parseOne d 37 L (.int x :: S) M N P Q = (if x = 0 then Wp mX4_parseOne d 53 L S M N P Q else Wp mX4_parseOne d 40 L S M N P Q) := wp_if_eq rfl dX4_parseOne_37 rfl
theorem sX4_parseOne_40 : Wp mX4_parseOne d 40 (.ref r :: L) S M N P Q = Wp mX4_parseOne d 41 (.ref r :: L) (.ref r :: S) M N P Q := wp_aload_n rfl dX4_parseOne_40 rfl
theorem sX4_parseOne_41 : Wp mX4_parseOne d 41 L S M N P Q = Wp mX4_parseOne d 43 L (.int 24 :: S) M N P Q := wp_bipush rfl dX4_parseOne_41 rfl
theorem sX4_parseOne_43 {x0 : Int32} (hs : shk r = (4, 0)) (hS : stk S ≤ 8) : Wp mX4_parseOne (d + 1) 43 L (.int x0 :: .ref r :: S) M N P Q = Wp mX4_take d 0 [.ref r, .int x0] [] M N P (fun v M' N' P' => Wp mX4_parseOne (d + 1) 46 L (v.toList ++ S) M' N' P' Q) := wp_callV (As := [.int x0]) rfl dX4_parseOne_43 rfl rfl (Or.inl ⟨_, _, _, hs, rfl⟩) rfl ⟨rfl, Nat.le_of_ble_eq_true rfl, Nat.le_of_ble_eq_true rfl⟩ rfl hS
theorem sX4_parseOne_46 : Wp mX4_parseOne d 46 L (.int x :: S) M N P Q = (if x = 0 then Wp mX4_parseOne d 53 L S M N P Q else Wp mX4_parseOne d 49 L S M N P Q) := wp_if_eq rfl dX4_parseOne_46 rfl
theorem sX4_parseOne_49 : Wp mX4_parseOne d 49 L S M N P Q = Wp mX4_parseOne d 50 L (.int 1 :: S) M N P Q := wp_iconst rfl dX4_parseOne_49 rfl
theorem sX4_parseOne_50 : Wp mX4_parseOne d 50 L S M N P Q = Wp mX4_parseOne d 54 L S M N P Q := wp_goto rfl dX4_parseOne_50 rfl
theorem sX4_parseOne_53 : Wp mX4_parseOne d 53 L S M N P Q = Wp mX4_parseOne d 54 L (.int 0 :: S) M N P Q := wp_iconst rfl dX4_parseOne_53 rfl
theorem sX4_parseOne_54 (hb : bit x) : Wp mX4_parseOne d 54 L [.int x] M N P Q = Q (some (.int x)) M N P := wp_iret rfl dX4_parseOne_54 rfl (bit_n hb)
theorem sX4_parseOne_55 : Wp mX4_parseOne d 55 (.ref r :: L) S M N P Q = Wp mX4_parseOne d 56 (.ref r :: L) (.ref r :: S) M N P Q := wp_aload_n rfl dX4_parseOne_55 rfl
theorem sX4_parseOne_56 (hs : shk r = (4, 0)) : Wp mX4_parseOne d 56 L (.ref r :: S) M N P Q = Wp mX4_parseOne d 59 L (.int (M r 5) :: S) M N P Q := wp_getfield rfl dX4_parseOne_56 rfl rfl hs rfl
theorem sX4_parseOne_59 : Wp mX4_parseOne d 59 L S M N P Q = Wp mX4_parseOne d 61 L (.int 17 :: S) M N P Q := wp_bipush rfl dX4_parseOne_59 rfl
theorem sX4_parseOne_61 : Wp mX4_parseOne d 61 L (.int z :: .int x :: S) M N P Q = (if x = z then Wp mX4_parseOne d 64 L S M N P Q else Wp mX4_parseOne d 93 L S M N P Q) := wp_icmp_ne rfl dX4_parseOne_61 rfl
theorem sX4_parseOne_64 : Wp mX4_parseOne d 64 (.ref r :: L) S M N P Q = Wp mX4_parseOne d 65 (.ref r :: L) (.ref r :: S) M N P Q := wp_aload_n rfl dX4_parseOne_64 rfl
theorem sX4_parseOne_65 : Wp mX4_parseOne d 65 (.ref r :: L) S M N P Q = Wp mX4_parseOne d 66 (.ref r :: L) (.ref r :: S) M N P Q := wp_aload_n rfl dX4_parseOne_65 rfl
theorem sX4_parseOne_66 (hs : shk r = (4, 0)) : Wp mX4_parseOne d 66 L (.ref r :: S) M N P Q = Wp mX4_parseOne d 69 L (.int (M r 4) :: S) M N P Q := wp_getfield rfl dX4_parseOne_66 rfl rfl hs rfl
theorem sX4_parseOne_69 : Wp mX4_parseOne d 69 L S M N P Q = Wp mX4_parseOne d 70 L (.int 1 :: S) M N P Q := wp_iconst rfl dX4_parseOne_69 rfl
theorem sX4_parseOne_70 : Wp mX4_parseOne d 70 L (.int z :: .int x :: S) M N P Q = Wp mX4_parseOne d 71 L (.int (x + z) :: S) M N P Q := wp_iadd rfl dX4_parseOne_70
theorem sX4_parseOne_71 {x0 : Int32} (hs : shk r = (4, 0)) (hS : stk S ≤ 8) : Wp mX4_parseOne (d + 1) 71 L (.int x0 :: .ref r :: S) M N P Q = Wp mX4_moveTo d 0 [.ref r, .int x0, .float 0] [] M N P (fun v M' N' P' => Wp mX4_parseOne (d + 1) 74 L (v.toList ++ S) M' N' P' Q) := wp_callV (As := [.int x0]) rfl dX4_parseOne_71 rfl rfl (Or.inl ⟨_, _, _, hs, rfl⟩) rfl ⟨rfl, Nat.le_of_ble_eq_true rfl, Nat.le_of_ble_eq_true rfl⟩ rfl hS
theorem sX4_parseOne_74 : Wp mX4_parseOne d 74 (.ref r :: L) S M N P Q = Wp mX4_parseOne d 75 (.ref r :: L) (.ref r :: S) M N P Q := wp_aload_n rfl dX4_parseOne_74 rfl
theorem sX4_parseOne_75 : Wp mX4_parseOne d 75 (a0 :: .int x :: L) S M N P Q = Wp mX4_parseOne d 76 (a0 :: .int x :: L) (.int x :: S) M N P Q := wp_iload_n rfl dX4_parseOne_75 rfl
theorem sX4_parseOne_76 : Wp mX4_parseOne d 76 L S M N P Q = Wp mX4_parseOne d 77 L (.int 1 :: S) M N P Q := wp_iconst rfl dX4_parseOne_76 rfl
theorem sX4_parseOne_77 : Wp mX4_parseOne d 77 L (.int z :: .int x :: S) M N P Q = Wp mX4_parseOne d 78 L (.int (x + z) :: S) M N P Q := wp_iadd rfl dX4_parseOne_77
theorem sX4_parseOne_78 {x0 : Int32} (hs : shk r = (4, 0)) (hS : stk S ≤ 8) : Wp mX4_parseOne (d + 1) 78 L (.int x0 :: .ref r :: S) M N P Q = Wp mX4_parseOne d 0 [.ref r, .int x0, .float 0, .float 0] [] M N P (fun v M' N' P' => Wp mX4_parseOne (d + 1) 81 L (v.toList ++ S) M' N' P' Q) := wp_callV (As := [.int x0]) rfl dX4_parseOne_78 rfl rfl (Or.inl ⟨_, _, _, hs, rfl⟩) rfl ⟨rfl, Nat.le_of_ble_eq_true rfl, Nat.le_of_ble_eq_true rfl⟩ rfl hS
theorem sX4_parseOne_81 (hn : nl a1 = true) : Wp mX4_parseOne d 81 (a0 :: a1 :: a2 :: L) (.int x :: S) M N P Q = Wp mX4_parseOne d 82 (a0 :: a1 :: .int x :: L) S M N P Q := wp_istore_n rfl dX4_parseOne_81 (lenGt2 ..) (okst2 hn) rfl
theorem sX4_parseOne_82 : Wp mX4_parseOne d 82 (.ref r :: L) S M N P Q = Wp mX4_parseOne d 83 (.ref r :: L) (.ref r :: S) M N P Q := wp_aload_n rfl dX4_parseOne_82 rfl
theorem sX4_parseOne_83 (hs : shk r = (4, 0)) : Wp mX4_parseOne d 83 L (.ref r :: S) M N P Q = Wp mX4_parseOne d 86 L (.ref (P r 1) :: S) M N P Q := wp_getfield rfl dX4_parseOne_83 rfl rfl hs rfl
theorem sX4_parseOne_86 : Wp mX4_parseOne d 86 L S M N P Q = Wp mX4_parseOne d 87 L (.int 2 :: S) M N P Q := wp_iconst rfl dX4_parseOne_86 rfl
theorem sX4_parseOne_87 : Wp mX4_parseOne d 87 L S M N P Q = Wp mX4_parseOne d 88 L (.int 0 :: S) M N P Q := wp_iconst rfl dX4_parseOne_87 rfl
theorem sX4_parseOne_88 {x0 : Int32} {x1 : Int32} (hs : shk r = (2, 0)) (hS : stk S ≤ 8) : Wp mX4_parseOne (d + 1) 88 L (.int x1 :: .int x0 :: .ref r :: S) M N P Q = Wp mX2_write d 0 [.ref r, .int x0, .int x1] [] M N P (fun v M' N' P' => Wp mX4_parseOne (d + 1) 91 L (v.toList ++ S) M' N' P' Q) := wp_callV (As := [.int x0, .int x1]) rfl dX4_parseOne_88 rfl rfl (Or.inl ⟨_, _, _, hs, rfl⟩) rfl ⟨rfl, Nat.le_of_ble_eq_true rfl, Nat.le_of_ble_eq_true rfl⟩ rfl hS
theorem sX4_parseOne_91 : Wp mX4_parseOne d 91 (a0 :: a1 :: .int x :: L) S M N P Q = Wp mX4_parseOne d 92 (a0 :: a1 :: .int x :: L) (.int x :: S) M N P Q := wp_iload_n rfl dX4_parseOne_91 rfl
theorem sX4_parseOne_92 (hb : bit x) : Wp mX4_parseOne d 92 L [.int x] M N P Q = Q (some (.int x)) M N P := wp_iret rfl dX4_parseOne_92 rfl (bit_n hb)
theorem sX4_parseOne_93 : Wp mX4_parseOne d 93 (.ref r :: L) S M N P Q = Wp mX4_parseOne d 94 (.ref r :: L) (.ref r :: S) M N P Q := wp_aload_n rfl dX4_parseOne_93 rfl
theorem sX4_parseOne_94 (hs : shk r = (4, 0)) (hS : stk S ≤ 8) : Wp mX4_parseOne (d + 1) 94 L (.ref r :: S) M N P Q = Wp mX4_parseSum d 0 [.ref r, .float 0, .float 0, .float 0, .float 0] [] M N P (fun v M' N' P' => Wp mX4_parseOne (d + 1) 97 L (v.toList ++ S) M' N' P' Q) := wp_callV (As := []) rfl dX4_parseOne_94 rfl rfl (Or.inl ⟨_, _, _, hs, rfl⟩) rfl ⟨rfl, Nat.le_of_ble_eq_true rfl, Nat.le_of_ble_eq_true rfl⟩ rfl hS
theorem sX4_parseOne_97 : Wp mX4_parseOne d 97 L (.int x :: S) M N P Q = (if x = 0 then Wp mX4_parseOne d 100 L S M N P Q else Wp mX4_parseOne d 102 L S M N P Q) := wp_if_ne rfl dX4_parseOne_97 rfl
theorem sX4_parseOne_100 : Wp mX4_parseOne d 100 L S M N P Q = Wp mX4_parseOne d 101 L (.int 0 :: S) M N P Q := wp_iconst rfl dX4_parseOne_100 rfl
theorem sX4_parseOne_101 (hb : bit x) : Wp mX4_parseOne d 101 L [.int x] M N P Q = Q (some (.int x)) M N P := wp_iret rfl dX4_parseOne_101 rfl (bit_n hb)
theorem sX4_parseOne_102 : Wp mX4_parseOne d 102 (.ref r :: L) S M N P Q = Wp mX4_parseOne d 103 (.ref r :: L) (.ref r :: S) M N P Q := wp_aload_n rfl dX4_parseOne_102 rfl
theorem sX4_parseOne_103 (hs : shk r = (4, 0)) : Wp mX4_parseOne d 103 L (.ref r :: S) M N P Q = Wp mX4_parseOne d 106 L (.int (M r 5) :: S) M N P Q := wp_getfield rfl dX4_parseOne_103 rfl rfl hs rfl
theorem sX4_parseOne_106 : Wp mX4_parseOne d 106 L S M N P Q = Wp mX4_parseOne d 108 L (.int 25 :: S) M N P Q := wp_bipush rfl dX4_parseOne_106 rfl
theorem sX4_parseOne_108 : Wp mX4_parseOne d 108 L (.int z :: .int x :: S) M N P Q = (if x < z then Wp mX4_parseOne d 120 L S M N P Q else Wp mX4_parseOne d 111 L S M N P Q) := wp_icmp_lt rfl dX4_parseOne_108 rfl
theorem sX4_parseOne_111 : Wp mX4_parseOne d 111 (.ref r :: L) S M N P Q = Wp mX4_parseOne d 112 (.ref r :: L) (.ref r :: S) M N P Q := wp_aload_n rfl dX4_parseOne_111 rfl
theorem sX4_parseOne_112 (hs : shk r = (4, 0)) : Wp mX4_parseOne d 112 L (.ref r :: S) M N P Q = Wp mX4_parseOne d 115 L (.int (M r 5) :: S) M N P Q := wp_getfield rfl dX4_parseOne_112 rfl rfl hs rfl
theorem sX4_parseOne_115 : Wp mX4_parseOne d 115 L S M N P Q = Wp mX4_parseOne d 117 L (.int 27 :: S) M N P Q := wp_bipush rfl dX4_parseOne_115 rfl
theorem sX4_parseOne_117 : Wp mX4_parseOne d 117 L (.int z :: .int x :: S) M N P Q = (if x ≤ z then Wp mX4_parseOne d 122 L S M N P Q else Wp mX4_parseOne d 120 L S M N P Q) := wp_icmp_le rfl dX4_parseOne_117 rfl
theorem sX4_parseOne_120 : Wp mX4_parseOne d 120 L S M N P Q = Wp mX4_parseOne d 121 L (.int 1 :: S) M N P Q := wp_iconst rfl dX4_parseOne_120 rfl
theorem sX4_parseOne_121 (hb : bit x) : Wp mX4_parseOne d 121 L [.int x] M N P Q = Q (some (.int x)) M N P := wp_iret rfl dX4_parseOne_121 rfl (bit_n hb)
theorem sX4_parseOne_122 : Wp mX4_parseOne d 122 L S M N P Q = Wp mX4_parseOne d 123 L (.int 5 :: S) M N P Q := wp_iconst rfl dX4_parseOne_122 rfl
theorem sX4_parseOne_123 : Wp mX4_parseOne d 123 (.ref r :: L) S M N P Q = Wp mX4_parseOne d 124 (.ref r :: L) (.ref r :: S) M N P Q := wp_aload_n rfl dX4_parseOne_123 rfl
theorem sX4_parseOne_124 (hs : shk r = (4, 0)) : Wp mX4_parseOne d 124 L (.ref r :: S) M N P Q = Wp mX4_parseOne d 127 L (.int (M r 5) :: S) M N P Q := wp_getfield rfl dX4_parseOne_124 rfl rfl hs rfl
theorem sX4_parseOne_127 : Wp mX4_parseOne d 127 L (.int z :: .int x :: S) M N P Q = Wp mX4_parseOne d 128 L (.int (x + z) :: S) M N P Q := wp_iadd rfl dX4_parseOne_127
theorem sX4_parseOne_128 : Wp mX4_parseOne d 128 L S M N P Q = Wp mX4_parseOne d 130 L (.int 25 :: S) M N P Q := wp_bipush rfl dX4_parseOne_128 rfl
theorem sX4_parseOne_130 : Wp mX4_parseOne d 130 L (.int z :: .int x :: S) M N P Q = Wp mX4_parseOne d 131 L (.int (x - z) :: S) M N P Q := wp_isub rfl dX4_parseOne_130
theorem sX4_parseOne_131 (hn : nl a1 = true) : Wp mX4_parseOne d 131 (a0 :: a1 :: a2 :: L) (.int x :: S) M N P Q = Wp mX4_parseOne d 132 (a0 :: a1 :: .int x :: L) S M N P Q := wp_istore_n rfl dX4_parseOne_131 (lenGt2 ..) (okst2 hn) rfl
theorem sX4_parseOne_132 : Wp mX4_parseOne d 132 (.ref r :: L) S M N P Q = Wp mX4_parseOne d 133 (.ref r :: L) (.ref r :: S) M N P Q := wp_aload_n rfl dX4_parseOne_132 rfl
theorem sX4_parseOne_133 : Wp mX4_parseOne d 133 (.ref r :: L) S M N P Q = Wp mX4_parseOne d 134 (.ref r :: L) (.ref r :: S) M N P Q := wp_aload_n rfl dX4_parseOne_133 rfl
theorem sX4_parseOne_134 (hs : shk r = (4, 0)) : Wp mX4_parseOne d 134 L (.ref r :: S) M N P Q = Wp mX4_parseOne d 137 L (.int (M r 4) :: S) M N P Q := wp_getfield rfl dX4_parseOne_134 rfl rfl hs rfl
theorem sX4_parseOne_137 : Wp mX4_parseOne d 137 L S M N P Q = Wp mX4_parseOne d 138 L (.int 1 :: S) M N P Q := wp_iconst rfl dX4_parseOne_137 rfl
theorem sX4_parseOne_138 : Wp mX4_parseOne d 138 L (.int z :: .int x :: S) M N P Q = Wp mX4_parseOne d 139 L (.int (x + z) :: S) M N P Q := wp_iadd rfl dX4_parseOne_138
theorem sX4_parseOne_139 {x0 : Int32} (hs : shk r = (4, 0)) (hS : stk S ≤ 8) : Wp mX4_parseOne (d + 1) 139 L (.int x0 :: .ref r :: S) M N P Q = Wp mX4_moveTo d 0 [.ref r, .int x0, .float 0] [] M N P (fun v M' N' P' => Wp mX4_parseOne (d + 1) 142 L (v.toList ++ S) M' N' P' Q) := wp_callV (As := [.int x0]) rfl dX4_parseOne_139 rfl rfl (Or.inl ⟨_, _, _, hs, rfl⟩) rfl ⟨rfl, Nat.le_of_ble_eq_true rfl, Nat.le_of_ble_eq_true rfl⟩ rfl hS
theorem sX4_parseOne_142 : Wp mX4_parseOne d 142 (.ref r :: L) S M N P Q = Wp mX4_parseOne d 143 (.ref r :: L) (.ref r :: S) M N P Q := wp_aload_n rfl dX4_parseOne_142 rfl
theorem sX4_parseOne_143 (hs : shk r = (4, 0)) (hS : stk S ≤ 8) : Wp mX4_parseOne (d + 1) 143 L (.ref r :: S) M N P Q = Wp mX4_parseSum d 0 [.ref r, .float 0, .float 0, .float 0, .float 0] [] M N P (fun v M' N' P' => Wp mX4_parseOne (d + 1) 146 L (v.toList ++ S) M' N' P' Q) := wp_callV (As := []) rfl dX4_parseOne_143 rfl rfl (Or.inl ⟨_, _, _, hs, rfl⟩) rfl ⟨rfl, Nat.le_of_ble_eq_true rfl, Nat.le_of_ble_eq_true rfl⟩ rfl hS
theorem sX4_parseOne_146 (hn : nl a2 = true) : Wp mX4_parseOne d 146 (a0 :: a1 :: a2 :: a3 :: L) (.int x :: S) M N P Q = Wp mX4_parseOne d 147 (a0 :: a1 :: a2 :: .int x :: L) S M N P Q := wp_istore_n rfl dX4_parseOne_146 (lenGt3 ..) (okst3 hn) rfl
theorem sX4_parseOne_147 : Wp mX4_parseOne d 147 (.ref r :: L) S M N P Q = Wp mX4_parseOne d 148 (.ref r :: L) (.ref r :: S) M N P Q := wp_aload_n rfl dX4_parseOne_147 rfl
theorem sX4_parseOne_148 (hs : shk r = (4, 0)) : Wp mX4_parseOne d 148 L (.ref r :: S) M N P Q = Wp mX4_parseOne d 151 L (.ref (P r 1) :: S) M N P Q := wp_getfield rfl dX4_parseOne_148 rfl rfl hs rfl
theorem sX4_parseOne_151 : Wp mX4_parseOne d 151 (a0 :: a1 :: .int x :: L) S M N P Q = Wp mX4_parseOne d 152 (a0 :: a1 :: .int x :: L) (.int x :: S) M N P Q := wp_iload_n rfl dX4_parseOne_151 rfl
theorem sX4_parseOne_152 : Wp mX4_parseOne d 152 L S M N P Q = Wp mX4_parseOne d 153 L (.int 0 :: S) M N P Q := wp_iconst rfl dX4_parseOne_152 rfl
theorem sX4_parseOne_153 {x0 : Int32} {x1 : Int32} (hs : shk r = (2, 0)) (hS : stk S ≤ 8) : Wp mX4_parseOne (d + 1) 153 L (.int x1 :: .int x0 :: .ref r :: S) M N P Q = Wp mX2_write d 0 [.ref r, .int x0, .int x1] [] M N P (fun v M' N' P' => Wp mX4_parseOne (d + 1) 156 L (v.toList ++ S) M' N' P' Q) := wp_callV (As := [.int x0, .int x1]) rfl dX4_parseOne_153 rfl rfl (Or.inl ⟨_, _, _, hs, rfl⟩) rfl ⟨rfl, Nat.le_of_ble_eq_true rfl, Nat.le_of_ble_eq_true rfl⟩ rfl hS
theorem sX4_parseOne_156 : Wp mX4_parseOne d 156 (a0 :: a1 :: a2 :: .int x :: L) S M N P Q = Wp mX4_parseOne d 157 (a0 :: a1 :: a2 :: .int x :: L) (.int x :: S) M N P Q := wp_iload_n rfl dX4_parseOne_156 rfl
theorem sX4_parseOne_157 (hb : bit x) : Wp mX4_parseOne d 157 L [.int x] M N P Q = Q (some (.int x)) M N P := wp_iret rfl dX4_parseOne_157 rfl (bit_n hb)
theorem sX4_parseSum_0 : Wp mX4_parseSum d 0 L S M N P Q = Wp mX4_parseSum d 2 L (.int 8 :: S) M N P Q := wp_bipush rfl dX4_parseSum_0 rfl
theorem sX4_parseSum_2 (hn : nl a0 = true) : Wp mX4_parseSum d 2 (a0 :: a1 :: L) (.int x :: S) M N P Q = Wp mX4_parseSum d 3 (a0 :: .int x :: L) S M N P Q := wp_istore_n rfl dX4_parseSum_2 (lenGt1 ..) (okst1 hn) rfl
theorem sX4_parseSum_3 : Wp mX4_parseSum d 3 L S M N P Q = Wp mX4_parseSum d 4 L (.int 0 :: S) M N P Q := wp_iconst rfl dX4_parseSum_3 rfl
theorem sX4_parseSum_4 (hn : nl a1 = true) : Wp mX4_parseSum d 4 (a0 :: a1 :: a2 :: L) (.int x :: S) M N P Q = Wp mX4_parseSum d 5 (a0 :: a1 :: .int x :: L) S M N P Q := wp_istore_n rfl dX4_parseSum_4 (lenGt2 ..) (okst2 hn) rfl
theorem sX4_parseSum_5 : Wp mX4_parseSum d 5 (a0 :: a1 :: .int x :: L) S M N P Q = Wp mX4_parseSum d 6 (a0 :: a1 :: .int x :: L) (.int x :: S) M N P Q := wp_iload_n rfl dX4_parseSum_5 rfl
theorem sX4_parseSum_6 : Wp mX4_parseSum d 6 L S M N P Q = Wp mX4_parseSum d 8 L (.int 80 :: S) M N P Q := wp_bipush rfl dX4_parseSum_6 rfl
theorem sX4_parseSum_8 : Wp mX4_parseSum d 8 L (.int z :: .int x :: S) M N P Q = (if z < x then Wp mX4_parseSum d 189 L S M N P Q else Wp mX4_parseSum d 11 L S M N P Q) := wp_icmp_gt rfl dX4_parseSum_8 rfl
theorem sX4_parseSum_11 : Wp mX4_parseSum d 11 (.ref r :: L) S M N P Q = Wp mX4_parseSum d 12 (.ref r :: L) (.ref r :: S) M N P Q := wp_aload_n rfl dX4_parseSum_11 rfl
theorem sX4_parseSum_12 (hs : shk r = (4, 0)) : Wp mX4_parseSum d 12 L (.ref r :: S) M N P Q = Wp mX4_parseSum d 15 L (.int (M r 5) :: S) M N P Q := wp_getfield rfl dX4_parseSum_12 rfl rfl hs rfl
theorem sX4_parseSum_15 : Wp mX4_parseSum d 15 L S M N P Q = Wp mX4_parseSum d 17 L (.int 19 :: S) M N P Q := wp_bipush rfl dX4_parseSum_15 rfl
theorem sX4_parseSum_17 : Wp mX4_parseSum d 17 L (.int z :: .int x :: S) M N P Q = (if x = z then Wp mX4_parseSum d 20 L S M N P Q else Wp mX4_parseSum d 24 L S M N P Q) := wp_icmp_ne rfl dX4_parseSum_17 rfl
theorem sX4_parseSum_20 : Wp mX4_parseSum d 20 L S M N P Q = Wp mX4_parseSum d 21 L (.int 1 :: S) M N P Q := wp_iconst rfl dX4_parseSum_20 rfl
theorem sX4_parseSum_21 : Wp mX4_parseSum d 21 L S M N P Q = Wp mX4_parseSum d 25 L S M N P Q := wp_goto rfl dX4_parseSum_21 rfl
theorem sX4_parseSum_24 : Wp mX4_parseSum d 24 L S M N P Q = Wp mX4_parseSum d 25 L (.int 0 :: S) M N P Q := wp_iconst rfl dX4_parseSum_24 rfl
theorem sX4_parseSum_25 (hn : nl a2 = true) : Wp mX4_parseSum d 25 (a0 :: a1 :: a2 :: a3 :: L) (.int x :: S) M N P Q = Wp mX4_parseSum d 26 (a0 :: a1 :: a2 :: .int x :: L) S M N P Q := wp_istore_n rfl dX4_parseSum_25 (lenGt3 ..) (okst3 hn) rfl
theorem sX4_parseSum_26 : Wp mX4_parseSum d 26 (a0 :: a1 :: a2 :: .int x :: L) S M N P Q = Wp mX4_parseSum d 27 (a0 :: a1 :: a2 :: .int x :: L) (.int x :: S) M N P Q := wp_iload_n rfl dX4_parseSum_26 rfl
theorem sX4_parseSum_27 : Wp mX4_parseSum d 27 L (.int x :: S) M N P Q = (if x = 0 then Wp mX4_parseSum d 30 L S M N P Q else Wp mX4_parseSum d 46 L S M N P Q) := wp_if_ne rfl dX4_parseSum_27 rfl
theorem sX4_parseSum_30 : Wp mX4_parseSum d 30 (.ref r :: L) S M N P Q = Wp mX4_parseSum d 31 (.ref r :: L) (.ref r :: S) M N P Q := wp_aload_n rfl dX4_parseSum_30 rfl
theorem sX4_parseSum_31 (hs : shk r = (4, 0)) : Wp mX4_parseSum d 31 L (.ref r :: S) M N P Q = Wp mX4_parseSum d 34 L (.int (M r 5) :: S) M N P Q := wp_getfield rfl dX4_parseSum_31 rfl rfl hs rfl
theorem sX4_parseSum_34 : Wp mX4_parseSum d 34 L (.int x :: S) M N P Q = (if x < 0 then Wp mX4_parseSum d 50 L S M N P Q else Wp mX4_parseSum d 37 L S M N P Q) := wp_if_lt rfl dX4_parseSum_34 rfl
theorem sX4_parseSum_37 : Wp mX4_parseSum d 37 (.ref r :: L) S M N P Q = Wp mX4_parseSum d 38 (.ref r :: L) (.ref r :: S) M N P Q := wp_aload_n rfl dX4_parseSum_37 rfl
theorem sX4_parseSum_38 (hs : shk r = (4, 0)) : Wp mX4_parseSum d 38 L (.ref r :: S) M N P Q = Wp mX4_parseSum d 41 L (.int (M r 5) :: S) M N P Q := wp_getfield rfl dX4_parseSum_38 rfl rfl hs rfl
theorem sX4_parseSum_41 : Wp mX4_parseSum d 41 L S M N P Q = Wp mX4_parseSum d 43 L (.int 9 :: S) M N P Q := wp_bipush rfl dX4_parseSum_41 rfl
theorem sX4_parseSum_43 : Wp mX4_parseSum d 43 L (.int z :: .int x :: S) M N P Q = (if z ≤ x then Wp mX4_parseSum d 50 L S M N P Q else Wp mX4_parseSum d 46 L S M N P Q) := wp_icmp_ge rfl dX4_parseSum_43 rfl
theorem sX4_parseSum_46 : Wp mX4_parseSum d 46 L S M N P Q = Wp mX4_parseSum d 47 L (.int 1 :: S) M N P Q := wp_iconst rfl dX4_parseSum_46 rfl
theorem sX4_parseSum_47 : Wp mX4_parseSum d 47 L S M N P Q = Wp mX4_parseSum d 51 L S M N P Q := wp_goto rfl dX4_parseSum_47 rfl
theorem sX4_parseSum_50 : Wp mX4_parseSum d 50 L S M N P Q = Wp mX4_parseSum d 51 L (.int 0 :: S) M N P Q := wp_iconst rfl dX4_parseSum_50 rfl
theorem sX4_parseSum_51 (hn : nl a3 = true) : Wp mX4_parseSum d 51 (a0 :: a1 :: a2 :: a3 :: a4 :: L) (.int x :: S) M N P Q = Wp mX4_parseSum d 53 (a0 :: a1 :: a2 :: a3 :: .int x :: L) S M N P Q := wp_istore rfl dX4_parseSum_51 (lenGt4 ..) (okst4 hn) rfl
theorem sX4_parseSum_53 : Wp mX4_parseSum d 53 (a0 :: a1 :: a2 :: a3 :: .int x :: L) S M N P Q = Wp mX4_parseSum d 55 (a0 :: a1 :: a2 :: a3 :: .int x :: L) (.int x :: S) M N P Q := wp_iload rfl dX4_parseSum_53 rfl
theorem sX4_parseSum_55 : Wp mX4_parseSum d 55 L (.int x :: S) M N P Q = (if x = 0 then Wp mX4_parseSum d 67 L S M N P Q else Wp mX4_parseSum d 58 L S M N P Q) := wp_if_eq rfl dX4_parseSum_55 rfl
theorem sX4_parseSum_58 : Wp mX4_parseSum d 58 (.ref r :: L) S M N P Q = Wp mX4_parseSum d 59 (.ref r :: L) (.ref r :: S) M N P Q := wp_aload_n rfl dX4_parseSum_58 rfl
theorem sX4_parseSum_59 (hs : shk r = (4, 0)) : Wp mX4_parseSum d 59 L (.ref r :: S) M N P Q = Wp mX4_parseSum d 62 L (.int (M r 7) :: S) M N P Q := wp_getfield rfl dX4_parseSum_59 rfl rfl hs rfl
theorem sX4_parseSum_62 : Wp mX4_parseSum d 62 L S M N P Q = Wp mX4_parseSum d 64 L (.int 80 :: S) M N P Q := wp_bipush rfl dX4_parseSum_62 rfl
theorem sX4_parseSum_64 : Wp mX4_parseSum d 64 L (.int z :: .int x :: S) M N P Q = (if x < z then Wp mX4_parseSum d 72 L S M N P Q else Wp mX4_parseSum d 67 L S M N P Q) := wp_icmp_lt rfl dX4_parseSum_64 rfl
theorem sX4_parseSum_67 : Wp mX4_parseSum d 67 (.ref r :: L) S M N P Q = Wp mX4_parseSum d 68 (.ref r :: L) (.ref r :: S) M N P Q := wp_aload_n rfl dX4_parseSum_67 rfl
theorem sX4_parseSum_68 (hs : shk r = (4, 0)) (hS : stk S ≤ 8) : Wp mX4_parseSum (d + 1) 68 L (.ref r :: S) M N P Q = Wp mX4_refuse d 0 [.ref r] [] M N P (fun v M' N' P' => Wp mX4_parseSum (d + 1) 71 L (v.toList ++ S) M' N' P' Q) := wp_callV (As := []) rfl dX4_parseSum_68 rfl rfl (Or.inl ⟨_, _, _, hs, rfl⟩) rfl ⟨rfl, Nat.le_of_ble_eq_true rfl, Nat.le_of_ble_eq_true rfl⟩ rfl hS
theorem sX4_parseSum_71 (hb : bit x) : Wp mX4_parseSum d 71 L [.int x] M N P Q = Q (some (.int x)) M N P := wp_iret rfl dX4_parseSum_71 rfl (bit_n hb)
theorem sX4_parseSum_72 : Wp mX4_parseSum d 72 (.ref r :: L) S M N P Q = Wp mX4_parseSum d 73 (.ref r :: L) (.ref r :: S) M N P Q := wp_aload_n rfl dX4_parseSum_72 rfl
theorem sX4_parseSum_73 (hv : a0.category = 1) : Wp mX4_parseSum d 73 L (a0 :: S) M N P Q = Wp mX4_parseSum d 74 L (a0 :: a0 :: S) M N P Q := wp_dup rfl dX4_parseSum_73 hv
theorem sX4_parseSum_74 (hs : shk r = (4, 0)) : Wp mX4_parseSum d 74 L (.ref r :: S) M N P Q = Wp mX4_parseSum d 77 L (.int (M r 7) :: S) M N P Q := wp_getfield rfl dX4_parseSum_74 rfl rfl hs rfl
theorem sX4_parseSum_77 : Wp mX4_parseSum d 77 L S M N P Q = Wp mX4_parseSum d 78 L (.int 1 :: S) M N P Q := wp_iconst rfl dX4_parseSum_77 rfl
theorem sX4_parseSum_78 : Wp mX4_parseSum d 78 L (.int z :: .int x :: S) M N P Q = Wp mX4_parseSum d 79 L (.int (x + z) :: S) M N P Q := wp_iadd rfl dX4_parseSum_78
theorem sX4_parseSum_79 (hs : shk r = (4, 0)) : Wp mX4_parseSum d 79 L (.int x :: .ref r :: S) M N P Q = Wp mX4_parseSum d 82 L S (up2 M r 7 x) N P Q := wp_putI rfl dX4_parseSum_79 rfl rfl hs rfl ⟨_, _, _, _, rfl, by decide, rfl, tyX4_ok 7 (by decide), rfl, rfl⟩
theorem sX4_parseSum_82 : Wp mX4_parseSum d 82 (.ref r :: L) S M N P Q = Wp mX4_parseSum d 83 (.ref r :: L) (.ref r :: S) M N P Q := wp_aload_n rfl dX4_parseSum_82 rfl
theorem sX4_parseSum_83 (hs : shk r = (4, 0)) : Wp mX4_parseSum d 83 L (.ref r :: S) M N P Q = Wp mX4_parseSum d 86 L (.ref (P r 1) :: S) M N P Q := wp_getfield rfl dX4_parseSum_83 rfl rfl hs rfl
theorem sX4_parseSum_86 : Wp mX4_parseSum d 86 (a0 :: a1 :: a2 :: .int x :: L) S M N P Q = Wp mX4_parseSum d 87 (a0 :: a1 :: a2 :: .int x :: L) (.int x :: S) M N P Q := wp_iload_n rfl dX4_parseSum_86 rfl
theorem sX4_parseSum_87 : Wp mX4_parseSum d 87 L (.int x :: S) M N P Q = (if x = 0 then Wp mX4_parseSum d 94 L S M N P Q else Wp mX4_parseSum d 90 L S M N P Q) := wp_if_eq rfl dX4_parseSum_87 rfl
theorem sX4_parseSum_90 : Wp mX4_parseSum d 90 L S M N P Q = Wp mX4_parseSum d 91 L (.int 0 :: S) M N P Q := wp_iconst rfl dX4_parseSum_90 rfl
theorem sX4_parseSum_91 : Wp mX4_parseSum d 91 L S M N P Q = Wp mX4_parseSum d 95 L S M N P Q := wp_goto rfl dX4_parseSum_91 rfl
theorem sX4_parseSum_94 : Wp mX4_parseSum d 94 L S M N P Q = Wp mX4_parseSum d 95 L (.int 1 :: S) M N P Q := wp_iconst rfl dX4_parseSum_94 rfl
theorem sX4_parseSum_95 : Wp mX4_parseSum d 95 (a0 :: a1 :: a2 :: .int x :: L) S M N P Q = Wp mX4_parseSum d 96 (a0 :: a1 :: a2 :: .int x :: L) (.int x :: S) M N P Q := wp_iload_n rfl dX4_parseSum_95 rfl
theorem sX4_parseSum_96 : Wp mX4_parseSum d 96 L (.int x :: S) M N P Q = (if x = 0 then Wp mX4_parseSum d 106 L S M N P Q else Wp mX4_parseSum d 99 L S M N P Q) := wp_if_eq rfl dX4_parseSum_96 rfl
theorem sX4_parseSum_99 : Wp mX4_parseSum d 99 (.ref r :: L) S M N P Q = Wp mX4_parseSum d 100 (.ref r :: L) (.ref r :: S) M N P Q := wp_aload_n rfl dX4_parseSum_99 rfl
theorem sX4_parseSum_100 (hs : shk r = (4, 0)) : Wp mX4_parseSum d 100 L (.ref r :: S) M N P Q = Wp mX4_parseSum d 103 L (.int (M r 6) :: S) M N P Q := wp_getfield rfl dX4_parseSum_100 rfl rfl hs rfl
theorem sX4_parseSum_103 : Wp mX4_parseSum d 103 L S M N P Q = Wp mX4_parseSum d 110 L S M N P Q := wp_goto rfl dX4_parseSum_103 rfl
theorem sX4_parseSum_106 : Wp mX4_parseSum d 106 (.ref r :: L) S M N P Q = Wp mX4_parseSum d 107 (.ref r :: L) (.ref r :: S) M N P Q := wp_aload_n rfl dX4_parseSum_106 rfl
theorem sX4_parseSum_107 (hs : shk r = (4, 0)) : Wp mX4_parseSum d 107 L (.ref r :: S) M N P Q = Wp mX4_parseSum d 110 L (.int (M r 5) :: S) M N P Q := wp_getfield rfl dX4_parseSum_107 rfl rfl hs rfl
theorem sX4_parseSum_110 {x0 : Int32} {x1 : Int32} (hs : shk r = (2, 0)) (hS : stk S ≤ 8) : Wp mX4_parseSum (d + 1) 110 L (.int x1 :: .int x0 :: .ref r :: S) M N P Q = Wp mX2_write d 0 [.ref r, .int x0, .int x1] [] M N P (fun v M' N' P' => Wp mX4_parseSum (d + 1) 113 L (v.toList ++ S) M' N' P' Q) := wp_callV (As := [.int x0, .int x1]) rfl dX4_parseSum_110 rfl rfl (Or.inl ⟨_, _, _, hs, rfl⟩) rfl ⟨rfl, Nat.le_of_ble_eq_true rfl, Nat.le_of_ble_eq_true rfl⟩ rfl hS
theorem sX4_parseSum_113 : Wp mX4_parseSum d 113 (a0 :: a1 :: .int x :: L) S M N P Q = Wp mX4_parseSum d 114 (a0 :: a1 :: .int x :: L) (.int x :: S) M N P Q := wp_iload_n rfl dX4_parseSum_113 rfl
theorem sX4_parseSum_114 : Wp mX4_parseSum d 114 L (.int x :: S) M N P Q = (if x ≤ 0 then Wp mX4_parseSum d 126 L S M N P Q else Wp mX4_parseSum d 117 L S M N P Q) := wp_if_le rfl dX4_parseSum_114 rfl
theorem sX4_parseSum_117 : Wp mX4_parseSum d 117 (.ref r :: L) S M N P Q = Wp mX4_parseSum d 118 (.ref r :: L) (.ref r :: S) M N P Q := wp_aload_n rfl dX4_parseSum_117 rfl
theorem sX4_parseSum_118 (hs : shk r = (4, 0)) : Wp mX4_parseSum d 118 L (.ref r :: S) M N P Q = Wp mX4_parseSum d 121 L (.ref (P r 1) :: S) M N P Q := wp_getfield rfl dX4_parseSum_118 rfl rfl hs rfl
theorem sX4_parseSum_121 : Wp mX4_parseSum d 121 (a0 :: .int x :: L) S M N P Q = Wp mX4_parseSum d 122 (a0 :: .int x :: L) (.int x :: S) M N P Q := wp_iload_n rfl dX4_parseSum_121 rfl
theorem sX4_parseSum_122 : Wp mX4_parseSum d 122 L S M N P Q = Wp mX4_parseSum d 123 L (.int 0 :: S) M N P Q := wp_iconst rfl dX4_parseSum_122 rfl
theorem sX4_parseSum_123 {x0 : Int32} {x1 : Int32} (hs : shk r = (2, 0)) (hS : stk S ≤ 8) : Wp mX4_parseSum (d + 1) 123 L (.int x1 :: .int x0 :: .ref r :: S) M N P Q = Wp mX2_write d 0 [.ref r, .int x0, .int x1] [] M N P (fun v M' N' P' => Wp mX4_parseSum (d + 1) 126 L (v.toList ++ S) M' N' P' Q) := wp_callV (As := [.int x0, .int x1]) rfl dX4_parseSum_123 rfl rfl (Or.inl ⟨_, _, _, hs, rfl⟩) rfl ⟨rfl, Nat.le_of_ble_eq_true rfl, Nat.le_of_ble_eq_true rfl⟩ rfl hS
theorem sX4_parseSum_126 : Wp mX4_parseSum d 126 (.ref r :: L) S M N P Q = Wp mX4_parseSum d 127 (.ref r :: L) (.ref r :: S) M N P Q := wp_aload_n rfl dX4_parseSum_126 rfl
theorem sX4_parseSum_127 : Wp mX4_parseSum d 127 (.ref r :: L) S M N P Q = Wp mX4_parseSum d 128 (.ref r :: L) (.ref r :: S) M N P Q := wp_aload_n rfl dX4_parseSum_127 rfl
theorem sX4_parseSum_128 (hs : shk r = (4, 0)) : Wp mX4_parseSum d 128 L (.ref r :: S) M N P Q = Wp mX4_parseSum d 131 L (.int (M r 4) :: S) M N P Q := wp_getfield rfl dX4_parseSum_128 rfl rfl hs rfl
theorem sX4_parseSum_131 : Wp mX4_parseSum d 131 L S M N P Q = Wp mX4_parseSum d 132 L (.int 1 :: S) M N P Q := wp_iconst rfl dX4_parseSum_131 rfl
theorem sX4_parseSum_132 : Wp mX4_parseSum d 132 L (.int z :: .int x :: S) M N P Q = Wp mX4_parseSum d 133 L (.int (x + z) :: S) M N P Q := wp_iadd rfl dX4_parseSum_132
theorem sX4_parseSum_133 {x0 : Int32} (hs : shk r = (4, 0)) (hS : stk S ≤ 8) : Wp mX4_parseSum (d + 1) 133 L (.int x0 :: .ref r :: S) M N P Q = Wp mX4_moveTo d 0 [.ref r, .int x0, .float 0] [] M N P (fun v M' N' P' => Wp mX4_parseSum (d + 1) 136 L (v.toList ++ S) M' N' P' Q) := wp_callV (As := [.int x0]) rfl dX4_parseSum_133 rfl rfl (Or.inl ⟨_, _, _, hs, rfl⟩) rfl ⟨rfl, Nat.le_of_ble_eq_true rfl, Nat.le_of_ble_eq_true rfl⟩ rfl hS
theorem sX4_parseSum_136 : Wp mX4_parseSum d 136 (.ref r :: L) S M N P Q = Wp mX4_parseSum d 137 (.ref r :: L) (.ref r :: S) M N P Q := wp_aload_n rfl dX4_parseSum_136 rfl
theorem sX4_parseSum_137 (hs : shk r = (4, 0)) : Wp mX4_parseSum d 137 L (.ref r :: S) M N P Q = Wp mX4_parseSum d 140 L (.int (M r 5) :: S) M N P Q := wp_getfield rfl dX4_parseSum_137 rfl rfl hs rfl
theorem sX4_parseSum_140 : Wp mX4_parseSum d 140 L S M N P Q = Wp mX4_parseSum d 142 L (.int 28 :: S) M N P Q := wp_bipush rfl dX4_parseSum_140 rfl
theorem sX4_parseSum_142 : Wp mX4_parseSum d 142 L (.int z :: .int x :: S) M N P Q = (if x = z then Wp mX4_parseSum d 156 L S M N P Q else Wp mX4_parseSum d 145 L S M N P Q) := wp_icmp_eq rfl dX4_parseSum_142 rfl
theorem sX4_parseSum_145 : Wp mX4_parseSum d 145 (.ref r :: L) S M N P Q = Wp mX4_parseSum d 146 (.ref r :: L) (.ref r :: S) M N P Q := wp_aload_n rfl dX4_parseSum_145 rfl
theorem sX4_parseSum_146 (hs : shk r = (4, 0)) : Wp mX4_parseSum d 146 L (.ref r :: S) M N P Q = Wp mX4_parseSum d 149 L (.int (M r 5) :: S) M N P Q := wp_getfield rfl dX4_parseSum_146 rfl rfl hs rfl
theorem sX4_parseSum_149 : Wp mX4_parseSum d 149 L S M N P Q = Wp mX4_parseSum d 151 L (.int 29 :: S) M N P Q := wp_bipush rfl dX4_parseSum_149 rfl
theorem sX4_parseSum_151 : Wp mX4_parseSum d 151 L (.int z :: .int x :: S) M N P Q = (if x = z then Wp mX4_parseSum d 156 L S M N P Q else Wp mX4_parseSum d 154 L S M N P Q) := wp_icmp_eq rfl dX4_parseSum_151 rfl
theorem sX4_parseSum_154 : Wp mX4_parseSum d 154 L S M N P Q = Wp mX4_parseSum d 155 L (.int 1 :: S) M N P Q := wp_iconst rfl dX4_parseSum_154 rfl
theorem sX4_parseSum_155 (hb : bit x) : Wp mX4_parseSum d 155 L [.int x] M N P Q = Q (some (.int x)) M N P := wp_iret rfl dX4_parseSum_155 rfl (bit_n hb)
theorem sX4_parseSum_156 : Wp mX4_parseSum d 156 (.ref r :: L) S M N P Q = Wp mX4_parseSum d 157 (.ref r :: L) (.ref r :: S) M N P Q := wp_aload_n rfl dX4_parseSum_156 rfl
theorem sX4_parseSum_157 (hs : shk r = (4, 0)) : Wp mX4_parseSum d 157 L (.ref r :: S) M N P Q = Wp mX4_parseSum d 160 L (.int (M r 5) :: S) M N P Q := wp_getfield rfl dX4_parseSum_157 rfl rfl hs rfl
theorem sX4_parseSum_160 : Wp mX4_parseSum d 160 L S M N P Q = Wp mX4_parseSum d 162 L (.int 28 :: S) M N P Q := wp_bipush rfl dX4_parseSum_160 rfl
theorem sX4_parseSum_162 : Wp mX4_parseSum d 162 L (.int z :: .int x :: S) M N P Q = (if x = z then Wp mX4_parseSum d 165 L S M N P Q else Wp mX4_parseSum d 170 L S M N P Q) := wp_icmp_ne rfl dX4_parseSum_162 rfl
theorem sX4_parseSum_165 : Wp mX4_parseSum d 165 L S M N P Q = Wp mX4_parseSum d 167 L (.int 8 :: S) M N P Q := wp_bipush rfl dX4_parseSum_165 rfl
theorem sX4_parseSum_167 : Wp mX4_parseSum d 167 L S M N P Q = Wp mX4_parseSum d 172 L S M N P Q := wp_goto rfl dX4_parseSum_167 rfl
theorem sX4_parseSum_170 : Wp mX4_parseSum d 170 L S M N P Q = Wp mX4_parseSum d 172 L (.int 9 :: S) M N P Q := wp_bipush rfl dX4_parseSum_170 rfl
theorem sX4_parseSum_172 (hn : nl a0 = true) : Wp mX4_parseSum d 172 (a0 :: a1 :: L) (.int x :: S) M N P Q = Wp mX4_parseSum d 173 (a0 :: .int x :: L) S M N P Q := wp_istore_n rfl dX4_parseSum_172 (lenGt1 ..) (okst1 hn) rfl
theorem sX4_parseSum_173 : Wp mX4_parseSum d 173 (.ref r :: L) S M N P Q = Wp mX4_parseSum d 174 (.ref r :: L) (.ref r :: S) M N P Q := wp_aload_n rfl dX4_parseSum_173 rfl
theorem sX4_parseSum_174 : Wp mX4_parseSum d 174 (.ref r :: L) S M N P Q = Wp mX4_parseSum d 175 (.ref r :: L) (.ref r :: S) M N P Q := wp_aload_n rfl dX4_parseSum_174 rfl
theorem sX4_parseSum_175 (hs : shk r = (4, 0)) : Wp mX4_parseSum d 175 L (.ref r :: S) M N P Q = Wp mX4_parseSum d 178 L (.int (M r 4) :: S) M N P Q := wp_getfield rfl dX4_parseSum_175 rfl rfl hs rfl
theorem sX4_parseSum_178 : Wp mX4_parseSum d 178 L S M N P Q = Wp mX4_parseSum d 179 L (.int 1 :: S) M N P Q := wp_iconst rfl dX4_parseSum_178 rfl
theorem sX4_parseSum_179 : Wp mX4_parseSum d 179 L (.int z :: .int x :: S) M N P Q = Wp mX4_parseSum d 180 L (.int (x + z) :: S) M N P Q := wp_iadd rfl dX4_parseSum_179
theorem sX4_parseSum_180 {x0 : Int32} (hs : shk r = (4, 0)) (hS : stk S ≤ 8) : Wp mX4_parseSum (d + 1) 180 L (.int x0 :: .ref r :: S) M N P Q = Wp mX4_moveTo d 0 [.ref r, .int x0, .float 0] [] M N P (fun v M' N' P' => Wp mX4_parseSum (d + 1) 183 L (v.toList ++ S) M' N' P' Q) := wp_callV (As := [.int x0]) rfl dX4_parseSum_180 rfl rfl (Or.inl ⟨_, _, _, hs, rfl⟩) rfl ⟨rfl, Nat.le_of_ble_eq_true rfl, Nat.le_of_ble_eq_true rfl⟩ rfl hS
theorem sX4_parseSum_183 (hn : nl a1 = true) : Wp mX4_parseSum d 183 (a0 :: a1 :: .int x :: L) S M N P Q = Wp mX4_parseSum d 186 (a0 :: a1 :: .int (x + 1) :: L) S M N P Q := wp_iinc rfl dX4_parseSum_183 rfl rfl (okst2 hn) rfl
theorem sX4_parseSum_186 : Wp mX4_parseSum d 186 L S M N P Q = Wp mX4_parseSum d 5 L S M N P Q := wp_goto rfl dX4_parseSum_186 rfl
theorem sX4_parseSum_189 : Wp mX4_parseSum d 189 (.ref r :: L) S M N P Q = Wp mX4_parseSum d 190 (.ref r :: L) (.ref r :: S) M N P Q := wp_aload_n rfl dX4_parseSum_189 rfl
theorem sX4_parseSum_190 (hs : shk r = (4, 0)) (hS : stk S ≤ 8) : Wp mX4_parseSum (d + 1) 190 L (.ref r :: S) M N P Q = Wp mX4_refuse d 0 [.ref r] [] M N P (fun v M' N' P' => Wp mX4_parseSum (d + 1) 193 L (v.toList ++ S) M' N' P' Q) := wp_callV (As := []) rfl dX4_parseSum_190 rfl rfl (Or.inl ⟨_, _, _, hs, rfl⟩) rfl ⟨rfl, Nat.le_of_ble_eq_true rfl, Nat.le_of_ble_eq_true rfl⟩ rfl hS
theorem sX4_parseSum_193 (hb : bit x) : Wp mX4_parseSum d 193 L [.int x] M N P Q = Q (some (.int x)) M N P := wp_iret rfl dX4_parseSum_193 rfl (bit_n hb)
theorem sX6_divide_0 : Wp mX6_divide d 0 (.ref r :: L) S M N P Q = Wp mX6_divide d 1 (.ref r :: L) (.ref r :: S) M N P Q := wp_aload_n rfl dX6_divide_0 rfl
theorem sX6_divide_1 : Wp mX6_divide d 1 (a0 :: a1 :: .int x :: L) S M N P Q = Wp mX6_divide d 2 (a0 :: a1 :: .int x :: L) (.int x :: S) M N P Q := wp_iload_n rfl dX6_divide_1 rfl
theorem sX6_divide_2 {x0 : Int32} (hs : shk r = (6, 0)) (hS : stk S ≤ 8) : Wp mX6_divide (d + 1) 2 L (.int x0 :: .ref r :: S) M N P Q = Wp mX6_findHeirs d 0 [.ref r, .int x0, .float 0, .float 0] [] M N P (fun v M' N' P' => Wp mX6_divide (d + 1) 5 L (v.toList ++ S) M' N' P' Q) := wp_callV (As := [.int x0]) rfl dX6_divide_2 rfl rfl (Or.inl ⟨_, _, _, hs, rfl⟩) rfl ⟨rfl, Nat.le_of_ble_eq_true rfl, Nat.le_of_ble_eq_true rfl⟩ rfl hS
theorem sX6_divide_5 : Wp mX6_divide d 5 L S M N P Q = Wp mX6_divide d 6 L (.int 0 :: S) M N P Q := wp_iconst rfl dX6_divide_5 rfl
theorem sX6_divide_6 (hn : nl a2 = true) : Wp mX6_divide d 6 (a0 :: a1 :: a2 :: a3 :: L) (.int x :: S) M N P Q = Wp mX6_divide d 7 (a0 :: a1 :: a2 :: .int x :: L) S M N P Q := wp_istore_n rfl dX6_divide_6 (lenGt3 ..) (okst3 hn) rfl
theorem sX6_divide_7 : Wp mX6_divide d 7 (a0 :: a1 :: a2 :: .int x :: L) S M N P Q = Wp mX6_divide d 8 (a0 :: a1 :: a2 :: .int x :: L) (.int x :: S) M N P Q := wp_iload_n rfl dX6_divide_7 rfl
theorem sX6_divide_8 : Wp mX6_divide d 8 (.ref r :: L) S M N P Q = Wp mX6_divide d 9 (.ref r :: L) (.ref r :: S) M N P Q := wp_aload_n rfl dX6_divide_8 rfl
theorem sX6_divide_9 (hs : shk r = (6, 0)) : Wp mX6_divide d 9 L (.ref r :: S) M N P Q = Wp mX6_divide d 12 L (.ref (P r 0) :: S) M N P Q := wp_getfield rfl dX6_divide_9 rfl rfl hs rfl
theorem sX6_divide_12 (hs : shk r = (5, 0)) : Wp mX6_divide d 12 L (.ref r :: S) M N P Q = Wp mX6_divide d 15 L (.int (M r 3) :: S) M N P Q := wp_getfield rfl dX6_divide_12 rfl rfl hs rfl
theorem sX6_divide_15 : Wp mX6_divide d 15 L (.int z :: .int x :: S) M N P Q = (if z ≤ x then Wp mX6_divide d 43 L S M N P Q else Wp mX6_divide d 18 L S M N P Q) := wp_icmp_ge rfl dX6_divide_15 rfl
theorem sX6_divide_18 : Wp mX6_divide d 18 (.ref r :: L) S M N P Q = Wp mX6_divide d 19 (.ref r :: L) (.ref r :: S) M N P Q := wp_aload_n rfl dX6_divide_18 rfl
theorem sX6_divide_19 (hs : shk r = (6, 0)) : Wp mX6_divide d 19 L (.ref r :: S) M N P Q = Wp mX6_divide d 22 L (.ref (P r 3) :: S) M N P Q := wp_getfield rfl dX6_divide_19 rfl rfl hs rfl
theorem sX6_divide_22 : Wp mX6_divide d 22 (a0 :: a1 :: a2 :: .int x :: L) S M N P Q = Wp mX6_divide d 23 (a0 :: a1 :: a2 :: .int x :: L) (.int x :: S) M N P Q := wp_iload_n rfl dX6_divide_22 rfl
theorem sX6_divide_23 : Wp mX6_divide d 23 (a0 :: a1 :: a2 :: .int x :: L) S M N P Q = Wp mX6_divide d 24 (a0 :: a1 :: a2 :: .int x :: L) (.int x :: S) M N P Q := wp_iload_n rfl dX6_divide_23 rfl
theorem sX6_divide_24 : Wp mX6_divide d 24 (a0 :: .int x :: L) S M N P Q = Wp mX6_divide d 25 (a0 :: .int x :: L) (.int x :: S) M N P Q := wp_iload_n rfl dX6_divide_24 rfl
theorem sX6_divide_25 : Wp mX6_divide d 25 L (.int z :: .int x :: S) M N P Q = (if x = z then Wp mX6_divide d 28 L S M N P Q else Wp mX6_divide d 35 L S M N P Q) := wp_icmp_ne rfl dX6_divide_25 rfl
theorem sX6_divide_28 : Wp mX6_divide d 28 (.ref r :: L) S M N P Q = Wp mX6_divide d 29 (.ref r :: L) (.ref r :: S) M N P Q := wp_aload_n rfl dX6_divide_28 rfl
theorem sX6_divide_29 (hs : shk r = (6, 0)) : Wp mX6_divide d 29 L (.ref r :: S) M N P Q = Wp mX6_divide d 32 L (.long (N r 4) :: S) M N P Q := wp_getfield rfl dX6_divide_29 rfl rfl hs rfl
theorem sX6_divide_32 : Wp mX6_divide d 32 L S M N P Q = Wp mX6_divide d 36 L S M N P Q := wp_goto rfl dX6_divide_32 rfl
theorem sX6_divide_35 : Wp mX6_divide d 35 L S M N P Q = Wp mX6_divide d 36 L (.long 0 :: S) M N P Q := wp_lconst rfl dX6_divide_35 rfl
theorem sX6_divide_36 (hs : (shk r).1 = 104) : Wp mX6_divide d 36 L (.long lx :: .int j :: .ref r :: S) M N P Q = (vp_in j (shk r).2 ∧ Wp mX6_divide d 37 L S M (up2 N r j.toNatClampNeg lx) P Q) := wp_lastore rfl dX6_divide_36 (kd hs)
theorem sX6_divide_37 (hn : nl a2 = true) : Wp mX6_divide d 37 (a0 :: a1 :: a2 :: .int x :: L) S M N P Q = Wp mX6_divide d 40 (a0 :: a1 :: a2 :: .int (x + 1) :: L) S M N P Q := wp_iinc rfl dX6_divide_37 rfl rfl (okst3 hn) rfl
theorem sX6_divide_40 : Wp mX6_divide d 40 L S M N P Q = Wp mX6_divide d 7 L S M N P Q := wp_goto rfl dX6_divide_40 rfl
theorem sX6_divide_43 : Wp mX6_divide d 43 L S M N P Q = Wp mX6_divide d 44 L (.int 0 :: S) M N P Q := wp_iconst rfl dX6_divide_43 rfl
theorem sX6_divide_44 (hn : nl a2 = true) : Wp mX6_divide d 44 (a0 :: a1 :: a2 :: a3 :: L) (.int x :: S) M N P Q = Wp mX6_divide d 45 (a0 :: a1 :: a2 :: .int x :: L) S M N P Q := wp_istore_n rfl dX6_divide_44 (lenGt3 ..) (okst3 hn) rfl
theorem sX6_divide_45 : Wp mX6_divide d 45 (a0 :: a1 :: a2 :: .int x :: L) S M N P Q = Wp mX6_divide d 46 (a0 :: a1 :: a2 :: .int x :: L) (.int x :: S) M N P Q := wp_iload_n rfl dX6_divide_45 rfl
theorem sX6_divide_46 : Wp mX6_divide d 46 (.ref r :: L) S M N P Q = Wp mX6_divide d 47 (.ref r :: L) (.ref r :: S) M N P Q := wp_aload_n rfl dX6_divide_46 rfl
theorem sX6_divide_47 (hs : shk r = (6, 0)) : Wp mX6_divide d 47 L (.ref r :: S) M N P Q = Wp mX6_divide d 50 L (.ref (P r 0) :: S) M N P Q := wp_getfield rfl dX6_divide_47 rfl rfl hs rfl
theorem sX6_divide_50 (hs : shk r = (5, 0)) : Wp mX6_divide d 50 L (.ref r :: S) M N P Q = Wp mX6_divide d 53 L (.int (M r 3) :: S) M N P Q := wp_getfield rfl dX6_divide_50 rfl rfl hs rfl
theorem sX6_divide_53 : Wp mX6_divide d 53 L (.int z :: .int x :: S) M N P Q = (if z ≤ x then Wp mX6_divide d 90 L S M N P Q else Wp mX6_divide d 56 L S M N P Q) := wp_icmp_ge rfl dX6_divide_53 rfl
theorem sX6_divide_56 : Wp mX6_divide d 56 (.ref r :: L) S M N P Q = Wp mX6_divide d 57 (.ref r :: L) (.ref r :: S) M N P Q := wp_aload_n rfl dX6_divide_56 rfl
theorem sX6_divide_57 (hs : shk r = (6, 0)) : Wp mX6_divide d 57 L (.ref r :: S) M N P Q = Wp mX6_divide d 60 L (.ref (P r 3) :: S) M N P Q := wp_getfield rfl dX6_divide_57 rfl rfl hs rfl
theorem sX6_divide_60 : Wp mX6_divide d 60 (a0 :: a1 :: a2 :: .int x :: L) S M N P Q = Wp mX6_divide d 61 (a0 :: a1 :: a2 :: .int x :: L) (.int x :: S) M N P Q := wp_iload_n rfl dX6_divide_60 rfl
theorem sX6_divide_61 (hs : (shk r).1 = 104) : Wp mX6_divide d 61 L (.int j :: .ref r :: S) M N P Q = (vp_in j (shk r).2 ∧ Wp mX6_divide d 62 L (.long (N r j.toNatClampNeg) :: S) M N P Q) := wp_laload rfl dX6_divide_61 (kd hs)
theorem sX6_divide_62 : Wp mX6_divide d 62 L S M N P Q = Wp mX6_divide d 63 L (.long 0 :: S) M N P Q := wp_lconst rfl dX6_divide_62 rfl
theorem sX6_divide_63 : Wp mX6_divide d 63 L (.long lz :: .long lx :: S) M N P Q = Wp mX6_divide d 64 L (.int (lg_cmp lx lz) :: S) M N P Q := wp_lcmp rfl dX6_divide_63
theorem sX6_divide_64 : Wp mX6_divide d 64 L (.int x :: S) M N P Q = (if x ≤ 0 then Wp mX6_divide d 84 L S M N P Q else Wp mX6_divide d 67 L S M N P Q) := wp_if_le rfl dX6_divide_64 rfl
theorem sX6_divide_67 : Wp mX6_divide d 67 (.ref r :: L) S M N P Q = Wp mX6_divide d 68 (.ref r :: L) (.ref r :: S) M N P Q := wp_aload_n rfl dX6_divide_67 rfl
theorem sX6_divide_68 (hs : shk r = (6, 0)) : Wp mX6_divide d 68 L (.ref r :: S) M N P Q = Wp mX6_divide d 71 L (.ref (P r 0) :: S) M N P Q := wp_getfield rfl dX6_divide_68 rfl rfl hs rfl
theorem sX6_divide_71 : Wp mX6_divide d 71 (a0 :: a1 :: a2 :: .int x :: L) S M N P Q = Wp mX6_divide d 72 (a0 :: a1 :: a2 :: .int x :: L) (.int x :: S) M N P Q := wp_iload_n rfl dX6_divide_71 rfl
theorem sX6_divide_72 : Wp mX6_divide d 72 (a0 :: a1 :: .int x :: L) S M N P Q = Wp mX6_divide d 73 (a0 :: a1 :: .int x :: L) (.int x :: S) M N P Q := wp_iload_n rfl dX6_divide_72 rfl
theorem sX6_divide_73 {x0 : Int32} {x1 : Int32} (hs : shk r = (5, 0)) (hS : stk S ≤ 8) : Wp mX6_divide (d + 1) 73 L (.int x1 :: .int x0 :: .ref r :: S) M N P Q = Wp mX5_isDeadOn d 0 [.ref r, .int x0, .int x1] [] M N P (fun v M' N' P' => Wp mX6_divide (d + 1) 76 L (v.toList ++ S) M' N' P' Q) := wp_callV (As := [.int x0, .int x1]) rfl dX6_divide_73 rfl rfl (Or.inl ⟨_, _, _, hs, rfl⟩) rfl ⟨rfl, Nat.le_of_ble_eq_true rfl, Nat.le_of_ble_eq_true rfl⟩ rfl hS
theorem sX6_divide_76 : Wp mX6_divide d 76 L (.int x :: S) M N P Q = (if x = 0 then Wp mX6_divide d 84 L S M N P Q else Wp mX6_divide d 79 L S M N P Q) := wp_if_eq rfl dX6_divide_76 rfl
theorem sX6_divide_79 : Wp mX6_divide d 79 (.ref r :: L) S M N P Q = Wp mX6_divide d 80 (.ref r :: L) (.ref r :: S) M N P Q := wp_aload_n rfl dX6_divide_79 rfl
theorem sX6_divide_80 : Wp mX6_divide d 80 (a0 :: a1 :: a2 :: .int x :: L) S M N P Q = Wp mX6_divide d 81 (a0 :: a1 :: a2 :: .int x :: L) (.int x :: S) M N P Q := wp_iload_n rfl dX6_divide_80 rfl
theorem sX6_divide_81 {x0 : Int32} (hs : shk r = (6, 0)) (hS : stk S ≤ 8) : Wp mX6_divide (d + 1) 81 L (.int x0 :: .ref r :: S) M N P Q = Wp mX6_handOn d 0 [.ref r, .int x0, .float 0, .float 0, .float 0] [] M N P (fun v M' N' P' => Wp mX6_divide (d + 1) 84 L (v.toList ++ S) M' N' P' Q) := wp_callV (As := [.int x0]) rfl dX6_divide_81 rfl rfl (Or.inl ⟨_, _, _, hs, rfl⟩) rfl ⟨rfl, Nat.le_of_ble_eq_true rfl, Nat.le_of_ble_eq_true rfl⟩ rfl hS
theorem sX6_divide_84 (hn : nl a2 = true) : Wp mX6_divide d 84 (a0 :: a1 :: a2 :: .int x :: L) S M N P Q = Wp mX6_divide d 87 (a0 :: a1 :: a2 :: .int (x + 1) :: L) S M N P Q := wp_iinc rfl dX6_divide_84 rfl rfl (okst3 hn) rfl
theorem sX6_divide_87 : Wp mX6_divide d 87 L S M N P Q = Wp mX6_divide d 45 L S M N P Q := wp_goto rfl dX6_divide_87 rfl
theorem sX6_divide_90 : Wp mX6_divide d 90 L [] M N P Q = Q none M N P := wp_vret rfl dX6_divide_90 rfl
theorem sX6_findHeirs_0 : Wp mX6_findHeirs d 0 (.ref r :: L) S M N P Q = Wp mX6_findHeirs d 1 (.ref r :: L) (.ref r :: S) M N P Q := wp_aload_n rfl dX6_findHeirs_0 rfl
theorem sX6_findHeirs_1 : Wp mX6_findHeirs d 1 L S M N P Q = Wp mX6_findHeirs d 2 L (.long 1 :: S) M N P Q := wp_lconst rfl dX6_findHeirs_1 rfl
theorem sX6_findHeirs_2 (hs : shk r = (6, 0)) : Wp mX6_findHeirs d 2 L (.long lx :: .ref r :: S) M N P Q = Wp mX6_findHeirs d 5 L S M (up2 N r 4 lx) P Q := wp_putL rfl dX6_findHeirs_2 rfl rfl hs rfl ⟨_, _, _, _, rfl, by decide, rfl, tyX6_ok 4 (by decide), rfl, rfl⟩
theorem sX6_findHeirs_5 : Wp mX6_findHeirs d 5 (.ref r :: L) S M N P Q = Wp mX6_findHeirs d 6 (.ref r :: L) (.ref r :: S) M N P Q := wp_aload_n rfl dX6_findHeirs_5 rfl
theorem sX6_findHeirs_6 (hs : shk r = (6, 0)) : Wp mX6_findHeirs d 6 L (.ref r :: S) M N P Q = Wp mX6_findHeirs d 9 L (.ref (P r 0) :: S) M N P Q := wp_getfield rfl dX6_findHeirs_6 rfl rfl hs rfl
theorem sX6_findHeirs_9 (hs : shk r = (5, 0)) : Wp mX6_findHeirs d 9 L (.ref r :: S) M N P Q = Wp mX6_findHeirs d 12 L (.int (M r 3) :: S) M N P Q := wp_getfield rfl dX6_findHeirs_9 rfl rfl hs rfl
theorem sX6_findHeirs_12 : Wp mX6_findHeirs d 12 L S M N P Q = Wp mX6_findHeirs d 13 L (.int 1 :: S) M N P Q := wp_iconst rfl dX6_findHeirs_12 rfl
theorem sX6_findHeirs_13 : Wp mX6_findHeirs d 13 L (.int z :: .int x :: S) M N P Q = Wp mX6_findHeirs d 14 L (.int (x - z) :: S) M N P Q := wp_isub rfl dX6_findHeirs_13
theorem sX6_findHeirs_14 (hn : nl a1 = true) : Wp mX6_findHeirs d 14 (a0 :: a1 :: a2 :: L) (.int x :: S) M N P Q = Wp mX6_findHeirs d 15 (a0 :: a1 :: .int x :: L) S M N P Q := wp_istore_n rfl dX6_findHeirs_14 (lenGt2 ..) (okst2 hn) rfl
theorem sX6_findHeirs_15 : Wp mX6_findHeirs d 15 (a0 :: a1 :: .int x :: L) S M N P Q = Wp mX6_findHeirs d 16 (a0 :: a1 :: .int x :: L) (.int x :: S) M N P Q := wp_iload_n rfl dX6_findHeirs_15 rfl
theorem sX6_findHeirs_16 : Wp mX6_findHeirs d 16 L (.int x :: S) M N P Q = (if x < 0 then Wp mX6_findHeirs d 135 L S M N P Q else Wp mX6_findHeirs d 19 L S M N P Q) := wp_if_lt rfl dX6_findHeirs_16 rfl
theorem sX6_findHeirs_19 : Wp mX6_findHeirs d 19 (.ref r :: L) S M N P Q = Wp mX6_findHeirs d 20 (.ref r :: L) (.ref r :: S) M N P Q := wp_aload_n rfl dX6_findHeirs_19 rfl
theorem sX6_findHeirs_20 (hs : shk r = (6, 0)) : Wp mX6_findHeirs d 20 L (.ref r :: S) M N P Q = Wp mX6_findHeirs d 23 L (.ref (P r 1) :: S) M N P Q := wp_getfield rfl dX6_findHeirs_20 rfl rfl hs rfl
theorem sX6_findHeirs_23 : Wp mX6_findHeirs d 23 (a0 :: a1 :: .int x :: L) S M N P Q = Wp mX6_findHeirs d 24 (a0 :: a1 :: .int x :: L) (.int x :: S) M N P Q := wp_iload_n rfl dX6_findHeirs_23 rfl
theorem sX6_findHeirs_24 : Wp mX6_findHeirs d 24 L S M N P Q = Wp mX6_findHeirs d 25 L (.int 0 :: S) M N P Q := wp_iconst rfl dX6_findHeirs_24 rfl
theorem sX6_findHeirs_25 (hs : (shk r).1 = 100) : Wp mX6_findHeirs d 25 L (.int x :: .int j :: .ref r :: S) M N P Q = (vp_in j (shk r).2 ∧ Wp mX6_findHeirs d 26 L S (up2 M r j.toNatClampNeg x) N P Q) := wp_iastore rfl dX6_findHeirs_25 (kd hs)
theorem sX6_findHeirs_26 : Wp mX6_findHeirs d 26 (a0 :: a1 :: .int x :: L) S M N P Q = Wp mX6_findHeirs d 27 (a0 :: a1 :: .int x :: L) (.int x :: S) M N P Q := wp_iload_n rfl dX6_findHeirs_26 rfl
theorem sX6_findHeirs_27 : Wp mX6_findHeirs d 27 L S M N P Q = Wp mX6_findHeirs d 28 L (.int 1 :: S) M N P Q := wp_iconst rfl dX6_findHeirs_27 rfl
theorem sX6_findHeirs_28 : Wp mX6_findHeirs d 28 L (.int z :: .int x :: S) M N P Q = Wp mX6_findHeirs d 29 L (.int (x + z) :: S) M N P Q := wp_iadd rfl dX6_findHeirs_28
theorem sX6_findHeirs_29 (hn : nl a2 = true) : Wp mX6_findHeirs d 29 (a0 :: a1 :: a2 :: a3 :: L) (.int x :: S) M N P Q = Wp mX6_findHeirs d 30 (a0 :: a1 :: a2 :: .int x :: L) S M N P Q := wp_istore_n rfl dX6_findHeirs_29 (lenGt3 ..) (okst3 hn) rfl
theorem sX6_findHeirs_30 : Wp mX6_findHeirs d 30 (a0 :: a1 :: a2 :: .int x :: L) S M N P Q = Wp mX6_findHeirs d 31 (a0 :: a1 :: a2 :: .int x :: L) (.int x :: S) M N P Q := wp_iload_n rfl dX6_findHeirs_30 rfl
theorem sX6_findHeirs_31 : Wp mX6_findHeirs d 31 (.ref r :: L) S M N P Q = Wp mX6_findHeirs d 32 (.ref r :: L) (.ref r :: S) M N P Q := wp_aload_n rfl dX6_findHeirs_31 rfl
theorem sX6_findHeirs_32 (hs : shk r = (6, 0)) : Wp mX6_findHeirs d 32 L (.ref r :: S) M N P Q = Wp mX6_findHeirs d 35 L (.ref (P r 0) :: S) M N P Q := wp_getfield rfl dX6_findHeirs_32 rfl rfl hs rfl
theorem sX6_findHeirs_35 (hs : shk r = (5, 0)) : Wp mX6_findHeirs d 35 L (.ref r :: S) M N P Q = Wp mX6_findHeirs d 38 L (.int (M r 3) :: S) M N P Q := wp_getfield rfl dX6_findHeirs_35 rfl rfl hs rfl
theorem sX6_findHeirs_38 : Wp mX6_findHeirs d 38 L (.int z :: .int x :: S) M N P Q = (if z ≤ x then Wp mX6_findHeirs d 66 L S M N P Q else Wp mX6_findHeirs d 41 L S M N P Q) := wp_icmp_ge rfl dX6_findHeirs_38 rfl
theorem sX6_findHeirs_41 : Wp mX6_findHeirs d 41 (.ref r :: L) S M N P Q = Wp mX6_findHeirs d 42 (.ref r :: L) (.ref r :: S) M N P Q := wp_aload_n rfl dX6_findHeirs_41 rfl
theorem sX6_findHeirs_42 : Wp mX6_findHeirs d 42 (a0 :: a1 :: a2 :: .int x :: L) S M N P Q = Wp mX6_findHeirs d 43 (a0 :: a1 :: a2 :: .int x :: L) (.int x :: S) M N P Q := wp_iload_n rfl dX6_findHeirs_42 rfl
theorem sX6_findHeirs_43 : Wp mX6_findHeirs d 43 (a0 :: a1 :: .int x :: L) S M N P Q = Wp mX6_findHeirs d 44 (a0 :: a1 :: .int x :: L) (.int x :: S) M N P Q := wp_iload_n rfl dX6_findHeirs_43 rfl
theorem sX6_findHeirs_44 {x0 : Int32} {x1 : Int32} (hs : shk r = (6, 0)) (hS : stk S ≤ 8) : Wp mX6_findHeirs (d + 1) 44 L (.int x1 :: .int x0 :: .ref r :: S) M N P Q = Wp mX6_isHeir d 0 [.ref r, .int x0, .int x1] [] M N P (fun v M' N' P' => Wp mX6_findHeirs (d + 1) 47 L (v.toList ++ S) M' N' P' Q) := wp_callV (As := [.int x0, .int x1]) rfl dX6_findHeirs_44 rfl rfl (Or.inl ⟨_, _, _, hs, rfl⟩) rfl ⟨rfl, Nat.le_of_ble_eq_true rfl, Nat.le_of_ble_eq_true rfl⟩ rfl hS
theorem sX6_findHeirs_47 : Wp mX6_findHeirs d 47 L (.int x :: S) M N P Q = (if x = 0 then Wp mX6_findHeirs d 60 L S M N P Q else Wp mX6_findHeirs d 50 L S M N P Q) := wp_if_eq rfl dX6_findHeirs_47 rfl
theorem sX6_findHeirs_50 : Wp mX6_findHeirs d 50 (.ref r :: L) S M N P Q = Wp mX6_findHeirs d 51 (.ref r :: L) (.ref r :: S) M N P Q := wp_aload_n rfl dX6_findHeirs_50 rfl
theorem sX6_findHeirs_51 (hs : shk r = (6, 0)) : Wp mX6_findHeirs d 51 L (.ref r :: S) M N P Q = Wp mX6_findHeirs d 54 L (.ref (P r 1) :: S) M N P Q := wp_getfield rfl dX6_findHeirs_51 rfl rfl hs rfl
theorem sX6_findHeirs_54 : Wp mX6_findHeirs d 54 (a0 :: a1 :: .int x :: L) S M N P Q = Wp mX6_findHeirs d 55 (a0 :: a1 :: .int x :: L) (.int x :: S) M N P Q := wp_iload_n rfl dX6_findHeirs_54 rfl
theorem sX6_findHeirs_55 (hv : a0.category = 1) (hu : a1.category = 1) : Wp mX6_findHeirs d 55 L (a0 :: a1 :: S) M N P Q = Wp mX6_findHeirs d 56 L (a0 :: a1 :: a0 :: a1 :: S) M N P Q := wp_dup2 rfl dX6_findHeirs_55 hv hu
theorem sX6_findHeirs_56 (hs : (shk r).1 = 100) : Wp mX6_findHeirs d 56 L (.int j :: .ref r :: S) M N P Q = (vp_in j (shk r).2 ∧ Wp mX6_findHeirs d 57 L (.int (M r j.toNatClampNeg) :: S) M N P Q) := wp_iaload rfl dX6_findHeirs_56 (kd hs)
theorem sX6_findHeirs_57 : Wp mX6_findHeirs d 57 L S M N P Q = Wp mX6_findHeirs d 58 L (.int 1 :: S) M N P Q := wp_iconst rfl dX6_findHeirs_57 rfl
theorem sX6_findHeirs_58 : Wp mX6_findHeirs d 58 L (.int z :: .int x :: S) M N P Q = Wp mX6_findHeirs d 59 L (.int (x + z) :: S) M N P Q := wp_iadd rfl dX6_findHeirs_58
theorem sX6_findHeirs_59 (hs : (shk r).1 = 100) : Wp mX6_findHeirs d 59 L (.int x :: .int j :: .ref r :: S) M N P Q = (vp_in j (shk r).2 ∧ Wp mX6_findHeirs d 60 L S (up2 M r j.toNatClampNeg x) N P Q) := wp_iastore rfl dX6_findHeirs_59 (kd hs)
theorem sX6_findHeirs_60 (hn : nl a2 = true) : Wp mX6_findHeirs d 60 (a0 :: a1 :: a2 :: .int x :: L) S M N P Q = Wp mX6_findHeirs d 63 (a0 :: a1 :: a2 :: .int (x + 1) :: L) S M N P Q := wp_iinc rfl dX6_findHeirs_60 rfl rfl (okst3 hn) rfl
theorem sX6_findHeirs_63 : Wp mX6_findHeirs d 63 L S M N P Q = Wp mX6_findHeirs d 30 L S M N P Q := wp_goto rfl dX6_findHeirs_63 rfl
theorem sX6_findHeirs_66 : Wp mX6_findHeirs d 66 (.ref r :: L) S M N P Q = Wp mX6_findHeirs d 67 (.ref r :: L) (.ref r :: S) M N P Q := wp_aload_n rfl dX6_findHeirs_66 rfl
theorem sX6_findHeirs_67 (hs : shk r = (6, 0)) : Wp mX6_findHeirs d 67 L (.ref r :: S) M N P Q = Wp mX6_findHeirs d 70 L (.ref (P r 0) :: S) M N P Q := wp_getfield rfl dX6_findHeirs_67 rfl rfl hs rfl
theorem sX6_findHeirs_70 : Wp mX6_findHeirs d 70 (a0 :: a1 :: .int x :: L) S M N P Q = Wp mX6_findHeirs d 71 (a0 :: a1 :: .int x :: L) (.int x :: S) M N P Q := wp_iload_n rfl dX6_findHeirs_70 rfl
theorem sX6_findHeirs_71 : Wp mX6_findHeirs d 71 (a0 :: .int x :: L) S M N P Q = Wp mX6_findHeirs d 72 (a0 :: .int x :: L) (.int x :: S) M N P Q := wp_iload_n rfl dX6_findHeirs_71 rfl
theorem sX6_findHeirs_72 {x0 : Int32} {x1 : Int32} (hs : shk r = (5, 0)) (hS : stk S ≤ 8) : Wp mX6_findHeirs (d + 1) 72 L (.int x1 :: .int x0 :: .ref r :: S) M N P Q = Wp mX5_isDeadOn d 0 [.ref r, .int x0, .int x1] [] M N P (fun v M' N' P' => Wp mX6_findHeirs (d + 1) 75 L (v.toList ++ S) M' N' P' Q) := wp_callV (As := [.int x0, .int x1]) rfl dX6_findHeirs_72 rfl rfl (Or.inl ⟨_, _, _, hs, rfl⟩) rfl ⟨rfl, Nat.le_of_ble_eq_true rfl, Nat.le_of_ble_eq_true rfl⟩ rfl hS
theorem sX6_findHeirs_75 (hn : nl a2 = true) : Wp mX6_findHeirs d 75 (a0 :: a1 :: a2 :: a3 :: L) (.int x :: S) M N P Q = Wp mX6_findHeirs d 76 (a0 :: a1 :: a2 :: .int x :: L) S M N P Q := wp_istore_n rfl dX6_findHeirs_75 (lenGt3 ..) (okst3 hn) rfl
theorem sX6_findHeirs_76 : Wp mX6_findHeirs d 76 (.ref r :: L) S M N P Q = Wp mX6_findHeirs d 77 (.ref r :: L) (.ref r :: S) M N P Q := wp_aload_n rfl dX6_findHeirs_76 rfl
theorem sX6_findHeirs_77 (hs : shk r = (6, 0)) : Wp mX6_findHeirs d 77 L (.ref r :: S) M N P Q = Wp mX6_findHeirs d 80 L (.ref (P r 2) :: S) M N P Q := wp_getfield rfl dX6_findHeirs_77 rfl rfl hs rfl
theorem sX6_findHeirs_80 : Wp mX6_findHeirs d 80 (a0 :: a1 :: .int x :: L) S M N P Q = Wp mX6_findHeirs d 81 (a0 :: a1 :: .int x :: L) (.int x :: S) M N P Q := wp_iload_n rfl dX6_findHeirs_80 rfl
theorem sX6_findHeirs_81 : Wp mX6_findHeirs d 81 (a0 :: a1 :: a2 :: .int x :: L) S M N P Q = Wp mX6_findHeirs d 82 (a0 :: a1 :: a2 :: .int x :: L) (.int x :: S) M N P Q := wp_iload_n rfl dX6_findHeirs_81 rfl
theorem sX6_findHeirs_82 : Wp mX6_findHeirs d 82 L (.int x :: S) M N P Q = (if x = 0 then Wp mX6_findHeirs d 94 L S M N P Q else Wp mX6_findHeirs d 85 L S M N P Q) := wp_if_eq rfl dX6_findHeirs_82 rfl
theorem sX6_findHeirs_85 : Wp mX6_findHeirs d 85 (.ref r :: L) S M N P Q = Wp mX6_findHeirs d 86 (.ref r :: L) (.ref r :: S) M N P Q := wp_aload_n rfl dX6_findHeirs_85 rfl
theorem sX6_findHeirs_86 (hs : shk r = (6, 0)) : Wp mX6_findHeirs d 86 L (.ref r :: S) M N P Q = Wp mX6_findHeirs d 89 L (.ref (P r 1) :: S) M N P Q := wp_getfield rfl dX6_findHeirs_86 rfl rfl hs rfl
theorem sX6_findHeirs_89 : Wp mX6_findHeirs d 89 (a0 :: a1 :: .int x :: L) S M N P Q = Wp mX6_findHeirs d 90 (a0 :: a1 :: .int x :: L) (.int x :: S) M N P Q := wp_iload_n rfl dX6_findHeirs_89 rfl
theorem sX6_findHeirs_90 (hs : (shk r).1 = 100) : Wp mX6_findHeirs d 90 L (.int j :: .ref r :: S) M N P Q = (vp_in j (shk r).2 ∧ Wp mX6_findHeirs d 91 L (.int (M r j.toNatClampNeg) :: S) M N P Q) := wp_iaload rfl dX6_findHeirs_90 (kd hs)
theorem sX6_findHeirs_91 : Wp mX6_findHeirs d 91 L (.int x :: S) M N P Q = (if x ≤ 0 then Wp mX6_findHeirs d 98 L S M N P Q else Wp mX6_findHeirs d 94 L S M N P Q) := wp_if_le rfl dX6_findHeirs_91 rfl
theorem sX6_findHeirs_94 : Wp mX6_findHeirs d 94 L S M N P Q = Wp mX6_findHeirs d 95 L (.int 1 :: S) M N P Q := wp_iconst rfl dX6_findHeirs_94 rfl
theorem sX6_findHeirs_95 : Wp mX6_findHeirs d 95 L S M N P Q = Wp mX6_findHeirs d 99 L S M N P Q := wp_goto rfl dX6_findHeirs_95 rfl
theorem sX6_findHeirs_98 : Wp mX6_findHeirs d 98 L S M N P Q = Wp mX6_findHeirs d 99 L (.int 0 :: S) M N P Q := wp_iconst rfl dX6_findHeirs_98 rfl
theorem sX6_findHeirs_99 (hs : (shk r).1 = 102) : Wp mX6_findHeirs d 99 L (.int x :: .int j :: .ref r :: S) M N P Q = (vp_in j (shk r).2 ∧ Wp mX6_findHeirs d 100 L S (up2 M r j.toNatClampNeg (x &&& 1)) N P Q) := wp_bastoreZ rfl dX6_findHeirs_99 (kd hs)
theorem sX6_findHeirs_100 : Wp mX6_findHeirs d 100 (a0 :: a1 :: a2 :: .int x :: L) S M N P Q = Wp mX6_findHeirs d 101 (a0 :: a1 :: a2 :: .int x :: L) (.int x :: S) M N P Q := wp_iload_n rfl dX6_findHeirs_100 rfl
theorem sX6_findHeirs_101 : Wp mX6_findHeirs d 101 L (.int x :: S) M N P Q = (if x = 0 then Wp mX6_findHeirs d 129 L S M N P Q else Wp mX6_findHeirs d 104 L S M N P Q) := wp_if_eq rfl dX6_findHeirs_101 rfl
theorem sX6_findHeirs_104 : Wp mX6_findHeirs d 104 (.ref r :: L) S M N P Q = Wp mX6_findHeirs d 105 (.ref r :: L) (.ref r :: S) M N P Q := wp_aload_n rfl dX6_findHeirs_104 rfl
theorem sX6_findHeirs_105 (hs : shk r = (6, 0)) : Wp mX6_findHeirs d 105 L (.ref r :: S) M N P Q = Wp mX6_findHeirs d 108 L (.ref (P r 1) :: S) M N P Q := wp_getfield rfl dX6_findHeirs_105 rfl rfl hs rfl
theorem sX6_findHeirs_108 : Wp mX6_findHeirs d 108 (a0 :: a1 :: .int x :: L) S M N P Q = Wp mX6_findHeirs d 109 (a0 :: a1 :: .int x :: L) (.int x :: S) M N P Q := wp_iload_n rfl dX6_findHeirs_108 rfl
theorem sX6_findHeirs_109 (hs : (shk r).1 = 100) : Wp mX6_findHeirs d 109 L (.int j :: .ref r :: S) M N P Q = (vp_in j (shk r).2 ∧ Wp mX6_findHeirs d 110 L (.int (M r j.toNatClampNeg) :: S) M N P Q) := wp_iaload rfl dX6_findHeirs_109 (kd hs)
theorem sX6_findHeirs_110 : Wp mX6_findHeirs d 110 L (.int x :: S) M N P Q = (if x ≤ 0 then Wp mX6_findHeirs d 129 L S M N P Q else Wp mX6_findHeirs d 113 L S M N P Q) := wp_if_le rfl dX6_findHeirs_110 rfl
theorem sX6_findHeirs_113 : Wp mX6_findHeirs d 113 (.ref r :: L) S M N P Q = Wp mX6_findHeirs d 114 (.ref r :: L) (.ref r :: S) M N P Q := wp_aload_n rfl dX6_findHeirs_113 rfl
theorem sX6_findHeirs_114 (hv : a0.category = 1) : Wp mX6_findHeirs d 114 L (a0 :: S) M N P Q = Wp mX6_findHeirs d 115 L (a0 :: a0 :: S) M N P Q := wp_dup rfl dX6_findHeirs_114 hv
theorem sX6_findHeirs_115 (hs : shk r = (6, 0)) : Wp mX6_findHeirs d 115 L (.ref r :: S) M N P Q = Wp mX6_findHeirs d 118 L (.long (N r 4) :: S) M N P Q := wp_getfield rfl dX6_findHeirs_115 rfl rfl hs rfl
theorem sX6_findHeirs_118 : Wp mX6_findHeirs d 118 (.ref r :: L) S M N P Q = Wp mX6_findHeirs d 119 (.ref r :: L) (.ref r :: S) M N P Q := wp_aload_n rfl dX6_findHeirs_118 rfl
theorem sX6_findHeirs_119 (hs : shk r = (6, 0)) : Wp mX6_findHeirs d 119 L (.ref r :: S) M N P Q = Wp mX6_findHeirs d 122 L (.ref (P r 1) :: S) M N P Q := wp_getfield rfl dX6_findHeirs_119 rfl rfl hs rfl
theorem sX6_findHeirs_122 : Wp mX6_findHeirs d 122 (a0 :: a1 :: .int x :: L) S M N P Q = Wp mX6_findHeirs d 123 (a0 :: a1 :: .int x :: L) (.int x :: S) M N P Q := wp_iload_n rfl dX6_findHeirs_122 rfl
theorem sX6_findHeirs_123 (hs : (shk r).1 = 100) : Wp mX6_findHeirs d 123 L (.int j :: .ref r :: S) M N P Q = (vp_in j (shk r).2 ∧ Wp mX6_findHeirs d 124 L (.int (M r j.toNatClampNeg) :: S) M N P Q) := wp_iaload rfl dX6_findHeirs_123 (kd hs)
theorem sX6_findHeirs_124 : Wp mX6_findHeirs d 124 L (.int x :: S) M N P Q = Wp mX6_findHeirs d 125 L (.long x.toInt64 :: S) M N P Q := wp_i2l rfl dX6_findHeirs_124
theorem sX6_findHeirs_125 : Wp mX6_findHeirs d 125 L (.long lz :: .long lx :: S) M N P Q = Wp mX6_findHeirs d 126 L (.long (lx * lz) :: S) M N P Q := wp_lmul rfl dX6_findHeirs_125
theorem sX6_findHeirs_126 (hs : shk r = (6, 0)) : Wp mX6_findHeirs d 126 L (.long lx :: .ref r :: S) M N P Q = Wp mX6_findHeirs d 129 L S M (up2 N r 4 lx) P Q := wp_putL rfl dX6_findHeirs_126 rfl rfl hs rfl ⟨_, _, _, _, rfl, by decide, rfl, tyX6_ok 4 (by decide), rfl, rfl⟩
theorem sX6_findHeirs_129 (hn : nl a1 = true) : Wp mX6_findHeirs d 129 (a0 :: a1 :: .int x :: L) S M N P Q = Wp mX6_findHeirs d 132 (a0 :: a1 :: .int (x + (-1)) :: L) S M N P Q := wp_iinc rfl dX6_findHeirs_129 rfl rfl (okst2 hn) rfl
theorem sX6_findHeirs_132 : Wp mX6_findHeirs d 132 L S M N P Q = Wp mX6_findHeirs d 15 L S M N P Q := wp_goto rfl dX6_findHeirs_132 rfl
theorem sX6_findHeirs_135 : Wp mX6_findHeirs d 135 L [] M N P Q = Q none M N P := wp_vret rfl dX6_findHeirs_135 rfl
theorem sX6_isHeir_0 : Wp mX6_isHeir d 0 (.ref r :: L) S M N P Q = Wp mX6_isHeir d 1 (.ref r :: L) (.ref r :: S) M N P Q := wp_aload_n rfl dX6_isHeir_0 rfl
theorem sX6_isHeir_1 (hs : shk r = (6, 0)) : Wp mX6_isHeir d 1 L (.ref r :: S) M N P Q = Wp mX6_isHeir d 4 L (.ref (P r 2) :: S) M N P Q := wp_getfield rfl dX6_isHeir_1 rfl rfl hs rfl
theorem sX6_isHeir_4 : Wp mX6_isHeir d 4 (a0 :: .int x :: L) S M N P Q = Wp mX6_isHeir d 5 (a0 :: .int x :: L) (.int x :: S) M N P Q := wp_iload_n rfl dX6_isHeir_4 rfl
theorem sX6_isHeir_5 (hc : isB (shk r).1 = true) : Wp mX6_isHeir d 5 L (.int j :: .ref r :: S) M N P Q = (vp_in j (shk r).2 ∧ Wp mX6_isHeir d 6 L (.int (M r j.toNatClampNeg) :: S) M N P Q) := wp_baload rfl dX6_isHeir_5 (isB_or hc) (kd rfl)
theorem sX6_isHeir_6 : Wp mX6_isHeir d 6 L (.int x :: S) M N P Q = (if x = 0 then Wp mX6_isHeir d 25 L S M N P Q else Wp mX6_isHeir d 9 L S M N P Q) := wp_if_eq rfl dX6_isHeir_6 rfl
theorem sX6_isHeir_9 : Wp mX6_isHeir d 9 (.ref r :: L) S M N P Q = Wp mX6_isHeir d 10 (.ref r :: L) (.ref r :: S) M N P Q := wp_aload_n rfl dX6_isHeir_9 rfl
theorem sX6_isHeir_10 (hs : shk r = (6, 0)) : Wp mX6_isHeir d 10 L (.ref r :: S) M N P Q = Wp mX6_isHeir d 13 L (.ref (P r 0) :: S) M N P Q := wp_getfield rfl dX6_isHeir_10 rfl rfl hs rfl
theorem sX6_isHeir_13 : Wp mX6_isHeir d 13 (a0 :: .int x :: L) S M N P Q = Wp mX6_isHeir d 14 (a0 :: .int x :: L) (.int x :: S) M N P Q := wp_iload_n rfl dX6_isHeir_13 rfl
theorem sX6_isHeir_14 : Wp mX6_isHeir d 14 (a0 :: a1 :: .int x :: L) S M N P Q = Wp mX6_isHeir d 15 (a0 :: a1 :: .int x :: L) (.int x :: S) M N P Q := wp_iload_n rfl dX6_isHeir_14 rfl
theorem sX6_isHeir_15 {x0 : Int32} {x1 : Int32} (hs : shk r = (5, 0)) (hS : stk S ≤ 8) : Wp mX6_isHeir (d + 1) 15 L (.int x1 :: .int x0 :: .ref r :: S) M N P Q = Wp mX5_isChildOf d 0 [.ref r, .int x0, .int x1] [] M N P (fun v M' N' P' => Wp mX6_isHeir (d + 1) 18 L (v.toList ++ S) M' N' P' Q) := wp_callV (As := [.int x0, .int x1]) rfl dX6_isHeir_15 rfl rfl (Or.inl ⟨_, _, _, hs, rfl⟩) rfl ⟨rfl, Nat.le_of_ble_eq_true rfl, Nat.le_of_ble_eq_true rfl⟩ rfl hS
theorem sX6_isHeir_18 : Wp mX6_isHeir d 18 L (.int x :: S) M N P Q = (if x = 0 then Wp mX6_isHeir d 25 L S M N P Q else Wp mX6_isHeir d 21 L S M N P Q) := wp_if_eq rfl dX6_isHeir_18 rfl
theorem sX6_isHeir_21 : Wp mX6_isHeir d 21 L S M N P Q = Wp mX6_isHeir d 22 L (.int 1 :: S) M N P Q := wp_iconst rfl dX6_isHeir_21 rfl
theorem sX6_isHeir_22 : Wp mX6_isHeir d 22 L S M N P Q = Wp mX6_isHeir d 26 L S M N P Q := wp_goto rfl dX6_isHeir_22 rfl
theorem sX6_isHeir_25 : Wp mX6_isHeir d 25 L S M N P Q = Wp mX6_isHeir d 26 L (.int 0 :: S) M N P Q := wp_iconst rfl dX6_isHeir_25 rfl
theorem sX6_isHeir_26 (hb : bit x) : Wp mX6_isHeir d 26 L [.int x] M N P Q = Q (some (.int x)) M N P := wp_iret rfl dX6_isHeir_26 rfl (bit_n hb)
theorem sX6_handOn_0 : Wp mX6_handOn d 0 (.ref r :: L) S M N P Q = Wp mX6_handOn d 1 (.ref r :: L) (.ref r :: S) M N P Q := wp_aload_n rfl dX6_handOn_0 rfl
theorem sX6_handOn_1 (hs : shk r = (6, 0)) : Wp mX6_handOn d 1 L (.ref r :: S) M N P Q = Wp mX6_handOn d 4 L (.ref (P r 1) :: S) M N P Q := wp_getfield rfl dX6_handOn_1 rfl rfl hs rfl
theorem sX6_handOn_4 : Wp mX6_handOn d 4 (a0 :: .int x :: L) S M N P Q = Wp mX6_handOn d 5 (a0 :: .int x :: L) (.int x :: S) M N P Q := wp_iload_n rfl dX6_handOn_4 rfl
theorem sX6_handOn_5 (hs : (shk r).1 = 100) : Wp mX6_handOn d 5 L (.int j :: .ref r :: S) M N P Q = (vp_in j (shk r).2 ∧ Wp mX6_handOn d 6 L (.int (M r j.toNatClampNeg) :: S) M N P Q) := wp_iaload rfl dX6_handOn_5 (kd hs)
theorem sX6_handOn_6 : Wp mX6_handOn d 6 L (.int x :: S) M N P Q = (if x ≤ 0 then Wp mX6_handOn d 68 L S M N P Q else Wp mX6_handOn d 9 L S M N P Q) := wp_if_le rfl dX6_handOn_6 rfl
theorem sX6_handOn_9 : Wp mX6_handOn d 9 (.ref r :: L) S M N P Q = Wp mX6_handOn d 10 (.ref r :: L) (.ref r :: S) M N P Q := wp_aload_n rfl dX6_handOn_9 rfl
theorem sX6_handOn_10 (hs : shk r = (6, 0)) : Wp mX6_handOn d 10 L (.ref r :: S) M N P Q = Wp mX6_handOn d 13 L (.ref (P r 3) :: S) M N P Q := wp_getfield rfl dX6_handOn_10 rfl rfl hs rfl
theorem sX6_handOn_13 : Wp mX6_handOn d 13 (a0 :: .int x :: L) S M N P Q = Wp mX6_handOn d 14 (a0 :: .int x :: L) (.int x :: S) M N P Q := wp_iload_n rfl dX6_handOn_13 rfl
theorem sX6_handOn_14 (hs : (shk r).1 = 104) : Wp mX6_handOn d 14 L (.int j :: .ref r :: S) M N P Q = (vp_in j (shk r).2 ∧ Wp mX6_handOn d 15 L (.long (N r j.toNatClampNeg) :: S) M N P Q) := wp_laload rfl dX6_handOn_14 (kd hs)
theorem sX6_handOn_15 : Wp mX6_handOn d 15 (.ref r :: L) S M N P Q = Wp mX6_handOn d 16 (.ref r :: L) (.ref r :: S) M N P Q := wp_aload_n rfl dX6_handOn_15 rfl
theorem sX6_handOn_16 (hs : shk r = (6, 0)) : Wp mX6_handOn d 16 L (.ref r :: S) M N P Q = Wp mX6_handOn d 19 L (.ref (P r 1) :: S) M N P Q := wp_getfield rfl dX6_handOn_16 rfl rfl hs rfl
theorem sX6_handOn_19 : Wp mX6_handOn d 19 (a0 :: .int x :: L) S M N P Q = Wp mX6_handOn d 20 (a0 :: .int x :: L) (.int x :: S) M N P Q := wp_iload_n rfl dX6_handOn_19 rfl
theorem sX6_handOn_20 (hs : (shk r).1 = 100) : Wp mX6_handOn d 20 L (.int j :: .ref r :: S) M N P Q = (vp_in j (shk r).2 ∧ Wp mX6_handOn d 21 L (.int (M r j.toNatClampNeg) :: S) M N P Q) := wp_iaload rfl dX6_handOn_20 (kd hs)
theorem sX6_handOn_21 : Wp mX6_handOn d 21 L (.int x :: S) M N P Q = Wp mX6_handOn d 22 L (.long x.toInt64 :: S) M N P Q := wp_i2l rfl dX6_handOn_21
theorem sX6_handOn_22 : Wp mX6_handOn d 22 L (.long lz :: .long lx :: S) M N P Q = (¬ lz = 0 ∧ Wp mX6_handOn d 23 L (.long (lx / lz) :: S) M N P Q) := wp_ldiv rfl dX6_handOn_22
theorem sX6_handOn_23 (hn : nl a1 = true) : Wp mX6_handOn d 23 (a0 :: a1 :: a2 :: a3 :: L) (.long lx :: S) M N P Q = Wp mX6_handOn d 24 (a0 :: a1 :: .long lx :: .float 0 :: L) S M N P Q := wp_lstore_n rfl dX6_handOn_23 (lenGt3 ..) (okst2 hn) rfl
theorem sX6_handOn_24 : Wp mX6_handOn d 24 (a0 :: .int x :: L) S M N P Q = Wp mX6_handOn d 25 (a0 :: .int x :: L) (.int x :: S) M N P Q := wp_iload_n rfl dX6_handOn_24 rfl
theorem sX6_handOn_25 : Wp mX6_handOn d 25 L S M N P Q = Wp mX6_handOn d 26 L (.int 1 :: S) M N P Q := wp_iconst rfl dX6_handOn_25 rfl
theorem sX6_handOn_26 : Wp mX6_handOn d 26 L (.int z :: .int x :: S) M N P Q = Wp mX6_handOn d 27 L (.int (x + z) :: S) M N P Q := wp_iadd rfl dX6_handOn_26
theorem sX6_handOn_27 (hn : nl a3 = true) : Wp mX6_handOn d 27 (a0 :: a1 :: a2 :: a3 :: a4 :: L) (.int x :: S) M N P Q = Wp mX6_handOn d 29 (a0 :: a1 :: a2 :: a3 :: .int x :: L) S M N P Q := wp_istore rfl dX6_handOn_27 (lenGt4 ..) (okst4 hn) rfl
theorem sX6_handOn_29 : Wp mX6_handOn d 29 (a0 :: a1 :: a2 :: a3 :: .int x :: L) S M N P Q = Wp mX6_handOn d 31 (a0 :: a1 :: a2 :: a3 :: .int x :: L) (.int x :: S) M N P Q := wp_iload rfl dX6_handOn_29 rfl
theorem sX6_handOn_31 : Wp mX6_handOn d 31 (.ref r :: L) S M N P Q = Wp mX6_handOn d 32 (.ref r :: L) (.ref r :: S) M N P Q := wp_aload_n rfl dX6_handOn_31 rfl
theorem sX6_handOn_32 (hs : shk r = (6, 0)) : Wp mX6_handOn d 32 L (.ref r :: S) M N P Q = Wp mX6_handOn d 35 L (.ref (P r 0) :: S) M N P Q := wp_getfield rfl dX6_handOn_32 rfl rfl hs rfl
theorem sX6_handOn_35 (hs : shk r = (5, 0)) : Wp mX6_handOn d 35 L (.ref r :: S) M N P Q = Wp mX6_handOn d 38 L (.int (M r 3) :: S) M N P Q := wp_getfield rfl dX6_handOn_35 rfl rfl hs rfl
theorem sX6_handOn_38 : Wp mX6_handOn d 38 L (.int z :: .int x :: S) M N P Q = (if z ≤ x then Wp mX6_handOn d 68 L S M N P Q else Wp mX6_handOn d 41 L S M N P Q) := wp_icmp_ge rfl dX6_handOn_38 rfl
theorem sX6_handOn_41 : Wp mX6_handOn d 41 (.ref r :: L) S M N P Q = Wp mX6_handOn d 42 (.ref r :: L) (.ref r :: S) M N P Q := wp_aload_n rfl dX6_handOn_41 rfl
theorem sX6_handOn_42 : Wp mX6_handOn d 42 (a0 :: a1 :: a2 :: a3 :: .int x :: L) S M N P Q = Wp mX6_handOn d 44 (a0 :: a1 :: a2 :: a3 :: .int x :: L) (.int x :: S) M N P Q := wp_iload rfl dX6_handOn_42 rfl
theorem sX6_handOn_44 : Wp mX6_handOn d 44 (a0 :: .int x :: L) S M N P Q = Wp mX6_handOn d 45 (a0 :: .int x :: L) (.int x :: S) M N P Q := wp_iload_n rfl dX6_handOn_44 rfl
theorem sX6_handOn_45 {x0 : Int32} {x1 : Int32} (hs : shk r = (6, 0)) (hS : stk S ≤ 8) : Wp mX6_handOn (d + 1) 45 L (.int x1 :: .int x0 :: .ref r :: S) M N P Q = Wp mX6_isHeir d 0 [.ref r, .int x0, .int x1] [] M N P (fun v M' N' P' => Wp mX6_handOn (d + 1) 48 L (v.toList ++ S) M' N' P' Q) := wp_callV (As := [.int x0, .int x1]) rfl dX6_handOn_45 rfl rfl (Or.inl ⟨_, _, _, hs, rfl⟩) rfl ⟨rfl, Nat.le_of_ble_eq_true rfl, Nat.le_of_ble_eq_true rfl⟩ rfl hS
theorem sX6_handOn_48 : Wp mX6_handOn d 48 L (.int x :: S) M N P Q = (if x = 0 then Wp mX6_handOn d 62 L S M N P Q else Wp mX6_handOn d 51 L S M N P Q) := wp_if_eq rfl dX6_handOn_48 rfl
theorem sX6_handOn_51 : Wp mX6_handOn d 51 (.ref r :: L) S M N P Q = Wp mX6_handOn d 52 (.ref r :: L) (.ref r :: S) M N P Q := wp_aload_n rfl dX6_handOn_51 rfl
theorem sX6_handOn_52 (hs : shk r = (6, 0)) : Wp mX6_handOn d 52 L (.ref r :: S) M N P Q = Wp mX6_handOn d 55 L (.ref (P r 3) :: S) M N P Q := wp_getfield rfl dX6_handOn_52 rfl rfl hs rfl
theorem sX6_handOn_55 : Wp mX6_handOn d 55 (a0 :: a1 :: a2 :: a3 :: .int x :: L) S M N P Q = Wp mX6_handOn d 57 (a0 :: a1 :: a2 :: a3 :: .int x :: L) (.int x :: S) M N P Q := wp_iload rfl dX6_handOn_55 rfl
theorem sX6_handOn_57 (hv : a0.category = 1) (hu : a1.category = 1) : Wp mX6_handOn d 57 L (a0 :: a1 :: S) M N P Q = Wp mX6_handOn d 58 L (a0 :: a1 :: a0 :: a1 :: S) M N P Q := wp_dup2 rfl dX6_handOn_57 hv hu
theorem sX6_handOn_58 (hs : (shk r).1 = 104) : Wp mX6_handOn d 58 L (.int j :: .ref r :: S) M N P Q = (vp_in j (shk r).2 ∧ Wp mX6_handOn d 59 L (.long (N r j.toNatClampNeg) :: S) M N P Q) := wp_laload rfl dX6_handOn_58 (kd hs)
theorem sX6_handOn_59 : Wp mX6_handOn d 59 (a0 :: a1 :: .long lx :: L) S M N P Q = Wp mX6_handOn d 60 (a0 :: a1 :: .long lx :: L) (.long lx :: S) M N P Q := wp_lload_n rfl dX6_handOn_59 rfl
theorem sX6_handOn_60 : Wp mX6_handOn d 60 L (.long lz :: .long lx :: S) M N P Q = Wp mX6_handOn d 61 L (.long (lx + lz) :: S) M N P Q := wp_ladd rfl dX6_handOn_60
theorem sX6_handOn_61 (hs : (shk r).1 = 104) : Wp mX6_handOn d 61 L (.long lx :: .int j :: .ref r :: S) M N P Q = (vp_in j (shk r).2 ∧ Wp mX6_handOn d 62 L S M (up2 N r j.toNatClampNeg lx) P Q) := wp_lastore rfl dX6_handOn_61 (kd hs)
theorem sX6_handOn_62 (hn : nl a3 = true) : Wp mX6_handOn d 62 (a0 :: a1 :: a2 :: a3 :: .int x :: L) S M N P Q = Wp mX6_handOn d 65 (a0 :: a1 :: a2 :: a3 :: .int (x + 1) :: L) S M N P Q := wp_iinc rfl dX6_handOn_62 rfl rfl (okst4 hn) rfl
theorem sX6_handOn_65 : Wp mX6_handOn d 65 L S M N P Q = Wp mX6_handOn d 29 L S M N P Q := wp_goto rfl dX6_handOn_65 rfl
theorem sX6_handOn_68 : Wp mX6_handOn d 68 (.ref r :: L) S M N P Q = Wp mX6_handOn d 69 (.ref r :: L) (.ref r :: S) M N P Q := wp_aload_n rfl dX6_handOn_68 rfl
theorem sX6_handOn_69 (hs : shk r = (6, 0)) : Wp mX6_handOn d 69 L (.ref r :: S) M N P Q = Wp mX6_handOn d 72 L (.ref (P r 3) :: S) M N P Q := wp_getfield rfl dX6_handOn_69 rfl rfl hs rfl
theorem sX6_handOn_72 : Wp mX6_handOn d 72 (a0 :: .int x :: L) S M N P Q = Wp mX6_handOn d 73 (a0 :: .int x :: L) (.int x :: S) M N P Q := wp_iload_n rfl dX6_handOn_72 rfl
theorem sX6_handOn_73 : Wp mX6_handOn d 73 L S M N P Q = Wp mX6_handOn d 74 L (.long 0 :: S) M N P Q := wp_lconst rfl dX6_handOn_73 rfl
theorem sX6_handOn_74 (hs : (shk r).1 = 104) : Wp mX6_handOn d 74 L (.long lx :: .int j :: .ref r :: S) M N P Q = (vp_in j (shk r).2 ∧ Wp mX6_handOn d 75 L S M (up2 N r j.toNatClampNeg lx) P Q) := wp_lastore rfl dX6_handOn_74 (kd hs)
theorem sX6_handOn_75 : Wp mX6_handOn d 75 L [] M N P Q = Q none M N P := wp_vret rfl dX6_handOn_75 rfl
theorem sX6_numerator_0 : Wp mX6_numerator d 0 (.ref r :: L) S M N P Q = Wp mX6_numerator d 1 (.ref r :: L) (.ref r :: S) M N P Q := wp_aload_n rfl dX6_numerator_0 rfl
theorem sX6_numerator_1 (hs : shk r = (6, 0)) : Wp mX6_numerator d 1 L (.ref r :: S) M N P Q = Wp mX6_numerator d 4 L (.ref (P r 3) :: S) M N P Q := wp_getfield rfl dX6_numerator_1 rfl rfl hs rfl
theorem sX6_numerator_4 : Wp mX6_numerator d 4 (a0 :: .int x :: L) S M N P Q = Wp mX6_numerator d 5 (a0 :: .int x :: L) (.int x :: S) M N P Q := wp_iload_n rfl dX6_numerator_4 rfl
theorem sX6_numerator_5 (hs : (shk r).1 = 104) : Wp mX6_numerator d 5 L (.int j :: .ref r :: S) M N P Q = (vp_in j (shk r).2 ∧ Wp mX6_numerator d 6 L (.long (N r j.toNatClampNeg) :: S) M N P Q) := wp_laload rfl dX6_numerator_5 (kd hs)
theorem sX6_numerator_6 : Wp mX6_numerator d 6 (.ref r :: L) S M N P Q = Wp mX6_numerator d 7 (.ref r :: L) (.ref r :: S) M N P Q := wp_aload_n rfl dX6_numerator_6 rfl
theorem sX6_numerator_7 (hs : shk r = (6, 0)) : Wp mX6_numerator d 7 L (.ref r :: S) M N P Q = Wp mX6_numerator d 10 L (.long (N r 4) :: S) M N P Q := wp_getfield rfl dX6_numerator_7 rfl rfl hs rfl
theorem sX6_numerator_10 {lx0 : Int64} {lx1 : Int64} (hS : stk S ≤ 8) : Wp mX6_numerator (d + 1) 10 L (.long lx1 :: .long lx0 :: S) M N P Q = Wp mX6_commonDivisor d 0 [.long lx0, .float 0, .long lx1, .float 0, .float 0, .float 0, .float 0, .float 0, .float 0, .float 0, .float 0] [] M N P (fun v M' N' P' => Wp mX6_numerator (d + 1) 13 L (v.toList ++ S) M' N' P' Q) := wp_callS (As := [.long lx0, .long lx1]) rfl dX6_numerator_10 rfl rfl rfl ⟨rfl, Nat.le_of_ble_eq_true rfl, Nat.le_of_ble_eq_true rfl⟩ rfl hS
theorem sX6_numerator_13 (hn : nl a1 = true) : Wp mX6_numerator d 13 (a0 :: a1 :: a2 :: a3 :: L) (.long lx :: S) M N P Q = Wp mX6_numerator d 14 (a0 :: a1 :: .long lx :: .float 0 :: L) S M N P Q := wp_lstore_n rfl dX6_numerator_13 (lenGt3 ..) (okst2 hn) rfl
theorem sX6_numerator_14 : Wp mX6_numerator d 14 (a0 :: a1 :: .long lx :: L) S M N P Q = Wp mX6_numerator d 15 (a0 :: a1 :: .long lx :: L) (.long lx :: S) M N P Q := wp_lload_n rfl dX6_numerator_14 rfl
theorem sX6_numerator_15 : Wp mX6_numerator d 15 L S M N P Q = Wp mX6_numerator d 16 L (.long 0 :: S) M N P Q := wp_lconst rfl dX6_numerator_15 rfl
theorem sX6_numerator_16 : Wp mX6_numerator d 16 L (.long lz :: .long lx :: S) M N P Q = Wp mX6_numerator d 17 L (.int (lg_cmp lx lz) :: S) M N P Q := wp_lcmp rfl dX6_numerator_16
theorem sX6_numerator_17 : Wp mX6_numerator d 17 L (.int x :: S) M N P Q = (if x ≤ 0 then Wp mX6_numerator d 31 L S M N P Q else Wp mX6_numerator d 20 L S M N P Q) := wp_if_le rfl dX6_numerator_17 rfl
theorem sX6_numerator_20 : Wp mX6_numerator d 20 (.ref r :: L) S M N P Q = Wp mX6_numerator d 21 (.ref r :: L) (.ref r :: S) M N P Q := wp_aload_n rfl dX6_numerator_20 rfl
theorem sX6_numerator_21 (hs : shk r = (6, 0)) : Wp mX6_numerator d 21 L (.ref r :: S) M N P Q = Wp mX6_numerator d 24 L (.ref (P r 3) :: S) M N P Q := wp_getfield rfl dX6_numerator_21 rfl rfl hs rfl
theorem sX6_numerator_24 : Wp mX6_numerator d 24 (a0 :: .int x :: L) S M N P Q = Wp mX6_numerator d 25 (a0 :: .int x :: L) (.int x :: S) M N P Q := wp_iload_n rfl dX6_numerator_24 rfl
theorem sX6_numerator_25 (hs : (shk r).1 = 104) : Wp mX6_numerator d 25 L (.int j :: .ref r :: S) M N P Q = (vp_in j (shk r).2 ∧ Wp mX6_numerator d 26 L (.long (N r j.toNatClampNeg) :: S) M N P Q) := wp_laload rfl dX6_numerator_25 (kd hs)
theorem sX6_numerator_26 : Wp mX6_numerator d 26 (a0 :: a1 :: .long lx :: L) S M N P Q = Wp mX6_numerator d 27 (a0 :: a1 :: .long lx :: L) (.long lx :: S) M N P Q := wp_lload_n rfl dX6_numerator_26 rfl
theorem sX6_numerator_27 : Wp mX6_numerator d 27 L (.long lz :: .long lx :: S) M N P Q = (¬ lz = 0 ∧ Wp mX6_numerator d 28 L (.long (lx / lz) :: S) M N P Q) := wp_ldiv rfl dX6_numerator_27
theorem sX6_numerator_28 : Wp mX6_numerator d 28 L S M N P Q = Wp mX6_numerator d 32 L S M N P Q := wp_goto rfl dX6_numerator_28 rfl
theorem sX6_numerator_31 : Wp mX6_numerator d 31 L S M N P Q = Wp mX6_numerator d 32 L (.long 0 :: S) M N P Q := wp_lconst rfl dX6_numerator_31 rfl
theorem sX6_numerator_32 : Wp mX6_numerator d 32 L [.long lx] M N P Q = Q (some (.long lx)) M N P := wp_lret rfl dX6_numerator_32 rfl
theorem sX6_denominator_0 : Wp mX6_denominator d 0 (.ref r :: L) S M N P Q = Wp mX6_denominator d 1 (.ref r :: L) (.ref r :: S) M N P Q := wp_aload_n rfl dX6_denominator_0 rfl
theorem sX6_denominator_1 (hs : shk r = (6, 0)) : Wp mX6_denominator d 1 L (.ref r :: S) M N P Q = Wp mX6_denominator d 4 L (.ref (P r 3) :: S) M N P Q := wp_getfield rfl dX6_denominator_1 rfl rfl hs rfl
theorem sX6_denominator_4 : Wp mX6_denominator d 4 (a0 :: .int x :: L) S M N P Q = Wp mX6_denominator d 5 (a0 :: .int x :: L) (.int x :: S) M N P Q := wp_iload_n rfl dX6_denominator_4 rfl
theorem sX6_denominator_5 (hs : (shk r).1 = 104) : Wp mX6_denominator d 5 L (.int j :: .ref r :: S) M N P Q = (vp_in j (shk r).2 ∧ Wp mX6_denominator d 6 L (.long (N r j.toNatClampNeg) :: S) M N P Q) := wp_laload rfl dX6_denominator_5 (kd hs)
theorem sX6_denominator_6 : Wp mX6_denominator d 6 (.ref r :: L) S M N P Q = Wp mX6_denominator d 7 (.ref r :: L) (.ref r :: S) M N P Q := wp_aload_n rfl dX6_denominator_6 rfl
theorem sX6_denominator_7 (hs : shk r = (6, 0)) : Wp mX6_denominator d 7 L (.ref r :: S) M N P Q = Wp mX6_denominator d 10 L (.long (N r 4) :: S) M N P Q := wp_getfield rfl dX6_denominator_7 rfl rfl hs rfl
theorem sX6_denominator_10 {lx0 : Int64} {lx1 : Int64} (hS : stk S ≤ 8) : Wp mX6_denominator (d + 1) 10 L (.long lx1 :: .long lx0 :: S) M N P Q = Wp mX6_commonDivisor d 0 [.long lx0, .float 0, .long lx1, .float 0, .float 0, .float 0, .float 0, .float 0, .float 0, .float 0, .float 0] [] M N P (fun v M' N' P' => Wp mX6_denominator (d + 1) 13 L (v.toList ++ S) M' N' P' Q) := wp_callS (As := [.long lx0, .long lx1]) rfl dX6_denominator_10 rfl rfl rfl ⟨rfl, Nat.le_of_ble_eq_true rfl, Nat.le_of_ble_eq_true rfl⟩ rfl hS
theorem sX6_denominator_13 (hn : nl a1 = true) : Wp mX6_denominator d 13 (a0 :: a1 :: a2 :: a3 :: L) (.long lx :: S) M N P Q = Wp mX6_denominator d 14 (a0 :: a1 :: .long lx :: .float 0 :: L) S M N P Q := wp_lstore_n rfl dX6_denominator_13 (lenGt3 ..) (okst2 hn) rfl
theorem sX6_denominator_14 : Wp mX6_denominator d 14 (a0 :: a1 :: .long lx :: L) S M N P Q = Wp mX6_denominator d 15 (a0 :: a1 :: .long lx :: L) (.long lx :: S) M N P Q := wp_lload_n rfl dX6_denominator_14 rfl
theorem sX6_denominator_15 : Wp mX6_denominator d 15 L S M N P Q = Wp mX6_denominator d 16 L (.long 0 :: S) M N P Q := wp_lconst rfl dX6_denominator_15 rfl
theorem sX6_denominator_16 : Wp mX6_denominator d 16 L (.long lz :: .long lx :: S) M N P Q = Wp mX6_denominator d 17 L (.int (lg_cmp lx lz) :: S) M N P Q := wp_lcmp rfl dX6_denominator_16
theorem sX6_denominator_17 : Wp mX6_denominator d 17 L (.int x :: S) M N P Q = (if x ≤ 0 then Wp mX6_denominator d 29 L S M N P Q else Wp mX6_denominator d 20 L S M N P Q) := wp_if_le rfl dX6_denominator_17 rfl
theorem sX6_denominator_20 : Wp mX6_denominator d 20 (.ref r :: L) S M N P Q = Wp mX6_denominator d 21 (.ref r :: L) (.ref r :: S) M N P Q := wp_aload_n rfl dX6_denominator_20 rfl
theorem sX6_denominator_21 (hs : shk r = (6, 0)) : Wp mX6_denominator d 21 L (.ref r :: S) M N P Q = Wp mX6_denominator d 24 L (.long (N r 4) :: S) M N P Q := wp_getfield rfl dX6_denominator_21 rfl rfl hs rfl
theorem sX6_denominator_24 : Wp mX6_denominator d 24 (a0 :: a1 :: .long lx :: L) S M N P Q = Wp mX6_denominator d 25 (a0 :: a1 :: .long lx :: L) (.long lx :: S) M N P Q := wp_lload_n rfl dX6_denominator_24 rfl
theorem sX6_denominator_25 : Wp mX6_denominator d 25 L (.long lz :: .long lx :: S) M N P Q = (¬ lz = 0 ∧ Wp mX6_denominator d 26 L (.long (lx / lz) :: S) M N P Q) := wp_ldiv rfl dX6_denominator_25
theorem sX6_denominator_26 : Wp mX6_denominator d 26 L S M N P Q = Wp mX6_denominator d 30 L S M N P Q := wp_goto rfl dX6_denominator_26 rfl
theorem sX6_denominator_29 : Wp mX6_denominator d 29 L S M N P Q = Wp mX6_denominator d 30 L (.long 1 :: S) M N P Q := wp_lconst rfl dX6_denominator_29 rfl
theorem sX6_denominator_30 : Wp mX6_denominator d 30 L [.long lx] M N P Q = Q (some (.long lx)) M N P := wp_lret rfl dX6_denominator_30 rfl
theorem sX6_commonDivisor_0 : Wp mX6_commonDivisor d 0 (.long lx :: L) S M N P Q = Wp mX6_commonDivisor d 1 (.long lx :: L) (.long lx :: S) M N P Q := wp_lload_n rfl dX6_commonDivisor_0 rfl
theorem sX6_commonDivisor_1 (hn : nl a3 = true) : Wp mX6_commonDivisor d 1 (a0 :: a1 :: a2 :: a3 :: a4 :: a5 :: L) (.long lx :: S) M N P Q = Wp mX6_commonDivisor d 3 (a0 :: a1 :: a2 :: a3 :: .long lx :: .float 0 :: L) S M N P Q := wp_lstore rfl dX6_commonDivisor_1 (lenGt5 ..) (okst4 hn) rfl
theorem sX6_commonDivisor_3 : Wp mX6_commonDivisor d 3 (a0 :: a1 :: .long lx :: L) S M N P Q = Wp mX6_commonDivisor d 4 (a0 :: a1 :: .long lx :: L) (.long lx :: S) M N P Q := wp_lload_n rfl dX6_commonDivisor_3 rfl
theorem sX6_commonDivisor_4 (hn : nl a5 = true) : Wp mX6_commonDivisor d 4 (a0 :: a1 :: a2 :: a3 :: a4 :: a5 :: a6 :: a7 :: L) (.long lx :: S) M N P Q = Wp mX6_commonDivisor d 6 (a0 :: a1 :: a2 :: a3 :: a4 :: a5 :: .long lx :: .float 0 :: L) S M N P Q := wp_lstore rfl dX6_commonDivisor_4 (lenGt7 ..) (okst6 hn) rfl
theorem sX6_commonDivisor_6 : Wp mX6_commonDivisor d 6 L S M N P Q = Wp mX6_commonDivisor d 7 L (.int 0 :: S) M N P Q := wp_iconst rfl dX6_commonDivisor_6 rfl
theorem sX6_commonDivisor_7 (hn : nl a7 = true) : Wp mX6_commonDivisor d 7 (a0 :: a1 :: a2 :: a3 :: a4 :: a5 :: a6 :: a7 :: a8 :: L) (.int x :: S) M N P Q = Wp mX6_commonDivisor d 9 (a0 :: a1 :: a2 :: a3 :: a4 :: a5 :: a6 :: a7 :: .int x :: L) S M N P Q := wp_istore rfl dX6_commonDivisor_7 (lenGt8 ..) (okst8 hn) rfl
theorem sX6_commonDivisor_9 : Wp mX6_commonDivisor d 9 (a0 :: a1 :: a2 :: a3 :: a4 :: a5 :: a6 :: a7 :: .int x :: L) S M N P Q = Wp mX6_commonDivisor d 11 (a0 :: a1 :: a2 :: a3 :: a4 :: a5 :: a6 :: a7 :: .int x :: L) (.int x :: S) M N P Q := wp_iload rfl dX6_commonDivisor_9 rfl
theorem sX6_commonDivisor_11 : Wp mX6_commonDivisor d 11 L S M N P Q = Wp mX6_commonDivisor d 13 L (.int 100 :: S) M N P Q := wp_bipush rfl dX6_commonDivisor_11 rfl
theorem sX6_commonDivisor_13 : Wp mX6_commonDivisor d 13 L (.int z :: .int x :: S) M N P Q = (if z ≤ x then Wp mX6_commonDivisor d 44 L S M N P Q else Wp mX6_commonDivisor d 16 L S M N P Q) := wp_icmp_ge rfl dX6_commonDivisor_13 rfl
theorem sX6_commonDivisor_16 : Wp mX6_commonDivisor d 16 (a0 :: a1 :: a2 :: a3 :: a4 :: a5 :: .long lx :: L) S M N P Q = Wp mX6_commonDivisor d 18 (a0 :: a1 :: a2 :: a3 :: a4 :: a5 :: .long lx :: L) (.long lx :: S) M N P Q := wp_lload rfl dX6_commonDivisor_16 rfl
theorem sX6_commonDivisor_18 : Wp mX6_commonDivisor d 18 L S M N P Q = Wp mX6_commonDivisor d 19 L (.long 0 :: S) M N P Q := wp_lconst rfl dX6_commonDivisor_18 rfl
theorem sX6_commonDivisor_19 : Wp mX6_commonDivisor d 19 L (.long lz :: .long lx :: S) M N P Q = Wp mX6_commonDivisor d 20 L (.int (lg_cmp lx lz) :: S) M N P Q := wp_lcmp rfl dX6_commonDivisor_19
theorem sX6_commonDivisor_20 : Wp mX6_commonDivisor d 20 L (.int x :: S) M N P Q = (if x = 0 then Wp mX6_commonDivisor d 44 L S M N P Q else Wp mX6_commonDivisor d 23 L S M N P Q) := wp_if_eq rfl dX6_commonDivisor_20 rfl
theorem sX6_commonDivisor_23 : Wp mX6_commonDivisor d 23 (a0 :: a1 :: a2 :: a3 :: .long lx :: L) S M N P Q = Wp mX6_commonDivisor d 25 (a0 :: a1 :: a2 :: a3 :: .long lx :: L) (.long lx :: S) M N P Q := wp_lload rfl dX6_commonDivisor_23 rfl
theorem sX6_commonDivisor_25 : Wp mX6_commonDivisor d 25 (a0 :: a1 :: a2 :: a3 :: a4 :: a5 :: .long lx :: L) S M N P Q = Wp mX6_commonDivisor d 27 (a0 :: a1 :: a2 :: a3 :: a4 :: a5 :: .long lx :: L) (.long lx :: S) M N P Q := wp_lload rfl dX6_commonDivisor_25 rfl
theorem sX6_commonDivisor_27 : Wp mX6_commonDivisor d 27 L (.long lz :: .long lx :: S) M N P Q = (¬ lz = 0 ∧ Wp mX6_commonDivisor d 28 L (.long (lx - lx / lz * lz) :: S) M N P Q) := wp_lrem rfl dX6_commonDivisor_27
theorem sX6_commonDivisor_28 (hn : nl a8 = true) : Wp mX6_commonDivisor d 28 (a0 :: a1 :: a2 :: a3 :: a4 :: a5 :: a6 :: a7 :: a8 :: a9 :: a10 :: L) (.long lx :: S) M N P Q = Wp mX6_commonDivisor d 30 (a0 :: a1 :: a2 :: a3 :: a4 :: a5 :: a6 :: a7 :: a8 :: .long lx :: .float 0 :: L) S M N P Q := wp_lstore rfl dX6_commonDivisor_28 (lenGt10 ..) (okst9 hn) rfl
theorem sX6_commonDivisor_30 : Wp mX6_commonDivisor d 30 (a0 :: a1 :: a2 :: a3 :: a4 :: a5 :: .long lx :: L) S M N P Q = Wp mX6_commonDivisor d 32 (a0 :: a1 :: a2 :: a3 :: a4 :: a5 :: .long lx :: L) (.long lx :: S) M N P Q := wp_lload rfl dX6_commonDivisor_30 rfl
theorem sX6_commonDivisor_32 (hn : nl a3 = true) : Wp mX6_commonDivisor d 32 (a0 :: a1 :: a2 :: a3 :: a4 :: a5 :: L) (.long lx :: S) M N P Q = Wp mX6_commonDivisor d 34 (a0 :: a1 :: a2 :: a3 :: .long lx :: .float 0 :: L) S M N P Q := wp_lstore rfl dX6_commonDivisor_32 (lenGt5 ..) (okst4 hn) rfl
theorem sX6_commonDivisor_34 : Wp mX6_commonDivisor d 34 (a0 :: a1 :: a2 :: a3 :: a4 :: a5 :: a6 :: a7 :: a8 :: .long lx :: L) S M N P Q = Wp mX6_commonDivisor d 36 (a0 :: a1 :: a2 :: a3 :: a4 :: a5 :: a6 :: a7 :: a8 :: .long lx :: L) (.long lx :: S) M N P Q := wp_lload rfl dX6_commonDivisor_34 rfl
theorem sX6_commonDivisor_36 (hn : nl a5 = true) : Wp mX6_commonDivisor d 36 (a0 :: a1 :: a2 :: a3 :: a4 :: a5 :: a6 :: a7 :: L) (.long lx :: S) M N P Q = Wp mX6_commonDivisor d 38 (a0 :: a1 :: a2 :: a3 :: a4 :: a5 :: .long lx :: .float 0 :: L) S M N P Q := wp_lstore rfl dX6_commonDivisor_36 (lenGt7 ..) (okst6 hn) rfl
theorem sX6_commonDivisor_38 (hn : nl a7 = true) : Wp mX6_commonDivisor d 38 (a0 :: a1 :: a2 :: a3 :: a4 :: a5 :: a6 :: a7 :: .int x :: L) S M N P Q = Wp mX6_commonDivisor d 41 (a0 :: a1 :: a2 :: a3 :: a4 :: a5 :: a6 :: a7 :: .int (x + 1) :: L) S M N P Q := wp_iinc rfl dX6_commonDivisor_38 rfl rfl (okst8 hn) rfl
theorem sX6_commonDivisor_41 : Wp mX6_commonDivisor d 41 L S M N P Q = Wp mX6_commonDivisor d 9 L S M N P Q := wp_goto rfl dX6_commonDivisor_41 rfl
theorem sX6_commonDivisor_44 : Wp mX6_commonDivisor d 44 (a0 :: a1 :: a2 :: a3 :: .long lx :: L) S M N P Q = Wp mX6_commonDivisor d 46 (a0 :: a1 :: a2 :: a3 :: .long lx :: L) (.long lx :: S) M N P Q := wp_lload rfl dX6_commonDivisor_44 rfl
theorem sX6_commonDivisor_46 : Wp mX6_commonDivisor d 46 L [.long lx] M N P Q = Q (some (.long lx)) M N P := wp_lret rfl dX6_commonDivisor_46 rfl
theorem sX7_reachTo_0 : Wp mX7_reachTo d 0 (a0 :: .int x :: L) S M N P Q = Wp mX7_reachTo d 1 (a0 :: .int x :: L) (.int x :: S) M N P Q := wp_iload_n rfl dX7_reachTo_0 rfl
theorem sX7_reachTo_1 : Wp mX7_reachTo d 1 L (.int x :: S) M N P Q = (if x < 0 then Wp mX7_reachTo d 20 L S M N P Q else Wp mX7_reachTo d 4 L S M N P Q) := wp_if_lt rfl dX7_reachTo_1 rfl
theorem sX7_reachTo_4 : Wp mX7_reachTo d 4 (a0 :: .int x :: L) S M N P Q = Wp mX7_reachTo d 5 (a0 :: .int x :: L) (.int x :: S) M N P Q := wp_iload_n rfl dX7_reachTo_4 rfl
theorem sX7_reachTo_5 : Wp mX7_reachTo d 5 L S M N P Q = Wp mX7_reachTo d 7 L (.int 8 :: S) M N P Q := wp_bipush rfl dX7_reachTo_5 rfl
theorem sX7_reachTo_7 : Wp mX7_reachTo d 7 L (.int z :: .int x :: S) M N P Q = (if z < x then Wp mX7_reachTo d 20 L S M N P Q else Wp mX7_reachTo d 10 L S M N P Q) := wp_icmp_gt rfl dX7_reachTo_7 rfl
theorem sX7_reachTo_10 : Wp mX7_reachTo d 10 (.ref r :: L) S M N P Q = Wp mX7_reachTo d 11 (.ref r :: L) (.ref r :: S) M N P Q := wp_aload_n rfl dX7_reachTo_10 rfl
theorem sX7_reachTo_11 : Wp mX7_reachTo d 11 (a0 :: .int x :: L) S M N P Q = Wp mX7_reachTo d 12 (a0 :: .int x :: L) (.int x :: S) M N P Q := wp_iload_n rfl dX7_reachTo_11 rfl
theorem sX7_reachTo_12 (hs : shk r = (7, 0)) : Wp mX7_reachTo d 12 L (.int x :: .ref r :: S) M N P Q = Wp mX7_reachTo d 15 L S (up2 M r 3 x) N P Q := wp_putI rfl dX7_reachTo_12 rfl rfl hs rfl ⟨_, _, _, _, rfl, by decide, rfl, tyX7_ok 3 (by decide), rfl, rfl⟩
theorem sX7_reachTo_15 : Wp mX7_reachTo d 15 (.ref r :: L) S M N P Q = Wp mX7_reachTo d 16 (.ref r :: L) (.ref r :: S) M N P Q := wp_aload_n rfl dX7_reachTo_15 rfl
theorem sX7_reachTo_16 : Wp mX7_reachTo d 16 L S M N P Q = Wp mX7_reachTo d 17 L (.int 0 :: S) M N P Q := wp_iconst rfl dX7_reachTo_16 rfl
theorem sX7_reachTo_17 (hs : shk r = (7, 0)) (hb : bit x) : Wp mX7_reachTo d 17 L (.int x :: .ref r :: S) M N P Q = Wp mX7_reachTo d 20 L S (up2 M r 5 x) N P Q := wp_putI rfl dX7_reachTo_17 rfl rfl hs rfl ⟨_, _, _, _, rfl, by decide, rfl, tyX7_ok 5 (by decide), bit_n hb, bit_f hb⟩
theorem sX7_reachTo_20 : Wp mX7_reachTo d 20 L [] M N P Q = Q none M N P := wp_vret rfl dX7_reachTo_20 rfl
theorem sX7_tell_0 : Wp mX7_tell d 0 (.ref r :: L) S M N P Q = Wp mX7_tell d 1 (.ref r :: L) (.ref r :: S) M N P Q := wp_aload_n rfl dX7_tell_0 rfl
theorem sX7_tell_1 (hs : shk r = (7, 0)) : Wp mX7_tell d 1 L (.ref r :: S) M N P Q = Wp mX7_tell d 4 L (.int (M r 4) :: S) M N P Q := wp_getfield rfl dX7_tell_1 rfl rfl hs rfl
theorem sX7_tell_4 : Wp mX7_tell d 4 L S M N P Q = Wp mX7_tell d 6 L (.int 40 :: S) M N P Q := wp_bipush rfl dX7_tell_4 rfl
theorem sX7_tell_6 : Wp mX7_tell d 6 L (.int z :: .int x :: S) M N P Q = (if z ≤ x then Wp mX7_tell d 25 L S M N P Q else Wp mX7_tell d 9 L S M N P Q) := wp_icmp_ge rfl dX7_tell_6 rfl
theorem sX7_tell_9 : Wp mX7_tell d 9 (a0 :: .int x :: L) S M N P Q = Wp mX7_tell d 10 (a0 :: .int x :: L) (.int x :: S) M N P Q := wp_iload_n rfl dX7_tell_9 rfl
theorem sX7_tell_10 : Wp mX7_tell d 10 (a0 :: a1 :: .int x :: L) S M N P Q = Wp mX7_tell d 11 (a0 :: a1 :: .int x :: L) (.int x :: S) M N P Q := wp_iload_n rfl dX7_tell_10 rfl
theorem sX7_tell_11 : Wp mX7_tell d 11 L (.int z :: .int x :: S) M N P Q = (if x = z then Wp mX7_tell d 25 L S M N P Q else Wp mX7_tell d 14 L S M N P Q) := wp_icmp_eq rfl dX7_tell_11 rfl
theorem sX7_tell_14 : Wp mX7_tell d 14 (a0 :: a1 :: a2 :: .int x :: L) S M N P Q = Wp mX7_tell d 15 (a0 :: a1 :: a2 :: .int x :: L) (.int x :: S) M N P Q := wp_iload_n rfl dX7_tell_14 rfl
theorem sX7_tell_15 : Wp mX7_tell d 15 L (.int x :: S) M N P Q = (if x < 0 then Wp mX7_tell d 25 L S M N P Q else Wp mX7_tell d 18 L S M N P Q) := wp_if_lt rfl dX7_tell_15 rfl
theorem sX7_tell_18 : Wp mX7_tell d 18 (a0 :: a1 :: a2 :: .int x :: L) S M N P Q = Wp mX7_tell d 19 (a0 :: a1 :: a2 :: .int x :: L) (.int x :: S) M N P Q := wp_iload_n rfl dX7_tell_18 rfl
theorem sX7_tell_19 : Wp mX7_tell d 19 L S M N P Q = Wp mX7_tell d 22 L (.int 1000 :: S) M N P Q := wp_sipush rfl dX7_tell_19 rfl
theorem sX7_tell_22 : Wp mX7_tell d 22 L (.int z :: .int x :: S) M N P Q = (if x ≤ z then Wp mX7_tell d 27 L S M N P Q else Wp mX7_tell d 25 L S M N P Q) := wp_icmp_le rfl dX7_tell_22 rfl
theorem sX7_tell_25 : Wp mX7_tell d 25 L S M N P Q = Wp mX7_tell d 26 L (.int (-1) :: S) M N P Q := wp_iconst rfl dX7_tell_25 rfl
theorem sX7_tell_26 : Wp mX7_tell d 26 L [.int x] M N P Q = Q (some (.int x)) M N P := wp_iret rfl dX7_tell_26 rfl rfl
theorem sX7_tell_27 : Wp mX7_tell d 27 (.ref r :: L) S M N P Q = Wp mX7_tell d 28 (.ref r :: L) (.ref r :: S) M N P Q := wp_aload_n rfl dX7_tell_27 rfl
theorem sX7_tell_28 (hs : shk r = (7, 0)) : Wp mX7_tell d 28 L (.ref r :: S) M N P Q = Wp mX7_tell d 31 L (.ref (P r 0) :: S) M N P Q := wp_getfield rfl dX7_tell_28 rfl rfl hs rfl
theorem sX7_tell_31 : Wp mX7_tell d 31 (a0 :: .int x :: L) S M N P Q = Wp mX7_tell d 32 (a0 :: .int x :: L) (.int x :: S) M N P Q := wp_iload_n rfl dX7_tell_31 rfl
theorem sX7_tell_32 : Wp mX7_tell d 32 L S M N P Q = Wp mX7_tell d 34 L (.int 8 :: S) M N P Q := wp_bipush rfl dX7_tell_32 rfl
theorem sX7_tell_34 : Wp mX7_tell d 34 L (.int z :: .int x :: S) M N P Q = Wp mX7_tell d 35 L (.int (x * z) :: S) M N P Q := wp_imul rfl dX7_tell_34
theorem sX7_tell_35 : Wp mX7_tell d 35 (a0 :: a1 :: .int x :: L) S M N P Q = Wp mX7_tell d 36 (a0 :: a1 :: .int x :: L) (.int x :: S) M N P Q := wp_iload_n rfl dX7_tell_35 rfl
theorem sX7_tell_36 : Wp mX7_tell d 36 L (.int z :: .int x :: S) M N P Q = Wp mX7_tell d 37 L (.int (x + z) :: S) M N P Q := wp_iadd rfl dX7_tell_36
theorem sX7_tell_37 : Wp mX7_tell d 37 (a0 :: a1 :: a2 :: .int x :: L) S M N P Q = Wp mX7_tell d 38 (a0 :: a1 :: a2 :: .int x :: L) (.int x :: S) M N P Q := wp_iload_n rfl dX7_tell_37 rfl
theorem sX7_tell_38 (hs : (shk r).1 = 100) : Wp mX7_tell d 38 L (.int x :: .int j :: .ref r :: S) M N P Q = (vp_in j (shk r).2 ∧ Wp mX7_tell d 39 L S (up2 M r j.toNatClampNeg x) N P Q) := wp_iastore rfl dX7_tell_38 (kd hs)
theorem sX7_tell_39 : Wp mX7_tell d 39 (.ref r :: L) S M N P Q = Wp mX7_tell d 40 (.ref r :: L) (.ref r :: S) M N P Q := wp_aload_n rfl dX7_tell_39 rfl
theorem sX7_tell_40 (hv : a0.category = 1) : Wp mX7_tell d 40 L (a0 :: S) M N P Q = Wp mX7_tell d 41 L (a0 :: a0 :: S) M N P Q := wp_dup rfl dX7_tell_40 hv
theorem sX7_tell_41 (hs : shk r = (7, 0)) : Wp mX7_tell d 41 L (.ref r :: S) M N P Q = Wp mX7_tell d 44 L (.int (M r 4) :: S) M N P Q := wp_getfield rfl dX7_tell_41 rfl rfl hs rfl
theorem sX7_tell_44 : Wp mX7_tell d 44 L S M N P Q = Wp mX7_tell d 45 L (.int 1 :: S) M N P Q := wp_iconst rfl dX7_tell_44 rfl
theorem sX7_tell_45 : Wp mX7_tell d 45 L (.int z :: .int x :: S) M N P Q = Wp mX7_tell d 46 L (.int (x + z) :: S) M N P Q := wp_iadd rfl dX7_tell_45
theorem sX7_tell_46 (hs : shk r = (7, 0)) : Wp mX7_tell d 46 L (.int x :: .ref r :: S) M N P Q = Wp mX7_tell d 49 L S (up2 M r 4 x) N P Q := wp_putI rfl dX7_tell_46 rfl rfl hs rfl ⟨_, _, _, _, rfl, by decide, rfl, tyX7_ok 4 (by decide), rfl, rfl⟩
theorem sX7_tell_49 : Wp mX7_tell d 49 (.ref r :: L) S M N P Q = Wp mX7_tell d 50 (.ref r :: L) (.ref r :: S) M N P Q := wp_aload_n rfl dX7_tell_49 rfl
theorem sX7_tell_50 : Wp mX7_tell d 50 L S M N P Q = Wp mX7_tell d 51 L (.int 0 :: S) M N P Q := wp_iconst rfl dX7_tell_50 rfl
theorem sX7_tell_51 (hs : shk r = (7, 0)) (hb : bit x) : Wp mX7_tell d 51 L (.int x :: .ref r :: S) M N P Q = Wp mX7_tell d 54 L S (up2 M r 5 x) N P Q := wp_putI rfl dX7_tell_51 rfl rfl hs rfl ⟨_, _, _, _, rfl, by decide, rfl, tyX7_ok 5 (by decide), bit_n hb, bit_f hb⟩
theorem sX7_tell_54 : Wp mX7_tell d 54 (.ref r :: L) S M N P Q = Wp mX7_tell d 55 (.ref r :: L) (.ref r :: S) M N P Q := wp_aload_n rfl dX7_tell_54 rfl
theorem sX7_tell_55 (hs : shk r = (7, 0)) : Wp mX7_tell d 55 L (.ref r :: S) M N P Q = Wp mX7_tell d 58 L (.int (M r 4) :: S) M N P Q := wp_getfield rfl dX7_tell_55 rfl rfl hs rfl
theorem sX7_tell_58 : Wp mX7_tell d 58 L [.int x] M N P Q = Q (some (.int x)) M N P := wp_iret rfl dX7_tell_58 rfl rfl
theorem sX7_settle_0 : Wp mX7_settle d 0 (.ref r :: L) S M N P Q = Wp mX7_settle d 1 (.ref r :: L) (.ref r :: S) M N P Q := wp_aload_n rfl dX7_settle_0 rfl
theorem sX7_settle_1 (hs : shk r = (7, 0)) : Wp mX7_settle d 1 L (.ref r :: S) M N P Q = Wp mX7_settle d 4 L (.int (M r 5) :: S) M N P Q := wp_getfield rfl dX7_settle_1 rfl rfl hs rfl
theorem sX7_settle_4 : Wp mX7_settle d 4 L (.int x :: S) M N P Q = (if x = 0 then Wp mX7_settle d 8 L S M N P Q else Wp mX7_settle d 7 L S M N P Q) := wp_if_eq rfl dX7_settle_4 rfl
theorem sX7_settle_7 : Wp mX7_settle d 7 L [] M N P Q = Q none M N P := wp_vret rfl dX7_settle_7 rfl
theorem sX7_settle_8 : Wp mX7_settle d 8 L S M N P Q = Wp mX7_settle d 9 L (.int 1 :: S) M N P Q := wp_iconst rfl dX7_settle_8 rfl
theorem sX7_settle_9 : Wp mX7_settle d 9 (.ref r :: L) S M N P Q = Wp mX7_settle d 10 (.ref r :: L) (.ref r :: S) M N P Q := wp_aload_n rfl dX7_settle_9 rfl
theorem sX7_settle_10 (hs : shk r = (7, 0)) : Wp mX7_settle d 10 L (.ref r :: S) M N P Q = Wp mX7_settle d 13 L (.int (M r 3) :: S) M N P Q := wp_getfield rfl dX7_settle_10 rfl rfl hs rfl
theorem sX7_settle_13 : Wp mX7_settle d 13 L (.int z :: .int x :: S) M N P Q = Wp mX7_settle d 14 L (.int (x <<< (z &&& 31)) :: S) M N P Q := wp_ishl rfl dX7_settle_13
theorem sX7_settle_14 : Wp mX7_settle d 14 L S M N P Q = Wp mX7_settle d 15 L (.int 1 :: S) M N P Q := wp_iconst rfl dX7_settle_14 rfl
theorem sX7_settle_15 : Wp mX7_settle d 15 L (.int z :: .int x :: S) M N P Q = Wp mX7_settle d 16 L (.int (x - z) :: S) M N P Q := wp_isub rfl dX7_settle_15
theorem sX7_settle_16 (hn : nl a0 = true) : Wp mX7_settle d 16 (a0 :: a1 :: L) (.int x :: S) M N P Q = Wp mX7_settle d 17 (a0 :: .int x :: L) S M N P Q := wp_istore_n rfl dX7_settle_16 (lenGt1 ..) (okst1 hn) rfl
theorem sX7_settle_17 : Wp mX7_settle d 17 (.ref r :: L) S M N P Q = Wp mX7_settle d 18 (.ref r :: L) (.ref r :: S) M N P Q := wp_aload_n rfl dX7_settle_17 rfl
theorem sX7_settle_18 (hs : shk r = (7, 0)) : Wp mX7_settle d 18 L (.ref r :: S) M N P Q = Wp mX7_settle d 21 L (.ref (P r 2) :: S) M N P Q := wp_getfield rfl dX7_settle_18 rfl rfl hs rfl
theorem sX7_settle_21 : Wp mX7_settle d 21 (a0 :: .int x :: L) S M N P Q = Wp mX7_settle d 22 (a0 :: .int x :: L) (.int x :: S) M N P Q := wp_iload_n rfl dX7_settle_21 rfl
theorem sX7_settle_22 : Wp mX7_settle d 22 L S M N P Q = Wp mX7_settle d 23 L (.int 0 :: S) M N P Q := wp_iconst rfl dX7_settle_22 rfl
theorem sX7_settle_23 (hs : (shk r).1 = 100) : Wp mX7_settle d 23 L (.int x :: .int j :: .ref r :: S) M N P Q = (vp_in j (shk r).2 ∧ Wp mX7_settle d 24 L S (up2 M r j.toNatClampNeg x) N P Q) := wp_iastore rfl dX7_settle_23 (kd hs)
theorem sX7_settle_24 : Wp mX7_settle d 24 (a0 :: .int x :: L) S M N P Q = Wp mX7_settle d 25 (a0 :: .int x :: L) (.int x :: S) M N P Q := wp_iload_n rfl dX7_settle_24 rfl
theorem sX7_settle_25 : Wp mX7_settle d 25 L S M N P Q = Wp mX7_settle d 26 L (.int 1 :: S) M N P Q := wp_iconst rfl dX7_settle_25 rfl
theorem sX7_settle_26 : Wp mX7_settle d 26 L (.int z :: .int x :: S) M N P Q = Wp mX7_settle d 27 L (.int (x - z) :: S) M N P Q := wp_isub rfl dX7_settle_26
theorem sX7_settle_27 (hn : nl a1 = true) : Wp mX7_settle d 27 (a0 :: a1 :: a2 :: L) (.int x :: S) M N P Q = Wp mX7_settle d 28 (a0 :: a1 :: .int x :: L) S M N P Q := wp_istore_n rfl dX7_settle_27 (lenGt2 ..) (okst2 hn) rfl
theorem sX7_settle_28 : Wp mX7_settle d 28 (a0 :: a1 :: .int x :: L) S M N P Q = Wp mX7_settle d 29 (a0 :: a1 :: .int x :: L) (.int x :: S) M N P Q := wp_iload_n rfl dX7_settle_28 rfl
theorem sX7_settle_29 : Wp mX7_settle d 29 L (.int x :: S) M N P Q = (if x < 0 then Wp mX7_settle d 49 L S M N P Q else Wp mX7_settle d 32 L S M N P Q) := wp_if_lt rfl dX7_settle_29 rfl
theorem sX7_settle_32 : Wp mX7_settle d 32 (.ref r :: L) S M N P Q = Wp mX7_settle d 33 (.ref r :: L) (.ref r :: S) M N P Q := wp_aload_n rfl dX7_settle_32 rfl
theorem sX7_settle_33 (hs : shk r = (7, 0)) : Wp mX7_settle d 33 L (.ref r :: S) M N P Q = Wp mX7_settle d 36 L (.ref (P r 2) :: S) M N P Q := wp_getfield rfl dX7_settle_33 rfl rfl hs rfl
theorem sX7_settle_36 : Wp mX7_settle d 36 (a0 :: a1 :: .int x :: L) S M N P Q = Wp mX7_settle d 37 (a0 :: a1 :: .int x :: L) (.int x :: S) M N P Q := wp_iload_n rfl dX7_settle_36 rfl
theorem sX7_settle_37 : Wp mX7_settle d 37 (.ref r :: L) S M N P Q = Wp mX7_settle d 38 (.ref r :: L) (.ref r :: S) M N P Q := wp_aload_n rfl dX7_settle_37 rfl
theorem sX7_settle_38 : Wp mX7_settle d 38 (a0 :: a1 :: .int x :: L) S M N P Q = Wp mX7_settle d 39 (a0 :: a1 :: .int x :: L) (.int x :: S) M N P Q := wp_iload_n rfl dX7_settle_38 rfl
theorem sX7_settle_39 {x0 : Int32} (hs : shk r = (7, 0)) (hS : stk S ≤ 8) : Wp mX7_settle (d + 1) 39 L (.int x0 :: .ref r :: S) M N P Q = Wp mX7_greatestBehind d 0 [.ref r, .int x0, .float 0, .float 0] [] M N P (fun v M' N' P' => Wp mX7_settle (d + 1) 42 L (v.toList ++ S) M' N' P' Q) := wp_callV (As := [.int x0]) rfl dX7_settle_39 rfl rfl (Or.inl ⟨_, _, _, hs, rfl⟩) rfl ⟨rfl, Nat.le_of_ble_eq_true rfl, Nat.le_of_ble_eq_true rfl⟩ rfl hS
theorem sX7_settle_42 (hs : (shk r).1 = 100) : Wp mX7_settle d 42 L (.int x :: .int j :: .ref r :: S) M N P Q = (vp_in j (shk r).2 ∧ Wp mX7_settle d 43 L S (up2 M r j.toNatClampNeg x) N P Q) := wp_iastore rfl dX7_settle_42 (kd hs)
theorem sX7_settle_43 (hn : nl a1 = true) : Wp mX7_settle d 43 (a0 :: a1 :: .int x :: L) S M N P Q = Wp mX7_settle d 46 (a0 :: a1 :: .int (x + (-1)) :: L) S M N P Q := wp_iinc rfl dX7_settle_43 rfl rfl (okst2 hn) rfl
theorem sX7_settle_46 : Wp mX7_settle d 46 L S M N P Q = Wp mX7_settle d 28 L S M N P Q := wp_goto rfl dX7_settle_46 rfl
theorem sX7_settle_49 : Wp mX7_settle d 49 (.ref r :: L) S M N P Q = Wp mX7_settle d 50 (.ref r :: L) (.ref r :: S) M N P Q := wp_aload_n rfl dX7_settle_49 rfl
theorem sX7_settle_50 (hs : shk r = (7, 0)) (hS : stk S ≤ 8) : Wp mX7_settle (d + 1) 50 L (.ref r :: S) M N P Q = Wp mX7_choose d 0 [.ref r, .float 0, .float 0, .float 0] [] M N P (fun v M' N' P' => Wp mX7_settle (d + 1) 53 L (v.toList ++ S) M' N' P' Q) := wp_callV (As := []) rfl dX7_settle_50 rfl rfl (Or.inl ⟨_, _, _, hs, rfl⟩) rfl ⟨rfl, Nat.le_of_ble_eq_true rfl, Nat.le_of_ble_eq_true rfl⟩ rfl hS
theorem sX7_settle_53 : Wp mX7_settle d 53 (.ref r :: L) S M N P Q = Wp mX7_settle d 54 (.ref r :: L) (.ref r :: S) M N P Q := wp_aload_n rfl dX7_settle_53 rfl
theorem sX7_settle_54 : Wp mX7_settle d 54 L S M N P Q = Wp mX7_settle d 55 L (.int 1 :: S) M N P Q := wp_iconst rfl dX7_settle_54 rfl
theorem sX7_settle_55 (hs : shk r = (7, 0)) (hb : bit x) : Wp mX7_settle d 55 L (.int x :: .ref r :: S) M N P Q = Wp mX7_settle d 58 L S (up2 M r 5 x) N P Q := wp_putI rfl dX7_settle_55 rfl rfl hs rfl ⟨_, _, _, _, rfl, by decide, rfl, tyX7_ok 5 (by decide), bit_n hb, bit_f hb⟩
theorem sX7_settle_58 : Wp mX7_settle d 58 L [] M N P Q = Q none M N P := wp_vret rfl dX7_settle_58 rfl
theorem sX7_greatestBehind_0 : Wp mX7_greatestBehind d 0 L S M N P Q = Wp mX7_greatestBehind d 1 L (.int (-1) :: S) M N P Q := wp_iconst rfl dX7_greatestBehind_0 rfl
theorem sX7_greatestBehind_1 (hn : nl a1 = true) : Wp mX7_greatestBehind d 1 (a0 :: a1 :: a2 :: L) (.int x :: S) M N P Q = Wp mX7_greatestBehind d 2 (a0 :: a1 :: .int x :: L) S M N P Q := wp_istore_n rfl dX7_greatestBehind_1 (lenGt2 ..) (okst2 hn) rfl
theorem sX7_greatestBehind_2 : Wp mX7_greatestBehind d 2 L S M N P Q = Wp mX7_greatestBehind d 3 L (.int 0 :: S) M N P Q := wp_iconst rfl dX7_greatestBehind_2 rfl
theorem sX7_greatestBehind_3 (hn : nl a2 = true) : Wp mX7_greatestBehind d 3 (a0 :: a1 :: a2 :: a3 :: L) (.int x :: S) M N P Q = Wp mX7_greatestBehind d 4 (a0 :: a1 :: a2 :: .int x :: L) S M N P Q := wp_istore_n rfl dX7_greatestBehind_3 (lenGt3 ..) (okst3 hn) rfl
theorem sX7_greatestBehind_4 : Wp mX7_greatestBehind d 4 (a0 :: a1 :: a2 :: .int x :: L) S M N P Q = Wp mX7_greatestBehind d 5 (a0 :: a1 :: a2 :: .int x :: L) (.int x :: S) M N P Q := wp_iload_n rfl dX7_greatestBehind_4 rfl
theorem sX7_greatestBehind_5 : Wp mX7_greatestBehind d 5 (.ref r :: L) S M N P Q = Wp mX7_greatestBehind d 6 (.ref r :: L) (.ref r :: S) M N P Q := wp_aload_n rfl dX7_greatestBehind_5 rfl
theorem sX7_greatestBehind_6 (hs : shk r = (7, 0)) : Wp mX7_greatestBehind d 6 L (.ref r :: S) M N P Q = Wp mX7_greatestBehind d 9 L (.int (M r 3) :: S) M N P Q := wp_getfield rfl dX7_greatestBehind_6 rfl rfl hs rfl
theorem sX7_greatestBehind_9 : Wp mX7_greatestBehind d 9 L (.int z :: .int x :: S) M N P Q = (if z ≤ x then Wp mX7_greatestBehind d 29 L S M N P Q else Wp mX7_greatestBehind d 12 L S M N P Q) := wp_icmp_ge rfl dX7_greatestBehind_9 rfl
theorem sX7_greatestBehind_12 : Wp mX7_greatestBehind d 12 (a0 :: a1 :: .int x :: L) S M N P Q = Wp mX7_greatestBehind d 13 (a0 :: a1 :: .int x :: L) (.int x :: S) M N P Q := wp_iload_n rfl dX7_greatestBehind_12 rfl
theorem sX7_greatestBehind_13 : Wp mX7_greatestBehind d 13 (.ref r :: L) S M N P Q = Wp mX7_greatestBehind d 14 (.ref r :: L) (.ref r :: S) M N P Q := wp_aload_n rfl dX7_greatestBehind_13 rfl
theorem sX7_greatestBehind_14 : Wp mX7_greatestBehind d 14 (a0 :: .int x :: L) S M N P Q = Wp mX7_greatestBehind d 15 (a0 :: .int x :: L) (.int x :: S) M N P Q := wp_iload_n rfl dX7_greatestBehind_14 rfl
theorem sX7_greatestBehind_15 : Wp mX7_greatestBehind d 15 (a0 :: a1 :: a2 :: .int x :: L) S M N P Q = Wp mX7_greatestBehind d 16 (a0 :: a1 :: a2 :: .int x :: L) (.int x :: S) M N P Q := wp_iload_n rfl dX7_greatestBehind_15 rfl
theorem sX7_greatestBehind_16 {x0 : Int32} {x1 : Int32} (hs : shk r = (7, 0)) (hS : stk S ≤ 8) : Wp mX7_greatestBehind (d + 1) 16 L (.int x1 :: .int x0 :: .ref r :: S) M N P Q = Wp mX7_joyWith d 0 [.ref r, .int x0, .int x1, .float 0, .float 0, .float 0] [] M N P (fun v M' N' P' => Wp mX7_greatestBehind (d + 1) 19 L (v.toList ++ S) M' N' P' Q) := wp_callV (As := [.int x0, .int x1]) rfl dX7_greatestBehind_16 rfl rfl (Or.inl ⟨_, _, _, hs, rfl⟩) rfl ⟨rfl, Nat.le_of_ble_eq_true rfl, Nat.le_of_ble_eq_true rfl⟩ rfl hS
theorem sX7_greatestBehind_19 (hS : stk S ≤ 8) : Wp mX7_greatestBehind (d + 1) 19 L (.int z :: .int x :: S) M N P Q = Wp mX7_greatestBehind (d + 1) 22 L (.int (if x < z then z else x) :: S) M N P Q := wp_imax rfl dX7_greatestBehind_19 rfl rfl hS
theorem sX7_greatestBehind_22 (hn : nl a1 = true) : Wp mX7_greatestBehind d 22 (a0 :: a1 :: a2 :: L) (.int x :: S) M N P Q = Wp mX7_greatestBehind d 23 (a0 :: a1 :: .int x :: L) S M N P Q := wp_istore_n rfl dX7_greatestBehind_22 (lenGt2 ..) (okst2 hn) rfl
theorem sX7_greatestBehind_23 (hn : nl a2 = true) : Wp mX7_greatestBehind d 23 (a0 :: a1 :: a2 :: .int x :: L) S M N P Q = Wp mX7_greatestBehind d 26 (a0 :: a1 :: a2 :: .int (x + 1) :: L) S M N P Q := wp_iinc rfl dX7_greatestBehind_23 rfl rfl (okst3 hn) rfl
theorem sX7_greatestBehind_26 : Wp mX7_greatestBehind d 26 L S M N P Q = Wp mX7_greatestBehind d 4 L S M N P Q := wp_goto rfl dX7_greatestBehind_26 rfl
theorem sX7_greatestBehind_29 : Wp mX7_greatestBehind d 29 (a0 :: a1 :: .int x :: L) S M N P Q = Wp mX7_greatestBehind d 30 (a0 :: a1 :: .int x :: L) (.int x :: S) M N P Q := wp_iload_n rfl dX7_greatestBehind_29 rfl
theorem sX7_greatestBehind_30 : Wp mX7_greatestBehind d 30 L [.int x] M N P Q = Q (some (.int x)) M N P := wp_iret rfl dX7_greatestBehind_30 rfl rfl
theorem sX7_joyWith_0 : Wp mX7_joyWith d 0 (a0 :: .int x :: L) S M N P Q = Wp mX7_joyWith d 1 (a0 :: .int x :: L) (.int x :: S) M N P Q := wp_iload_n rfl dX7_joyWith_0 rfl
theorem sX7_joyWith_1 {x0 : Int32} (hS : stk S ≤ 8) : Wp mX7_joyWith (d + 1) 1 L (.int x0 :: S) M N P Q = Wp mJ6_bitCount_0f7a4 d 0 [.int x0] [] M N P (fun v M' N' P' => Wp mX7_joyWith (d + 1) 4 L (v.toList ++ S) M' N' P' Q) := wp_callS (As := [.int x0]) rfl dX7_joyWith_1 rfl rfl rfl ⟨rfl, Nat.le_of_ble_eq_true rfl, Nat.le_of_ble_eq_true rfl⟩ rfl hS
theorem sX7_joyWith_4 (hn : nl a2 = true) : Wp mX7_joyWith d 4 (a0 :: a1 :: a2 :: a3 :: L) (.int x :: S) M N P Q = Wp mX7_joyWith d 5 (a0 :: a1 :: a2 :: .int x :: L) S M N P Q := wp_istore_n rfl dX7_joyWith_4 (lenGt3 ..) (okst3 hn) rfl
theorem sX7_joyWith_5 : Wp mX7_joyWith d 5 L S M N P Q = Wp mX7_joyWith d 6 L (.int 1 :: S) M N P Q := wp_iconst rfl dX7_joyWith_5 rfl
theorem sX7_joyWith_6 : Wp mX7_joyWith d 6 (a0 :: a1 :: .int x :: L) S M N P Q = Wp mX7_joyWith d 7 (a0 :: a1 :: .int x :: L) (.int x :: S) M N P Q := wp_iload_n rfl dX7_joyWith_6 rfl
theorem sX7_joyWith_7 : Wp mX7_joyWith d 7 L (.int z :: .int x :: S) M N P Q = Wp mX7_joyWith d 8 L (.int (x <<< (z &&& 31)) :: S) M N P Q := wp_ishl rfl dX7_joyWith_7
theorem sX7_joyWith_8 (hn : nl a3 = true) : Wp mX7_joyWith d 8 (a0 :: a1 :: a2 :: a3 :: a4 :: L) (.int x :: S) M N P Q = Wp mX7_joyWith d 10 (a0 :: a1 :: a2 :: a3 :: .int x :: L) S M N P Q := wp_istore rfl dX7_joyWith_8 (lenGt4 ..) (okst4 hn) rfl
theorem sX7_joyWith_10 : Wp mX7_joyWith d 10 (a0 :: a1 :: a2 :: .int x :: L) S M N P Q = Wp mX7_joyWith d 11 (a0 :: a1 :: a2 :: .int x :: L) (.int x :: S) M N P Q := wp_iload_n rfl dX7_joyWith_10 rfl
theorem sX7_joyWith_11 : Wp mX7_joyWith d 11 (.ref r :: L) S M N P Q = Wp mX7_joyWith d 12 (.ref r :: L) (.ref r :: S) M N P Q := wp_aload_n rfl dX7_joyWith_11 rfl
theorem sX7_joyWith_12 (hs : shk r = (7, 0)) : Wp mX7_joyWith d 12 L (.ref r :: S) M N P Q = Wp mX7_joyWith d 15 L (.int (M r 3) :: S) M N P Q := wp_getfield rfl dX7_joyWith_12 rfl rfl hs rfl
theorem sX7_joyWith_15 : Wp mX7_joyWith d 15 L (.int z :: .int x :: S) M N P Q = (if z ≤ x then Wp mX7_joyWith d 38 L S M N P Q else Wp mX7_joyWith d 18 L S M N P Q) := wp_icmp_ge rfl dX7_joyWith_15 rfl
theorem sX7_joyWith_18 : Wp mX7_joyWith d 18 (a0 :: .int x :: L) S M N P Q = Wp mX7_joyWith d 19 (a0 :: .int x :: L) (.int x :: S) M N P Q := wp_iload_n rfl dX7_joyWith_18 rfl
theorem sX7_joyWith_19 : Wp mX7_joyWith d 19 (a0 :: a1 :: a2 :: a3 :: .int x :: L) S M N P Q = Wp mX7_joyWith d 21 (a0 :: a1 :: a2 :: a3 :: .int x :: L) (.int x :: S) M N P Q := wp_iload rfl dX7_joyWith_19 rfl
theorem sX7_joyWith_21 : Wp mX7_joyWith d 21 L (.int z :: .int x :: S) M N P Q = Wp mX7_joyWith d 22 L (.int (x &&& z) :: S) M N P Q := wp_iand rfl dX7_joyWith_21
theorem sX7_joyWith_22 : Wp mX7_joyWith d 22 L (.int x :: S) M N P Q = (if x = 0 then Wp mX7_joyWith d 25 L S M N P Q else Wp mX7_joyWith d 38 L S M N P Q) := wp_if_ne rfl dX7_joyWith_22 rfl
theorem sX7_joyWith_25 : Wp mX7_joyWith d 25 (.ref r :: L) S M N P Q = Wp mX7_joyWith d 26 (.ref r :: L) (.ref r :: S) M N P Q := wp_aload_n rfl dX7_joyWith_25 rfl
theorem sX7_joyWith_26 (hs : shk r = (7, 0)) : Wp mX7_joyWith d 26 L (.ref r :: S) M N P Q = Wp mX7_joyWith d 29 L (.ref (P r 2) :: S) M N P Q := wp_getfield rfl dX7_joyWith_26 rfl rfl hs rfl
theorem sX7_joyWith_29 : Wp mX7_joyWith d 29 (a0 :: .int x :: L) S M N P Q = Wp mX7_joyWith d 30 (a0 :: .int x :: L) (.int x :: S) M N P Q := wp_iload_n rfl dX7_joyWith_29 rfl
theorem sX7_joyWith_30 : Wp mX7_joyWith d 30 (a0 :: a1 :: a2 :: a3 :: .int x :: L) S M N P Q = Wp mX7_joyWith d 32 (a0 :: a1 :: a2 :: a3 :: .int x :: L) (.int x :: S) M N P Q := wp_iload rfl dX7_joyWith_30 rfl
theorem sX7_joyWith_32 : Wp mX7_joyWith d 32 L (.int z :: .int x :: S) M N P Q = Wp mX7_joyWith d 33 L (.int (x ||| z) :: S) M N P Q := wp_ior rfl dX7_joyWith_32
theorem sX7_joyWith_33 (hs : (shk r).1 = 100) : Wp mX7_joyWith d 33 L (.int j :: .ref r :: S) M N P Q = (vp_in j (shk r).2 ∧ Wp mX7_joyWith d 34 L (.int (M r j.toNatClampNeg) :: S) M N P Q) := wp_iaload rfl dX7_joyWith_33 (kd hs)
theorem sX7_joyWith_34 : Wp mX7_joyWith d 34 L S M N P Q = Wp mX7_joyWith d 35 L (.int (-1) :: S) M N P Q := wp_iconst rfl dX7_joyWith_34 rfl
theorem sX7_joyWith_35 : Wp mX7_joyWith d 35 L (.int z :: .int x :: S) M N P Q = (if x = z then Wp mX7_joyWith d 38 L S M N P Q else Wp mX7_joyWith d 40 L S M N P Q) := wp_icmp_ne rfl dX7_joyWith_35 rfl
theorem sX7_joyWith_38 : Wp mX7_joyWith d 38 L S M N P Q = Wp mX7_joyWith d 39 L (.int (-1) :: S) M N P Q := wp_iconst rfl dX7_joyWith_38 rfl
theorem sX7_joyWith_39 : Wp mX7_joyWith d 39 L [.int x] M N P Q = Q (some (.int x)) M N P := wp_iret rfl dX7_joyWith_39 rfl rfl
theorem sX7_joyWith_40 : Wp mX7_joyWith d 40 (.ref r :: L) S M N P Q = Wp mX7_joyWith d 41 (.ref r :: L) (.ref r :: S) M N P Q := wp_aload_n rfl dX7_joyWith_40 rfl
theorem sX7_joyWith_41 (hs : shk r = (7, 0)) : Wp mX7_joyWith d 41 L (.ref r :: S) M N P Q = Wp mX7_joyWith d 44 L (.ref (P r 0) :: S) M N P Q := wp_getfield rfl dX7_joyWith_41 rfl rfl hs rfl
theorem sX7_joyWith_44 : Wp mX7_joyWith d 44 (a0 :: a1 :: a2 :: .int x :: L) S M N P Q = Wp mX7_joyWith d 45 (a0 :: a1 :: a2 :: .int x :: L) (.int x :: S) M N P Q := wp_iload_n rfl dX7_joyWith_44 rfl
theorem sX7_joyWith_45 : Wp mX7_joyWith d 45 L S M N P Q = Wp mX7_joyWith d 47 L (.int 8 :: S) M N P Q := wp_bipush rfl dX7_joyWith_45 rfl
theorem sX7_joyWith_47 : Wp mX7_joyWith d 47 L (.int z :: .int x :: S) M N P Q = Wp mX7_joyWith d 48 L (.int (x * z) :: S) M N P Q := wp_imul rfl dX7_joyWith_47
theorem sX7_joyWith_48 : Wp mX7_joyWith d 48 (a0 :: a1 :: .int x :: L) S M N P Q = Wp mX7_joyWith d 49 (a0 :: a1 :: .int x :: L) (.int x :: S) M N P Q := wp_iload_n rfl dX7_joyWith_48 rfl
theorem sX7_joyWith_49 : Wp mX7_joyWith d 49 L (.int z :: .int x :: S) M N P Q = Wp mX7_joyWith d 50 L (.int (x + z) :: S) M N P Q := wp_iadd rfl dX7_joyWith_49
theorem sX7_joyWith_50 (hs : (shk r).1 = 100) : Wp mX7_joyWith d 50 L (.int j :: .ref r :: S) M N P Q = (vp_in j (shk r).2 ∧ Wp mX7_joyWith d 51 L (.int (M r j.toNatClampNeg) :: S) M N P Q) := wp_iaload rfl dX7_joyWith_50 (kd hs)
theorem sX7_joyWith_51 (hn : nl a4 = true) : Wp mX7_joyWith d 51 (a0 :: a1 :: a2 :: a3 :: a4 :: a5 :: L) (.int x :: S) M N P Q = Wp mX7_joyWith d 53 (a0 :: a1 :: a2 :: a3 :: a4 :: .int x :: L) S M N P Q := wp_istore rfl dX7_joyWith_51 (lenGt5 ..) (okst5 hn) rfl
theorem sX7_joyWith_53 : Wp mX7_joyWith d 53 (a0 :: a1 :: a2 :: .int x :: L) S M N P Q = Wp mX7_joyWith d 54 (a0 :: a1 :: a2 :: .int x :: L) (.int x :: S) M N P Q := wp_iload_n rfl dX7_joyWith_53 rfl
theorem sX7_joyWith_54 : Wp mX7_joyWith d 54 (a0 :: a1 :: .int x :: L) S M N P Q = Wp mX7_joyWith d 55 (a0 :: a1 :: .int x :: L) (.int x :: S) M N P Q := wp_iload_n rfl dX7_joyWith_54 rfl
theorem sX7_joyWith_55 : Wp mX7_joyWith d 55 L (.int z :: .int x :: S) M N P Q = (if x = z then Wp mX7_joyWith d 65 L S M N P Q else Wp mX7_joyWith d 58 L S M N P Q) := wp_icmp_eq rfl dX7_joyWith_55 rfl
theorem sX7_joyWith_58 : Wp mX7_joyWith d 58 (a0 :: a1 :: a2 :: a3 :: a4 :: .int x :: L) S M N P Q = Wp mX7_joyWith d 60 (a0 :: a1 :: a2 :: a3 :: a4 :: .int x :: L) (.int x :: S) M N P Q := wp_iload rfl dX7_joyWith_58 rfl
theorem sX7_joyWith_60 : Wp mX7_joyWith d 60 L (.int x :: S) M N P Q = (if x = 0 then Wp mX7_joyWith d 63 L S M N P Q else Wp mX7_joyWith d 65 L S M N P Q) := wp_if_ne rfl dX7_joyWith_60 rfl
theorem sX7_joyWith_63 : Wp mX7_joyWith d 63 L S M N P Q = Wp mX7_joyWith d 64 L (.int (-1) :: S) M N P Q := wp_iconst rfl dX7_joyWith_63 rfl
theorem sX7_joyWith_64 : Wp mX7_joyWith d 64 L [.int x] M N P Q = Q (some (.int x)) M N P := wp_iret rfl dX7_joyWith_64 rfl rfl
theorem sX7_joyWith_65 : Wp mX7_joyWith d 65 (a0 :: a1 :: a2 :: a3 :: a4 :: .int x :: L) S M N P Q = Wp mX7_joyWith d 67 (a0 :: a1 :: a2 :: a3 :: a4 :: .int x :: L) (.int x :: S) M N P Q := wp_iload rfl dX7_joyWith_65 rfl
theorem sX7_joyWith_67 : Wp mX7_joyWith d 67 (.ref r :: L) S M N P Q = Wp mX7_joyWith d 68 (.ref r :: L) (.ref r :: S) M N P Q := wp_aload_n rfl dX7_joyWith_67 rfl
theorem sX7_joyWith_68 (hs : shk r = (7, 0)) : Wp mX7_joyWith d 68 L (.ref r :: S) M N P Q = Wp mX7_joyWith d 71 L (.ref (P r 2) :: S) M N P Q := wp_getfield rfl dX7_joyWith_68 rfl rfl hs rfl
theorem sX7_joyWith_71 : Wp mX7_joyWith d 71 (a0 :: .int x :: L) S M N P Q = Wp mX7_joyWith d 72 (a0 :: .int x :: L) (.int x :: S) M N P Q := wp_iload_n rfl dX7_joyWith_71 rfl
theorem sX7_joyWith_72 : Wp mX7_joyWith d 72 (a0 :: a1 :: a2 :: a3 :: .int x :: L) S M N P Q = Wp mX7_joyWith d 74 (a0 :: a1 :: a2 :: a3 :: .int x :: L) (.int x :: S) M N P Q := wp_iload rfl dX7_joyWith_72 rfl
theorem sX7_joyWith_74 : Wp mX7_joyWith d 74 L (.int z :: .int x :: S) M N P Q = Wp mX7_joyWith d 75 L (.int (x ||| z) :: S) M N P Q := wp_ior rfl dX7_joyWith_74
theorem sX7_joyWith_75 (hs : (shk r).1 = 100) : Wp mX7_joyWith d 75 L (.int j :: .ref r :: S) M N P Q = (vp_in j (shk r).2 ∧ Wp mX7_joyWith d 76 L (.int (M r j.toNatClampNeg) :: S) M N P Q) := wp_iaload rfl dX7_joyWith_75 (kd hs)
theorem sX7_joyWith_76 : Wp mX7_joyWith d 76 L (.int z :: .int x :: S) M N P Q = Wp mX7_joyWith d 77 L (.int (x + z) :: S) M N P Q := wp_iadd rfl dX7_joyWith_76
theorem sX7_joyWith_77 : Wp mX7_joyWith d 77 L [.int x] M N P Q = Q (some (.int x)) M N P := wp_iret rfl dX7_joyWith_77 rfl rfl
theorem sX7_choose_0 : Wp mX7_choose d 0 L S M N P Q = Wp mX7_choose d 1 L (.int 0 :: S) M N P Q := wp_iconst rfl dX7_choose_0 rfl
theorem sX7_choose_1 (hn : nl a0 = true) : Wp mX7_choose d 1 (a0 :: a1 :: L) (.int x :: S) M N P Q = Wp mX7_choose d 2 (a0 :: .int x :: L) S M N P Q := wp_istore_n rfl dX7_choose_1 (lenGt1 ..) (okst1 hn) rfl
theorem sX7_choose_2 : Wp mX7_choose d 2 L S M N P Q = Wp mX7_choose d 3 L (.int 0 :: S) M N P Q := wp_iconst rfl dX7_choose_2 rfl
theorem sX7_choose_3 (hn : nl a1 = true) : Wp mX7_choose d 3 (a0 :: a1 :: a2 :: L) (.int x :: S) M N P Q = Wp mX7_choose d 4 (a0 :: a1 :: .int x :: L) S M N P Q := wp_istore_n rfl dX7_choose_3 (lenGt2 ..) (okst2 hn) rfl
theorem sX7_choose_4 : Wp mX7_choose d 4 (a0 :: a1 :: .int x :: L) S M N P Q = Wp mX7_choose d 5 (a0 :: a1 :: .int x :: L) (.int x :: S) M N P Q := wp_iload_n rfl dX7_choose_4 rfl
theorem sX7_choose_5 : Wp mX7_choose d 5 (.ref r :: L) S M N P Q = Wp mX7_choose d 6 (.ref r :: L) (.ref r :: S) M N P Q := wp_aload_n rfl dX7_choose_5 rfl
theorem sX7_choose_6 (hs : shk r = (7, 0)) : Wp mX7_choose d 6 L (.ref r :: S) M N P Q = Wp mX7_choose d 9 L (.int (M r 3) :: S) M N P Q := wp_getfield rfl dX7_choose_6 rfl rfl hs rfl
theorem sX7_choose_9 : Wp mX7_choose d 9 L (.int z :: .int x :: S) M N P Q = (if z ≤ x then Wp mX7_choose d 75 L S M N P Q else Wp mX7_choose d 12 L S M N P Q) := wp_icmp_ge rfl dX7_choose_9 rfl
theorem sX7_choose_12 : Wp mX7_choose d 12 (.ref r :: L) S M N P Q = Wp mX7_choose d 13 (.ref r :: L) (.ref r :: S) M N P Q := wp_aload_n rfl dX7_choose_12 rfl
theorem sX7_choose_13 (hs : shk r = (7, 0)) : Wp mX7_choose d 13 L (.ref r :: S) M N P Q = Wp mX7_choose d 16 L (.ref (P r 1) :: S) M N P Q := wp_getfield rfl dX7_choose_13 rfl rfl hs rfl
theorem sX7_choose_16 : Wp mX7_choose d 16 (a0 :: a1 :: .int x :: L) S M N P Q = Wp mX7_choose d 17 (a0 :: a1 :: .int x :: L) (.int x :: S) M N P Q := wp_iload_n rfl dX7_choose_16 rfl
theorem sX7_choose_17 : Wp mX7_choose d 17 (a0 :: a1 :: .int x :: L) S M N P Q = Wp mX7_choose d 18 (a0 :: a1 :: .int x :: L) (.int x :: S) M N P Q := wp_iload_n rfl dX7_choose_17 rfl
theorem sX7_choose_18 (hs : (shk r).1 = 100) : Wp mX7_choose d 18 L (.int x :: .int j :: .ref r :: S) M N P Q = (vp_in j (shk r).2 ∧ Wp mX7_choose d 19 L S (up2 M r j.toNatClampNeg x) N P Q) := wp_iastore rfl dX7_choose_18 (kd hs)
theorem sX7_choose_19 : Wp mX7_choose d 19 (.ref r :: L) S M N P Q = Wp mX7_choose d 20 (.ref r :: L) (.ref r :: S) M N P Q := wp_aload_n rfl dX7_choose_19 rfl
theorem sX7_choose_20 (hs : shk r = (7, 0)) : Wp mX7_choose d 20 L (.ref r :: S) M N P Q = Wp mX7_choose d 23 L (.int (M r 3) :: S) M N P Q := wp_getfield rfl dX7_choose_20 rfl rfl hs rfl
theorem sX7_choose_23 : Wp mX7_choose d 23 L S M N P Q = Wp mX7_choose d 24 L (.int 1 :: S) M N P Q := wp_iconst rfl dX7_choose_23 rfl
theorem sX7_choose_24 : Wp mX7_choose d 24 L (.int z :: .int x :: S) M N P Q = Wp mX7_choose d 25 L (.int (x - z) :: S) M N P Q := wp_isub rfl dX7_choose_24
theorem sX7_choose_25 (hn : nl a2 = true) : Wp mX7_choose d 25 (a0 :: a1 :: a2 :: a3 :: L) (.int x :: S) M N P Q = Wp mX7_choose d 26 (a0 :: a1 :: a2 :: .int x :: L) S M N P Q := wp_istore_n rfl dX7_choose_25 (lenGt3 ..) (okst3 hn) rfl
theorem sX7_choose_26 : Wp mX7_choose d 26 (a0 :: a1 :: a2 :: .int x :: L) S M N P Q = Wp mX7_choose d 27 (a0 :: a1 :: a2 :: .int x :: L) (.int x :: S) M N P Q := wp_iload_n rfl dX7_choose_26 rfl
theorem sX7_choose_27 : Wp mX7_choose d 27 L (.int x :: S) M N P Q = (if x < 0 then Wp mX7_choose d 58 L S M N P Q else Wp mX7_choose d 30 L S M N P Q) := wp_if_lt rfl dX7_choose_27 rfl
theorem sX7_choose_30 : Wp mX7_choose d 30 (.ref r :: L) S M N P Q = Wp mX7_choose d 31 (.ref r :: L) (.ref r :: S) M N P Q := wp_aload_n rfl dX7_choose_30 rfl
theorem sX7_choose_31 : Wp mX7_choose d 31 (a0 :: .int x :: L) S M N P Q = Wp mX7_choose d 32 (a0 :: .int x :: L) (.int x :: S) M N P Q := wp_iload_n rfl dX7_choose_31 rfl
theorem sX7_choose_32 : Wp mX7_choose d 32 (a0 :: a1 :: a2 :: .int x :: L) S M N P Q = Wp mX7_choose d 33 (a0 :: a1 :: a2 :: .int x :: L) (.int x :: S) M N P Q := wp_iload_n rfl dX7_choose_32 rfl
theorem sX7_choose_33 {x0 : Int32} {x1 : Int32} (hs : shk r = (7, 0)) (hS : stk S ≤ 8) : Wp mX7_choose (d + 1) 33 L (.int x1 :: .int x0 :: .ref r :: S) M N P Q = Wp mX7_joyWith d 0 [.ref r, .int x0, .int x1, .float 0, .float 0, .float 0] [] M N P (fun v M' N' P' => Wp mX7_choose (d + 1) 36 L (v.toList ++ S) M' N' P' Q) := wp_callV (As := [.int x0, .int x1]) rfl dX7_choose_33 rfl rfl (Or.inl ⟨_, _, _, hs, rfl⟩) rfl ⟨rfl, Nat.le_of_ble_eq_true rfl, Nat.le_of_ble_eq_true rfl⟩ rfl hS
theorem sX7_choose_36 : Wp mX7_choose d 36 (.ref r :: L) S M N P Q = Wp mX7_choose d 37 (.ref r :: L) (.ref r :: S) M N P Q := wp_aload_n rfl dX7_choose_36 rfl
theorem sX7_choose_37 (hs : shk r = (7, 0)) : Wp mX7_choose d 37 L (.ref r :: S) M N P Q = Wp mX7_choose d 40 L (.ref (P r 2) :: S) M N P Q := wp_getfield rfl dX7_choose_37 rfl rfl hs rfl
theorem sX7_choose_40 : Wp mX7_choose d 40 (a0 :: .int x :: L) S M N P Q = Wp mX7_choose d 41 (a0 :: .int x :: L) (.int x :: S) M N P Q := wp_iload_n rfl dX7_choose_40 rfl
theorem sX7_choose_41 (hs : (shk r).1 = 100) : Wp mX7_choose d 41 L (.int j :: .ref r :: S) M N P Q = (vp_in j (shk r).2 ∧ Wp mX7_choose d 42 L (.int (M r j.toNatClampNeg) :: S) M N P Q) := wp_iaload rfl dX7_choose_41 (kd hs)
theorem sX7_choose_42 : Wp mX7_choose d 42 L (.int z :: .int x :: S) M N P Q = (if x = z then Wp mX7_choose d 45 L S M N P Q else Wp mX7_choose d 52 L S M N P Q) := wp_icmp_ne rfl dX7_choose_42 rfl
theorem sX7_choose_45 : Wp mX7_choose d 45 (.ref r :: L) S M N P Q = Wp mX7_choose d 46 (.ref r :: L) (.ref r :: S) M N P Q := wp_aload_n rfl dX7_choose_45 rfl
theorem sX7_choose_46 (hs : shk r = (7, 0)) : Wp mX7_choose d 46 L (.ref r :: S) M N P Q = Wp mX7_choose d 49 L (.ref (P r 1) :: S) M N P Q := wp_getfield rfl dX7_choose_46 rfl rfl hs rfl
theorem sX7_choose_49 : Wp mX7_choose d 49 (a0 :: a1 :: .int x :: L) S M N P Q = Wp mX7_choose d 50 (a0 :: a1 :: .int x :: L) (.int x :: S) M N P Q := wp_iload_n rfl dX7_choose_49 rfl
theorem sX7_choose_50 : Wp mX7_choose d 50 (a0 :: a1 :: a2 :: .int x :: L) S M N P Q = Wp mX7_choose d 51 (a0 :: a1 :: a2 :: .int x :: L) (.int x :: S) M N P Q := wp_iload_n rfl dX7_choose_50 rfl
theorem sX7_choose_51 (hs : (shk r).1 = 100) : Wp mX7_choose d 51 L (.int x :: .int j :: .ref r :: S) M N P Q = (vp_in j (shk r).2 ∧ Wp mX7_choose d 52 L S (up2 M r j.toNatClampNeg x) N P Q) := wp_iastore rfl dX7_choose_51 (kd hs)
theorem sX7_choose_52 (hn : nl a2 = true) : Wp mX7_choose d 52 (a0 :: a1 :: a2 :: .int x :: L) S M N P Q = Wp mX7_choose d 55 (a0 :: a1 :: a2 :: .int (x + (-1)) :: L) S M N P Q := wp_iinc rfl dX7_choose_52 rfl rfl (okst3 hn) rfl
theorem sX7_choose_55 : Wp mX7_choose d 55 L S M N P Q = Wp mX7_choose d 26 L S M N P Q := wp_goto rfl dX7_choose_55 rfl
theorem sX7_choose_58 : Wp mX7_choose d 58 (a0 :: .int x :: L) S M N P Q = Wp mX7_choose d 59 (a0 :: .int x :: L) (.int x :: S) M N P Q := wp_iload_n rfl dX7_choose_58 rfl
theorem sX7_choose_59 : Wp mX7_choose d 59 L S M N P Q = Wp mX7_choose d 60 L (.int 1 :: S) M N P Q := wp_iconst rfl dX7_choose_59 rfl
theorem sX7_choose_60 : Wp mX7_choose d 60 (.ref r :: L) S M N P Q = Wp mX7_choose d 61 (.ref r :: L) (.ref r :: S) M N P Q := wp_aload_n rfl dX7_choose_60 rfl
theorem sX7_choose_61 (hs : shk r = (7, 0)) : Wp mX7_choose d 61 L (.ref r :: S) M N P Q = Wp mX7_choose d 64 L (.ref (P r 1) :: S) M N P Q := wp_getfield rfl dX7_choose_61 rfl rfl hs rfl
theorem sX7_choose_64 : Wp mX7_choose d 64 (a0 :: a1 :: .int x :: L) S M N P Q = Wp mX7_choose d 65 (a0 :: a1 :: .int x :: L) (.int x :: S) M N P Q := wp_iload_n rfl dX7_choose_64 rfl
theorem sX7_choose_65 (hs : (shk r).1 = 100) : Wp mX7_choose d 65 L (.int j :: .ref r :: S) M N P Q = (vp_in j (shk r).2 ∧ Wp mX7_choose d 66 L (.int (M r j.toNatClampNeg) :: S) M N P Q) := wp_iaload rfl dX7_choose_65 (kd hs)
theorem sX7_choose_66 : Wp mX7_choose d 66 L (.int z :: .int x :: S) M N P Q = Wp mX7_choose d 67 L (.int (x <<< (z &&& 31)) :: S) M N P Q := wp_ishl rfl dX7_choose_66
theorem sX7_choose_67 : Wp mX7_choose d 67 L (.int z :: .int x :: S) M N P Q = Wp mX7_choose d 68 L (.int (x ||| z) :: S) M N P Q := wp_ior rfl dX7_choose_67
theorem sX7_choose_68 (hn : nl a0 = true) : Wp mX7_choose d 68 (a0 :: a1 :: L) (.int x :: S) M N P Q = Wp mX7_choose d 69 (a0 :: .int x :: L) S M N P Q := wp_istore_n rfl dX7_choose_68 (lenGt1 ..) (okst1 hn) rfl
theorem sX7_choose_69 (hn : nl a1 = true) : Wp mX7_choose d 69 (a0 :: a1 :: .int x :: L) S M N P Q = Wp mX7_choose d 72 (a0 :: a1 :: .int (x + 1) :: L) S M N P Q := wp_iinc rfl dX7_choose_69 rfl rfl (okst2 hn) rfl
theorem sX7_choose_72 : Wp mX7_choose d 72 L S M N P Q = Wp mX7_choose d 4 L S M N P Q := wp_goto rfl dX7_choose_72 rfl
theorem sX7_choose_75 : Wp mX7_choose d 75 L [] M N P Q = Q none M N P := wp_vret rfl dX7_choose_75 rfl
theorem sX9_scan_0 : Wp mX9_scan d 0 (.ref r :: L) S M N P Q = Wp mX9_scan d 1 (.ref r :: L) (.ref r :: S) M N P Q := wp_aload_n rfl dX9_scan_0 rfl
theorem sX9_scan_1 : Wp mX9_scan d 1 L S M N P Q = Wp mX9_scan d 2 L (.int 0 :: S) M N P Q := wp_iconst rfl dX9_scan_1 rfl
theorem sX9_scan_2 (hs : shk r = (9, 0)) : Wp mX9_scan d 2 L (.int x :: .ref r :: S) M N P Q = Wp mX9_scan d 5 L S (up2 M r 3 x) N P Q := wp_putI rfl dX9_scan_2 rfl rfl hs rfl ⟨_, _, _, _, rfl, by decide, rfl, tyX9_ok 3 (by decide), rfl, rfl⟩
theorem sX9_scan_5 : Wp mX9_scan d 5 L S M N P Q = Wp mX9_scan d 6 L (.int 0 :: S) M N P Q := wp_iconst rfl dX9_scan_5 rfl
theorem sX9_scan_6 (hn : nl a2 = true) : Wp mX9_scan d 6 (a0 :: a1 :: a2 :: a3 :: L) (.int x :: S) M N P Q = Wp mX9_scan d 7 (a0 :: a1 :: a2 :: .int x :: L) S M N P Q := wp_istore_n rfl dX9_scan_6 (lenGt3 ..) (okst3 hn) rfl
theorem sX9_scan_7 : Wp mX9_scan d 7 L S M N P Q = Wp mX9_scan d 8 L (.int 0 :: S) M N P Q := wp_iconst rfl dX9_scan_7 rfl
theorem sX9_scan_8 (hn : nl a3 = true) : Wp mX9_scan d 8 (a0 :: a1 :: a2 :: a3 :: a4 :: L) (.int x :: S) M N P Q = Wp mX9_scan d 10 (a0 :: a1 :: a2 :: a3 :: .int x :: L) S M N P Q := wp_istore rfl dX9_scan_8 (lenGt4 ..) (okst4 hn) rfl
theorem sX9_scan_10 : Wp mX9_scan d 10 (a0 :: a1 :: a2 :: a3 :: .int x :: L) S M N P Q = Wp mX9_scan d 12 (a0 :: a1 :: a2 :: a3 :: .int x :: L) (.int x :: S) M N P Q := wp_iload rfl dX9_scan_10 rfl
theorem sX9_scan_12 : Wp mX9_scan d 12 (a0 :: .ref r :: L) S M N P Q = Wp mX9_scan d 13 (a0 :: .ref r :: L) (.ref r :: S) M N P Q := wp_aload_n rfl dX9_scan_12 rfl
theorem sX9_scan_13 (h1 : isA (shk r).1 = true) : Wp mX9_scan d 13 L (.ref r :: S) M N P Q = Wp mX9_scan d 14 L (.int (nI (shk r).2) :: S) M N P Q := wp_arraylength rfl dX9_scan_13 (kd rfl) (isA_le h1).1 (isA_le h1).2
theorem sX9_scan_14 : Wp mX9_scan d 14 L (.int z :: .int x :: S) M N P Q = (if z ≤ x then Wp mX9_scan d 70 L S M N P Q else Wp mX9_scan d 17 L S M N P Q) := wp_icmp_ge rfl dX9_scan_14 rfl
theorem sX9_scan_17 : Wp mX9_scan d 17 (a0 :: a1 :: a2 :: .int x :: L) S M N P Q = Wp mX9_scan d 18 (a0 :: a1 :: a2 :: .int x :: L) (.int x :: S) M N P Q := wp_iload_n rfl dX9_scan_17 rfl
theorem sX9_scan_18 : Wp mX9_scan d 18 (a0 :: a1 :: .int x :: L) S M N P Q = Wp mX9_scan d 19 (a0 :: a1 :: .int x :: L) (.int x :: S) M N P Q := wp_iload_n rfl dX9_scan_18 rfl
theorem sX9_scan_19 : Wp mX9_scan d 19 L (.int z :: .int x :: S) M N P Q = (if z ≤ x then Wp mX9_scan d 70 L S M N P Q else Wp mX9_scan d 22 L S M N P Q) := wp_icmp_ge rfl dX9_scan_19 rfl
theorem sX9_scan_22 : Wp mX9_scan d 22 (a0 :: .ref r :: L) S M N P Q = Wp mX9_scan d 23 (a0 :: .ref r :: L) (.ref r :: S) M N P Q := wp_aload_n rfl dX9_scan_22 rfl
theorem sX9_scan_23 : Wp mX9_scan d 23 (a0 :: a1 :: a2 :: .int x :: L) S M N P Q = Wp mX9_scan d 24 (a0 :: a1 :: a2 :: .int x :: L) (.int x :: S) M N P Q := wp_iload_n rfl dX9_scan_23 rfl
theorem sX9_scan_24 (hc : isB (shk r).1 = true) : Wp mX9_scan d 24 L (.int j :: .ref r :: S) M N P Q = (vp_in j (shk r).2 ∧ Wp mX9_scan d 25 L (.int (M r j.toNatClampNeg) :: S) M N P Q) := wp_baload rfl dX9_scan_24 (isB_or hc) (kd rfl)
theorem sX9_scan_25 {x0 : Int32} (hS : stk S ≤ 8) : Wp mX9_scan (d + 1) 25 L (.int x0 :: S) M N P Q = Wp mX9_isBlank d 0 [.int x0] [] M N P (fun v M' N' P' => Wp mX9_scan (d + 1) 28 L (v.toList ++ S) M' N' P' Q) := wp_callS (As := [.int x0]) rfl dX9_scan_25 rfl rfl rfl ⟨rfl, Nat.le_of_ble_eq_true rfl, Nat.le_of_ble_eq_true rfl⟩ rfl hS
theorem sX9_scan_28 : Wp mX9_scan d 28 L (.int x :: S) M N P Q = (if x = 0 then Wp mX9_scan d 37 L S M N P Q else Wp mX9_scan d 31 L S M N P Q) := wp_if_eq rfl dX9_scan_28 rfl
theorem sX9_scan_31 : Wp mX9_scan d 31 (a0 :: a1 :: a2 :: .int x :: L) S M N P Q = Wp mX9_scan d 32 (a0 :: a1 :: a2 :: .int x :: L) (.int x :: S) M N P Q := wp_iload_n rfl dX9_scan_31 rfl
theorem sX9_scan_32 : Wp mX9_scan d 32 L S M N P Q = Wp mX9_scan d 33 L (.int 1 :: S) M N P Q := wp_iconst rfl dX9_scan_32 rfl
theorem sX9_scan_33 : Wp mX9_scan d 33 L (.int z :: .int x :: S) M N P Q = Wp mX9_scan d 34 L (.int (x + z) :: S) M N P Q := wp_iadd rfl dX9_scan_33
theorem sX9_scan_34 : Wp mX9_scan d 34 L S M N P Q = Wp mX9_scan d 44 L S M N P Q := wp_goto rfl dX9_scan_34 rfl
theorem sX9_scan_37 : Wp mX9_scan d 37 (.ref r :: L) S M N P Q = Wp mX9_scan d 38 (.ref r :: L) (.ref r :: S) M N P Q := wp_aload_n rfl dX9_scan_37 rfl
theorem sX9_scan_38 : Wp mX9_scan d 38 (a0 :: .ref r :: L) S M N P Q = Wp mX9_scan d 39 (a0 :: .ref r :: L) (.ref r :: S) M N P Q := wp_aload_n rfl dX9_scan_38 rfl
theorem sX9_scan_39 : Wp mX9_scan d 39 (a0 :: a1 :: .int x :: L) S M N P Q = Wp mX9_scan d 40 (a0 :: a1 :: .int x :: L) (.int x :: S) M N P Q := wp_iload_n rfl dX9_scan_39 rfl
theorem sX9_scan_40 : Wp mX9_scan d 40 (a0 :: a1 :: a2 :: .int x :: L) S M N P Q = Wp mX9_scan d 41 (a0 :: a1 :: a2 :: .int x :: L) (.int x :: S) M N P Q := wp_iload_n rfl dX9_scan_40 rfl
theorem sX9_scan_41 {r0 : Nat} {x1 : Int32} {x2 : Int32} (hs : shk r = (9, 0)) (hS : stk S ≤ 8) : Wp mX9_scan (d + 1) 41 L (.int x2 :: .int x1 :: .ref r0 :: .ref r :: S) M N P Q = Wp mX9_scanToken d 0 [.ref r, .ref r0, .int x1, .int x2, .float 0] [] M N P (fun v M' N' P' => Wp mX9_scan (d + 1) 44 L (v.toList ++ S) M' N' P' Q) := wp_callV (As := [.ref r0, .int x1, .int x2]) rfl dX9_scan_41 rfl rfl (Or.inl ⟨_, _, _, hs, rfl⟩) rfl ⟨rfl, Nat.le_of_ble_eq_true rfl, Nat.le_of_ble_eq_true rfl⟩ rfl hS
theorem sX9_scan_44 (hn : nl a4 = true) : Wp mX9_scan d 44 (a0 :: a1 :: a2 :: a3 :: a4 :: a5 :: L) (.int x :: S) M N P Q = Wp mX9_scan d 46 (a0 :: a1 :: a2 :: a3 :: a4 :: .int x :: L) S M N P Q := wp_istore rfl dX9_scan_44 (lenGt5 ..) (okst5 hn) rfl
theorem sX9_scan_46 : Wp mX9_scan d 46 (a0 :: a1 :: a2 :: a3 :: a4 :: .int x :: L) S M N P Q = Wp mX9_scan d 48 (a0 :: a1 :: a2 :: a3 :: a4 :: .int x :: L) (.int x :: S) M N P Q := wp_iload rfl dX9_scan_46 rfl
theorem sX9_scan_48 : Wp mX9_scan d 48 L S M N P Q = Wp mX9_scan d 49 L (.int (-1) :: S) M N P Q := wp_iconst rfl dX9_scan_48 rfl
theorem sX9_scan_49 : Wp mX9_scan d 49 L (.int z :: .int x :: S) M N P Q = (if x = z then Wp mX9_scan d 52 L S M N P Q else Wp mX9_scan d 61 L S M N P Q) := wp_icmp_ne rfl dX9_scan_49 rfl
theorem sX9_scan_52 : Wp mX9_scan d 52 (.ref r :: L) S M N P Q = Wp mX9_scan d 53 (.ref r :: L) (.ref r :: S) M N P Q := wp_aload_n rfl dX9_scan_52 rfl
theorem sX9_scan_53 : Wp mX9_scan d 53 L S M N P Q = Wp mX9_scan d 55 L (.int 21 :: S) M N P Q := wp_bipush rfl dX9_scan_53 rfl
theorem sX9_scan_55 : Wp mX9_scan d 55 (a0 :: a1 :: a2 :: .int x :: L) S M N P Q = Wp mX9_scan d 56 (a0 :: a1 :: a2 :: .int x :: L) (.int x :: S) M N P Q := wp_iload_n rfl dX9_scan_55 rfl
theorem sX9_scan_56 : Wp mX9_scan d 56 L S M N P Q = Wp mX9_scan d 57 L (.int 0 :: S) M N P Q := wp_iconst rfl dX9_scan_56 rfl
theorem sX9_scan_57 {x0 : Int32} {x1 : Int32} {x2 : Int32} (hs : shk r = (9, 0)) (hS : stk S ≤ 8) : Wp mX9_scan (d + 1) 57 L (.int x2 :: .int x1 :: .int x0 :: .ref r :: S) M N P Q = Wp mX9_add d 0 [.ref r, .int x0, .int x1, .int x2] [] M N P (fun v M' N' P' => Wp mX9_scan (d + 1) 60 L (v.toList ++ S) M' N' P' Q) := wp_callV (As := [.int x0, .int x1, .int x2]) rfl dX9_scan_57 rfl rfl (Or.inl ⟨_, _, _, hs, rfl⟩) rfl ⟨rfl, Nat.le_of_ble_eq_true rfl, Nat.le_of_ble_eq_true rfl⟩ rfl hS
theorem sX9_scan_60 : Wp mX9_scan d 60 L [] M N P Q = Q none M N P := wp_vret rfl dX9_scan_60 rfl
theorem sX9_scan_61 : Wp mX9_scan d 61 (a0 :: a1 :: a2 :: a3 :: a4 :: .int x :: L) S M N P Q = Wp mX9_scan d 63 (a0 :: a1 :: a2 :: a3 :: a4 :: .int x :: L) (.int x :: S) M N P Q := wp_iload rfl dX9_scan_61 rfl
theorem sX9_scan_63 (hn : nl a2 = true) : Wp mX9_scan d 63 (a0 :: a1 :: a2 :: a3 :: L) (.int x :: S) M N P Q = Wp mX9_scan d 64 (a0 :: a1 :: a2 :: .int x :: L) S M N P Q := wp_istore_n rfl dX9_scan_63 (lenGt3 ..) (okst3 hn) rfl
theorem sX9_scan_64 (hn : nl a3 = true) : Wp mX9_scan d 64 (a0 :: a1 :: a2 :: a3 :: .int x :: L) S M N P Q = Wp mX9_scan d 67 (a0 :: a1 :: a2 :: a3 :: .int (x + 1) :: L) S M N P Q := wp_iinc rfl dX9_scan_64 rfl rfl (okst4 hn) rfl
theorem sX9_scan_67 : Wp mX9_scan d 67 L S M N P Q = Wp mX9_scan d 10 L S M N P Q := wp_goto rfl dX9_scan_67 rfl
theorem sX9_scan_70 : Wp mX9_scan d 70 (.ref r :: L) S M N P Q = Wp mX9_scan d 71 (.ref r :: L) (.ref r :: S) M N P Q := wp_aload_n rfl dX9_scan_70 rfl
theorem sX9_scan_71 : Wp mX9_scan d 71 L S M N P Q = Wp mX9_scan d 73 L (.int 20 :: S) M N P Q := wp_bipush rfl dX9_scan_71 rfl
theorem sX9_scan_73 : Wp mX9_scan d 73 (a0 :: a1 :: .int x :: L) S M N P Q = Wp mX9_scan d 74 (a0 :: a1 :: .int x :: L) (.int x :: S) M N P Q := wp_iload_n rfl dX9_scan_73 rfl
theorem sX9_scan_74 : Wp mX9_scan d 74 L S M N P Q = Wp mX9_scan d 75 L (.int 0 :: S) M N P Q := wp_iconst rfl dX9_scan_74 rfl
theorem sX9_scan_75 {x0 : Int32} {x1 : Int32} {x2 : Int32} (hs : shk r = (9, 0)) (hS : stk S ≤ 8) : Wp mX9_scan (d + 1) 75 L (.int x2 :: .int x1 :: .int x0 :: .ref r :: S) M N P Q = Wp mX9_add d 0 [.ref r, .int x0, .int x1, .int x2] [] M N P (fun v M' N' P' => Wp mX9_scan (d + 1) 78 L (v.toList ++ S) M' N' P' Q) := wp_callV (As := [.int x0, .int x1, .int x2]) rfl dX9_scan_75 rfl rfl (Or.inl ⟨_, _, _, hs, rfl⟩) rfl ⟨rfl, Nat.le_of_ble_eq_true rfl, Nat.le_of_ble_eq_true rfl⟩ rfl hS
theorem sX9_scan_78 : Wp mX9_scan d 78 L [] M N P Q = Q none M N P := wp_vret rfl dX9_scan_78 rfl
theorem sX9_scanToken_0 : Wp mX9_scanToken d 0 (a0 :: .ref r :: L) S M N P Q = Wp mX9_scanToken d 1 (a0 :: .ref r :: L) (.ref r :: S) M N P Q := wp_aload_n rfl dX9_scanToken_0 rfl
theorem sX9_scanToken_1 : Wp mX9_scanToken d 1 (a0 :: a1 :: a2 :: .int x :: L) S M N P Q = Wp mX9_scanToken d 2 (a0 :: a1 :: a2 :: .int x :: L) (.int x :: S) M N P Q := wp_iload_n rfl dX9_scanToken_1 rfl
theorem sX9_scanToken_2 (hc : isB (shk r).1 = true) : Wp mX9_scanToken d 2 L (.int j :: .ref r :: S) M N P Q = (vp_in j (shk r).2 ∧ Wp mX9_scanToken d 3 L (.int (M r j.toNatClampNeg) :: S) M N P Q) := wp_baload rfl dX9_scanToken_2 (isB_or hc) (kd rfl)
theorem sX9_scanToken_3 {x0 : Int32} (hS : stk S ≤ 8) : Wp mX9_scanToken (d + 1) 3 L (.int x0 :: S) M N P Q = Wp mX9_isLetter d 0 [.int x0] [] M N P (fun v M' N' P' => Wp mX9_scanToken (d + 1) 6 L (v.toList ++ S) M' N' P' Q) := wp_callS (As := [.int x0]) rfl dX9_scanToken_3 rfl rfl rfl ⟨rfl, Nat.le_of_ble_eq_true rfl, Nat.le_of_ble_eq_true rfl⟩ rfl hS
theorem sX9_scanToken_6 : Wp mX9_scanToken d 6 L (.int x :: S) M N P Q = (if x = 0 then Wp mX9_scanToken d 17 L S M N P Q else Wp mX9_scanToken d 9 L S M N P Q) := wp_if_eq rfl dX9_scanToken_6 rfl
theorem sX9_scanToken_9 : Wp mX9_scanToken d 9 (.ref r :: L) S M N P Q = Wp mX9_scanToken d 10 (.ref r :: L) (.ref r :: S) M N P Q := wp_aload_n rfl dX9_scanToken_9 rfl
theorem sX9_scanToken_10 : Wp mX9_scanToken d 10 (a0 :: .ref r :: L) S M N P Q = Wp mX9_scanToken d 11 (a0 :: .ref r :: L) (.ref r :: S) M N P Q := wp_aload_n rfl dX9_scanToken_10 rfl
theorem sX9_scanToken_11 : Wp mX9_scanToken d 11 (a0 :: a1 :: .int x :: L) S M N P Q = Wp mX9_scanToken d 12 (a0 :: a1 :: .int x :: L) (.int x :: S) M N P Q := wp_iload_n rfl dX9_scanToken_11 rfl
theorem sX9_scanToken_12 : Wp mX9_scanToken d 12 (a0 :: a1 :: a2 :: .int x :: L) S M N P Q = Wp mX9_scanToken d 13 (a0 :: a1 :: a2 :: .int x :: L) (.int x :: S) M N P Q := wp_iload_n rfl dX9_scanToken_12 rfl
theorem sX9_scanToken_13 {r0 : Nat} {x1 : Int32} {x2 : Int32} (hs : shk r = (9, 0)) (hS : stk S ≤ 8) : Wp mX9_scanToken (d + 1) 13 L (.int x2 :: .int x1 :: .ref r0 :: .ref r :: S) M N P Q = Wp mX9_scanWord d 0 [.ref r, .ref r0, .int x1, .int x2, .float 0, .float 0, .float 0, .float 0] [] M N P (fun v M' N' P' => Wp mX9_scanToken (d + 1) 16 L (v.toList ++ S) M' N' P' Q) := wp_callV (As := [.ref r0, .int x1, .int x2]) rfl dX9_scanToken_13 rfl rfl (Or.inl ⟨_, _, _, hs, rfl⟩) rfl ⟨rfl, Nat.le_of_ble_eq_true rfl, Nat.le_of_ble_eq_true rfl⟩ rfl hS
theorem sX9_scanToken_16 : Wp mX9_scanToken d 16 L [.int x] M N P Q = Q (some (.int x)) M N P := wp_iret rfl dX9_scanToken_16 rfl rfl
theorem sX9_scanToken_17 : Wp mX9_scanToken d 17 (a0 :: .ref r :: L) S M N P Q = Wp mX9_scanToken d 18 (a0 :: .ref r :: L) (.ref r :: S) M N P Q := wp_aload_n rfl dX9_scanToken_17 rfl
theorem sX9_scanToken_18 : Wp mX9_scanToken d 18 (a0 :: a1 :: a2 :: .int x :: L) S M N P Q = Wp mX9_scanToken d 19 (a0 :: a1 :: a2 :: .int x :: L) (.int x :: S) M N P Q := wp_iload_n rfl dX9_scanToken_18 rfl
theorem sX9_scanToken_19 (hc : isB (shk r).1 = true) : Wp mX9_scanToken d 19 L (.int j :: .ref r :: S) M N P Q = (vp_in j (shk r).2 ∧ Wp mX9_scanToken d 20 L (.int (M r j.toNatClampNeg) :: S) M N P Q) := wp_baload rfl dX9_scanToken_19 (isB_or hc) (kd rfl)
theorem sX9_scanToken_20 {x0 : Int32} (hS : stk S ≤ 8) : Wp mX9_scanToken (d + 1) 20 L (.int x0 :: S) M N P Q = Wp mX9_isDigit d 0 [.int x0] [] M N P (fun v M' N' P' => Wp mX9_scanToken (d + 1) 23 L (v.toList ++ S) M' N' P' Q) := wp_callS (As := [.int x0]) rfl dX9_scanToken_20 rfl rfl rfl ⟨rfl, Nat.le_of_ble_eq_true rfl, Nat.le_of_ble_eq_true rfl⟩ rfl hS
theorem sX9_scanToken_23 : Wp mX9_scanToken d 23 L (.int x :: S) M N P Q = (if x = 0 then Wp mX9_scanToken d 34 L S M N P Q else Wp mX9_scanToken d 26 L S M N P Q) := wp_if_eq rfl dX9_scanToken_23 rfl
theorem sX9_scanToken_26 : Wp mX9_scanToken d 26 (.ref r :: L) S M N P Q = Wp mX9_scanToken d 27 (.ref r :: L) (.ref r :: S) M N P Q := wp_aload_n rfl dX9_scanToken_26 rfl
theorem sX9_scanToken_27 : Wp mX9_scanToken d 27 (a0 :: .ref r :: L) S M N P Q = Wp mX9_scanToken d 28 (a0 :: .ref r :: L) (.ref r :: S) M N P Q := wp_aload_n rfl dX9_scanToken_27 rfl
theorem sX9_scanToken_28 : Wp mX9_scanToken d 28 (a0 :: a1 :: .int x :: L) S M N P Q = Wp mX9_scanToken d 29 (a0 :: a1 :: .int x :: L) (.int x :: S) M N P Q := wp_iload_n rfl dX9_scanToken_28 rfl
theorem sX9_scanToken_29 : Wp mX9_scanToken d 29 (a0 :: a1 :: a2 :: .int x :: L) S M N P Q = Wp mX9_scanToken d 30 (a0 :: a1 :: a2 :: .int x :: L) (.int x :: S) M N P Q := wp_iload_n rfl dX9_scanToken_29 rfl
theorem sX9_scanToken_30 {r0 : Nat} {x1 : Int32} {x2 : Int32} (hs : shk r = (9, 0)) (hS : stk S ≤ 8) : Wp mX9_scanToken (d + 1) 30 L (.int x2 :: .int x1 :: .ref r0 :: .ref r :: S) M N P Q = Wp mX9_scanNumber d 0 [.ref r, .ref r0, .int x1, .int x2, .float 0, .float 0, .float 0] [] M N P (fun v M' N' P' => Wp mX9_scanToken (d + 1) 33 L (v.toList ++ S) M' N' P' Q) := wp_callV (As := [.ref r0, .int x1, .int x2]) rfl dX9_scanToken_30 rfl rfl (Or.inl ⟨_, _, _, hs, rfl⟩) rfl ⟨rfl, Nat.le_of_ble_eq_true rfl, Nat.le_of_ble_eq_true rfl⟩ rfl hS
theorem sX9_scanToken_33 : Wp mX9_scanToken d 33 L [.int x] M N P Q = Q (some (.int x)) M N P := wp_iret rfl dX9_scanToken_33 rfl rfl
theorem sX9_scanToken_34 : Wp mX9_scanToken d 34 (a0 :: .ref r :: L) S M N P Q = Wp mX9_scanToken d 35 (a0 :: .ref r :: L) (.ref r :: S) M N P Q := wp_aload_n rfl dX9_scanToken_34 rfl
theorem sX9_scanToken_35 : Wp mX9_scanToken d 35 (a0 :: a1 :: a2 :: .int x :: L) S M N P Q = Wp mX9_scanToken d 36 (a0 :: a1 :: a2 :: .int x :: L) (.int x :: S) M N P Q := wp_iload_n rfl dX9_scanToken_35 rfl
theorem sX9_scanToken_36 (hc : isB (shk r).1 = true) : Wp mX9_scanToken d 36 L (.int j :: .ref r :: S) M N P Q = (vp_in j (shk r).2 ∧ Wp mX9_scanToken d 37 L (.int (M r j.toNatClampNeg) :: S) M N P Q) := wp_baload rfl dX9_scanToken_36 (isB_or hc) (kd rfl)
theorem sX9_scanToken_37 : Wp mX9_scanToken d 37 L (.int x :: S) M N P Q = (if x < 0 then Wp mX9_scanToken d 52 L S M N P Q else Wp mX9_scanToken d 40 L S M N P Q) := wp_if_lt rfl dX9_scanToken_37 rfl
theorem sX9_scanToken_40 : Wp mX9_scanToken d 40 L S M N P Q = Wp mX9_scanToken d 42 L (.ref 200 :: S) M N P Q := wp_ldc rfl dX9_scanToken_40 rfl rfl
theorem sX9_scanToken_42 : Wp mX9_scanToken d 42 (a0 :: .ref r :: L) S M N P Q = Wp mX9_scanToken d 43 (a0 :: .ref r :: L) (.ref r :: S) M N P Q := wp_aload_n rfl dX9_scanToken_42 rfl
theorem sX9_scanToken_43 : Wp mX9_scanToken d 43 (a0 :: a1 :: a2 :: .int x :: L) S M N P Q = Wp mX9_scanToken d 44 (a0 :: a1 :: a2 :: .int x :: L) (.int x :: S) M N P Q := wp_iload_n rfl dX9_scanToken_43 rfl
theorem sX9_scanToken_44 (hc : isB (shk r).1 = true) : Wp mX9_scanToken d 44 L (.int j :: .ref r :: S) M N P Q = (vp_in j (shk r).2 ∧ Wp mX9_scanToken d 45 L (.int (M r j.toNatClampNeg) :: S) M N P Q) := wp_baload rfl dX9_scanToken_44 (isB_or hc) (kd rfl)
theorem sX9_scanToken_45 : Wp mX9_scanToken d 45 L (.int x :: S) M N P Q = Wp mX9_scanToken d 46 L (.int (x.toUInt32 % 65536).toInt32 :: S) M N P Q := wp_i2c rfl dX9_scanToken_45
theorem sX9_scanToken_46 {x0 : Int32} {i : Nat} (hi : i < 3) (hr : r = 200 + i) (hS : stk S ≤ 8) : Wp mX9_scanToken (d + 1) 46 L (.int x0 :: .ref r :: S) M N P Q = Wp mJ0_indexOf_0f7a4 d 0 [.ref r, .int x0] [] M N P (fun v M' N' P' => Wp mX9_scanToken (d + 1) 49 L (v.toList ++ S) M' N' P' Q) := wp_callV (As := [.int x0]) rfl dX9_scanToken_46 rfl rfl (Or.inr ⟨i, hi, hr, rfl⟩) rfl ⟨rfl, Nat.le_of_ble_eq_true rfl, Nat.le_of_ble_eq_true rfl⟩ rfl hS
theorem sX9_scanToken_49 : Wp mX9_scanToken d 49 L S M N P Q = Wp mX9_scanToken d 53 L S M N P Q := wp_goto rfl dX9_scanToken_49 rfl
theorem sX9_scanToken_52 : Wp mX9_scanToken d 52 L S M N P Q = Wp mX9_scanToken d 53 L (.int (-1) :: S) M N P Q := wp_iconst rfl dX9_scanToken_52 rfl
theorem sX9_scanToken_53 (hn : nl a3 = true) : Wp mX9_scanToken d 53 (a0 :: a1 :: a2 :: a3 :: a4 :: L) (.int x :: S) M N P Q = Wp mX9_scanToken d 55 (a0 :: a1 :: a2 :: a3 :: .int x :: L) S M N P Q := wp_istore rfl dX9_scanToken_53 (lenGt4 ..) (okst4 hn) rfl
theorem sX9_scanToken_55 : Wp mX9_scanToken d 55 (a0 :: a1 :: a2 :: a3 :: .int x :: L) S M N P Q = Wp mX9_scanToken d 57 (a0 :: a1 :: a2 :: a3 :: .int x :: L) (.int x :: S) M N P Q := wp_iload rfl dX9_scanToken_55 rfl
theorem sX9_scanToken_57 : Wp mX9_scanToken d 57 L (.int x :: S) M N P Q = (if 0 ≤ x then Wp mX9_scanToken d 62 L S M N P Q else Wp mX9_scanToken d 60 L S M N P Q) := wp_if_ge rfl dX9_scanToken_57 rfl
theorem sX9_scanToken_60 : Wp mX9_scanToken d 60 L S M N P Q = Wp mX9_scanToken d 61 L (.int (-1) :: S) M N P Q := wp_iconst rfl dX9_scanToken_60 rfl
theorem sX9_scanToken_61 : Wp mX9_scanToken d 61 L [.int x] M N P Q = Q (some (.int x)) M N P := wp_iret rfl dX9_scanToken_61 rfl rfl
theorem sX9_scanToken_62 : Wp mX9_scanToken d 62 (.ref r :: L) S M N P Q = Wp mX9_scanToken d 63 (.ref r :: L) (.ref r :: S) M N P Q := wp_aload_n rfl dX9_scanToken_62 rfl
theorem sX9_scanToken_63 : Wp mX9_scanToken d 63 L S M N P Q = Wp mX9_scanToken d 65 L (.int 22 :: S) M N P Q := wp_bipush rfl dX9_scanToken_63 rfl
theorem sX9_scanToken_65 : Wp mX9_scanToken d 65 (a0 :: a1 :: a2 :: a3 :: .int x :: L) S M N P Q = Wp mX9_scanToken d 67 (a0 :: a1 :: a2 :: a3 :: .int x :: L) (.int x :: S) M N P Q := wp_iload rfl dX9_scanToken_65 rfl
theorem sX9_scanToken_67 : Wp mX9_scanToken d 67 L (.int z :: .int x :: S) M N P Q = Wp mX9_scanToken d 68 L (.int (x + z) :: S) M N P Q := wp_iadd rfl dX9_scanToken_67
theorem sX9_scanToken_68 : Wp mX9_scanToken d 68 (a0 :: a1 :: a2 :: .int x :: L) S M N P Q = Wp mX9_scanToken d 69 (a0 :: a1 :: a2 :: .int x :: L) (.int x :: S) M N P Q := wp_iload_n rfl dX9_scanToken_68 rfl
theorem sX9_scanToken_69 : Wp mX9_scanToken d 69 L S M N P Q = Wp mX9_scanToken d 70 L (.int 0 :: S) M N P Q := wp_iconst rfl dX9_scanToken_69 rfl
theorem sX9_scanToken_70 {x0 : Int32} {x1 : Int32} {x2 : Int32} (hs : shk r = (9, 0)) (hS : stk S ≤ 8) : Wp mX9_scanToken (d + 1) 70 L (.int x2 :: .int x1 :: .int x0 :: .ref r :: S) M N P Q = Wp mX9_add d 0 [.ref r, .int x0, .int x1, .int x2] [] M N P (fun v M' N' P' => Wp mX9_scanToken (d + 1) 73 L (v.toList ++ S) M' N' P' Q) := wp_callV (As := [.int x0, .int x1, .int x2]) rfl dX9_scanToken_70 rfl rfl (Or.inl ⟨_, _, _, hs, rfl⟩) rfl ⟨rfl, Nat.le_of_ble_eq_true rfl, Nat.le_of_ble_eq_true rfl⟩ rfl hS
theorem sX9_scanToken_73 : Wp mX9_scanToken d 73 (a0 :: a1 :: a2 :: .int x :: L) S M N P Q = Wp mX9_scanToken d 74 (a0 :: a1 :: a2 :: .int x :: L) (.int x :: S) M N P Q := wp_iload_n rfl dX9_scanToken_73 rfl
theorem sX9_scanToken_74 : Wp mX9_scanToken d 74 L S M N P Q = Wp mX9_scanToken d 75 L (.int 1 :: S) M N P Q := wp_iconst rfl dX9_scanToken_74 rfl
theorem sX9_scanToken_75 : Wp mX9_scanToken d 75 L (.int z :: .int x :: S) M N P Q = Wp mX9_scanToken d 76 L (.int (x + z) :: S) M N P Q := wp_iadd rfl dX9_scanToken_75
theorem sX9_scanToken_76 : Wp mX9_scanToken d 76 L [.int x] M N P Q = Q (some (.int x)) M N P := wp_iret rfl dX9_scanToken_76 rfl rfl
theorem sX9_scanWord_0 : Wp mX9_scanWord d 0 (a0 :: a1 :: a2 :: .int x :: L) S M N P Q = Wp mX9_scanWord d 1 (a0 :: a1 :: a2 :: .int x :: L) (.int x :: S) M N P Q := wp_iload_n rfl dX9_scanWord_0 rfl
theorem sX9_scanWord_1 (hn : nl a3 = true) : Wp mX9_scanWord d 1 (a0 :: a1 :: a2 :: a3 :: a4 :: L) (.int x :: S) M N P Q = Wp mX9_scanWord d 3 (a0 :: a1 :: a2 :: a3 :: .int x :: L) S M N P Q := wp_istore rfl dX9_scanWord_1 (lenGt4 ..) (okst4 hn) rfl
theorem sX9_scanWord_3 : Wp mX9_scanWord d 3 (a0 :: a1 :: a2 :: a3 :: .int x :: L) S M N P Q = Wp mX9_scanWord d 5 (a0 :: a1 :: a2 :: a3 :: .int x :: L) (.int x :: S) M N P Q := wp_iload rfl dX9_scanWord_3 rfl
theorem sX9_scanWord_5 : Wp mX9_scanWord d 5 (a0 :: a1 :: .int x :: L) S M N P Q = Wp mX9_scanWord d 6 (a0 :: a1 :: .int x :: L) (.int x :: S) M N P Q := wp_iload_n rfl dX9_scanWord_5 rfl
theorem sX9_scanWord_6 : Wp mX9_scanWord d 6 L (.int z :: .int x :: S) M N P Q = (if z ≤ x then Wp mX9_scanWord d 25 L S M N P Q else Wp mX9_scanWord d 9 L S M N P Q) := wp_icmp_ge rfl dX9_scanWord_6 rfl
theorem sX9_scanWord_9 : Wp mX9_scanWord d 9 (a0 :: .ref r :: L) S M N P Q = Wp mX9_scanWord d 10 (a0 :: .ref r :: L) (.ref r :: S) M N P Q := wp_aload_n rfl dX9_scanWord_9 rfl
theorem sX9_scanWord_10 : Wp mX9_scanWord d 10 (a0 :: a1 :: a2 :: a3 :: .int x :: L) S M N P Q = Wp mX9_scanWord d 12 (a0 :: a1 :: a2 :: a3 :: .int x :: L) (.int x :: S) M N P Q := wp_iload rfl dX9_scanWord_10 rfl
theorem sX9_scanWord_12 (hc : isB (shk r).1 = true) : Wp mX9_scanWord d 12 L (.int j :: .ref r :: S) M N P Q = (vp_in j (shk r).2 ∧ Wp mX9_scanWord d 13 L (.int (M r j.toNatClampNeg) :: S) M N P Q) := wp_baload rfl dX9_scanWord_12 (isB_or hc) (kd rfl)
theorem sX9_scanWord_13 {x0 : Int32} (hS : stk S ≤ 8) : Wp mX9_scanWord (d + 1) 13 L (.int x0 :: S) M N P Q = Wp mX9_isLetter d 0 [.int x0] [] M N P (fun v M' N' P' => Wp mX9_scanWord (d + 1) 16 L (v.toList ++ S) M' N' P' Q) := wp_callS (As := [.int x0]) rfl dX9_scanWord_13 rfl rfl rfl ⟨rfl, Nat.le_of_ble_eq_true rfl, Nat.le_of_ble_eq_true rfl⟩ rfl hS
theorem sX9_scanWord_16 : Wp mX9_scanWord d 16 L (.int x :: S) M N P Q = (if x = 0 then Wp mX9_scanWord d 25 L S M N P Q else Wp mX9_scanWord d 19 L S M N P Q) := wp_if_eq rfl dX9_scanWord_16 rfl
theorem sX9_scanWord_19 (hn : nl a3 = true) : Wp mX9_scanWord d 19 (a0 :: a1 :: a2 :: a3 :: .int x :: L) S M N P Q = Wp mX9_scanWord d 22 (a0 :: a1 :: a2 :: a3 :: .int (x + 1) :: L) S M N P Q := wp_iinc rfl dX9_scanWord_19 rfl rfl (okst4 hn) rfl
theorem sX9_scanWord_22 : Wp mX9_scanWord d 22 L S M N P Q = Wp mX9_scanWord d 3 L S M N P Q := wp_goto rfl dX9_scanWord_22 rfl
theorem sX9_scanWord_25 : Wp mX9_scanWord d 25 (a0 :: a1 :: a2 :: a3 :: .int x :: L) S M N P Q = Wp mX9_scanWord d 27 (a0 :: a1 :: a2 :: a3 :: .int x :: L) (.int x :: S) M N P Q := wp_iload rfl dX9_scanWord_25 rfl
theorem sX9_scanWord_27 : Wp mX9_scanWord d 27 (a0 :: a1 :: a2 :: .int x :: L) S M N P Q = Wp mX9_scanWord d 28 (a0 :: a1 :: a2 :: .int x :: L) (.int x :: S) M N P Q := wp_iload_n rfl dX9_scanWord_27 rfl
theorem sX9_scanWord_28 : Wp mX9_scanWord d 28 L (.int z :: .int x :: S) M N P Q = Wp mX9_scanWord d 29 L (.int (x - z) :: S) M N P Q := wp_isub rfl dX9_scanWord_28
theorem sX9_scanWord_29 : Wp mX9_scanWord d 29 L S M N P Q = Wp mX9_scanWord d 31 L (.int 8 :: S) M N P Q := wp_bipush rfl dX9_scanWord_29 rfl
theorem sX9_scanWord_31 : Wp mX9_scanWord d 31 L (.int z :: .int x :: S) M N P Q = (if x ≤ z then Wp mX9_scanWord d 36 L S M N P Q else Wp mX9_scanWord d 34 L S M N P Q) := wp_icmp_le rfl dX9_scanWord_31 rfl
theorem sX9_scanWord_34 : Wp mX9_scanWord d 34 L S M N P Q = Wp mX9_scanWord d 35 L (.int (-1) :: S) M N P Q := wp_iconst rfl dX9_scanWord_34 rfl
theorem sX9_scanWord_35 : Wp mX9_scanWord d 35 L [.int x] M N P Q = Q (some (.int x)) M N P := wp_iret rfl dX9_scanWord_35 rfl rfl
theorem sX9_scanWord_36 : Wp mX9_scanWord d 36 L S M N P Q = Wp mX9_scanWord d 38 L (.ref 201 :: S) M N P Q := wp_ldc rfl dX9_scanWord_36 rfl rfl
theorem sX9_scanWord_38 : Wp mX9_scanWord d 38 (a0 :: .ref r :: L) S M N P Q = Wp mX9_scanWord d 39 (a0 :: .ref r :: L) (.ref r :: S) M N P Q := wp_aload_n rfl dX9_scanWord_38 rfl
theorem sX9_scanWord_39 : Wp mX9_scanWord d 39 (a0 :: a1 :: a2 :: .int x :: L) S M N P Q = Wp mX9_scanWord d 40 (a0 :: a1 :: a2 :: .int x :: L) (.int x :: S) M N P Q := wp_iload_n rfl dX9_scanWord_39 rfl
theorem sX9_scanWord_40 : Wp mX9_scanWord d 40 (a0 :: a1 :: a2 :: a3 :: .int x :: L) S M N P Q = Wp mX9_scanWord d 42 (a0 :: a1 :: a2 :: a3 :: .int x :: L) (.int x :: S) M N P Q := wp_iload rfl dX9_scanWord_40 rfl
theorem sX9_scanWord_42 {r0 : Nat} {r1 : Nat} {x2 : Int32} {x3 : Int32} (hS : stk S ≤ 8) : Wp mX9_scanWord (d + 1) 42 L (.int x3 :: .int x2 :: .ref r1 :: .ref r0 :: S) M N P Q = Wp mX9_rowOf d 0 [.ref r0, .ref r1, .int x2, .int x3, .float 0] [] M N P (fun v M' N' P' => Wp mX9_scanWord (d + 1) 45 L (v.toList ++ S) M' N' P' Q) := wp_callS (As := [.ref r0, .ref r1, .int x2, .int x3]) rfl dX9_scanWord_42 rfl rfl rfl ⟨rfl, Nat.le_of_ble_eq_true rfl, Nat.le_of_ble_eq_true rfl⟩ rfl hS
theorem sX9_scanWord_45 (hn : nl a4 = true) : Wp mX9_scanWord d 45 (a0 :: a1 :: a2 :: a3 :: a4 :: a5 :: L) (.int x :: S) M N P Q = Wp mX9_scanWord d 47 (a0 :: a1 :: a2 :: a3 :: a4 :: .int x :: L) S M N P Q := wp_istore rfl dX9_scanWord_45 (lenGt5 ..) (okst5 hn) rfl
theorem sX9_scanWord_47 : Wp mX9_scanWord d 47 L S M N P Q = Wp mX9_scanWord d 49 L (.ref 202 :: S) M N P Q := wp_ldc rfl dX9_scanWord_47 rfl rfl
theorem sX9_scanWord_49 : Wp mX9_scanWord d 49 (a0 :: .ref r :: L) S M N P Q = Wp mX9_scanWord d 50 (a0 :: .ref r :: L) (.ref r :: S) M N P Q := wp_aload_n rfl dX9_scanWord_49 rfl
theorem sX9_scanWord_50 : Wp mX9_scanWord d 50 (a0 :: a1 :: a2 :: .int x :: L) S M N P Q = Wp mX9_scanWord d 51 (a0 :: a1 :: a2 :: .int x :: L) (.int x :: S) M N P Q := wp_iload_n rfl dX9_scanWord_50 rfl
theorem sX9_scanWord_51 : Wp mX9_scanWord d 51 (a0 :: a1 :: a2 :: a3 :: .int x :: L) S M N P Q = Wp mX9_scanWord d 53 (a0 :: a1 :: a2 :: a3 :: .int x :: L) (.int x :: S) M N P Q := wp_iload rfl dX9_scanWord_51 rfl
theorem sX9_scanWord_53 {r0 : Nat} {r1 : Nat} {x2 : Int32} {x3 : Int32} (hS : stk S ≤ 8) : Wp mX9_scanWord (d + 1) 53 L (.int x3 :: .int x2 :: .ref r1 :: .ref r0 :: S) M N P Q = Wp mX9_rowOf d 0 [.ref r0, .ref r1, .int x2, .int x3, .float 0] [] M N P (fun v M' N' P' => Wp mX9_scanWord (d + 1) 56 L (v.toList ++ S) M' N' P' Q) := wp_callS (As := [.ref r0, .ref r1, .int x2, .int x3]) rfl dX9_scanWord_53 rfl rfl rfl ⟨rfl, Nat.le_of_ble_eq_true rfl, Nat.le_of_ble_eq_true rfl⟩ rfl hS
theorem sX9_scanWord_56 (hn : nl a5 = true) : Wp mX9_scanWord d 56 (a0 :: a1 :: a2 :: a3 :: a4 :: a5 :: a6 :: L) (.int x :: S) M N P Q = Wp mX9_scanWord d 58 (a0 :: a1 :: a2 :: a3 :: a4 :: a5 :: .int x :: L) S M N P Q := wp_istore rfl dX9_scanWord_56 (lenGt6 ..) (okst6 hn) rfl
theorem sX9_scanWord_58 : Wp mX9_scanWord d 58 (a0 :: a1 :: a2 :: a3 :: a4 :: a5 :: .int x :: L) S M N P Q = Wp mX9_scanWord d 60 (a0 :: a1 :: a2 :: a3 :: a4 :: a5 :: .int x :: L) (.int x :: S) M N P Q := wp_iload rfl dX9_scanWord_58 rfl
theorem sX9_scanWord_60 : Wp mX9_scanWord d 60 L S M N P Q = Wp mX9_scanWord d 61 L (.int (-1) :: S) M N P Q := wp_iconst rfl dX9_scanWord_60 rfl
theorem sX9_scanWord_61 : Wp mX9_scanWord d 61 L (.int z :: .int x :: S) M N P Q = (if x = z then Wp mX9_scanWord d 64 L S M N P Q else Wp mX9_scanWord d 69 L S M N P Q) := wp_icmp_ne rfl dX9_scanWord_61 rfl
theorem sX9_scanWord_64 : Wp mX9_scanWord d 64 L S M N P Q = Wp mX9_scanWord d 66 L (.int 18 :: S) M N P Q := wp_bipush rfl dX9_scanWord_64 rfl
theorem sX9_scanWord_66 : Wp mX9_scanWord d 66 L S M N P Q = Wp mX9_scanWord d 74 L S M N P Q := wp_goto rfl dX9_scanWord_66 rfl
theorem sX9_scanWord_69 : Wp mX9_scanWord d 69 L S M N P Q = Wp mX9_scanWord d 71 L (.int 9 :: S) M N P Q := wp_bipush rfl dX9_scanWord_69 rfl
theorem sX9_scanWord_71 : Wp mX9_scanWord d 71 (a0 :: a1 :: a2 :: a3 :: a4 :: a5 :: .int x :: L) S M N P Q = Wp mX9_scanWord d 73 (a0 :: a1 :: a2 :: a3 :: a4 :: a5 :: .int x :: L) (.int x :: S) M N P Q := wp_iload rfl dX9_scanWord_71 rfl
theorem sX9_scanWord_73 : Wp mX9_scanWord d 73 L (.int z :: .int x :: S) M N P Q = Wp mX9_scanWord d 74 L (.int (x + z) :: S) M N P Q := wp_iadd rfl dX9_scanWord_73
theorem sX9_scanWord_74 (hn : nl a6 = true) : Wp mX9_scanWord d 74 (a0 :: a1 :: a2 :: a3 :: a4 :: a5 :: a6 :: a7 :: L) (.int x :: S) M N P Q = Wp mX9_scanWord d 76 (a0 :: a1 :: a2 :: a3 :: a4 :: a5 :: a6 :: .int x :: L) S M N P Q := wp_istore rfl dX9_scanWord_74 (lenGt7 ..) (okst7 hn) rfl
theorem sX9_scanWord_76 : Wp mX9_scanWord d 76 (.ref r :: L) S M N P Q = Wp mX9_scanWord d 77 (.ref r :: L) (.ref r :: S) M N P Q := wp_aload_n rfl dX9_scanWord_76 rfl
theorem sX9_scanWord_77 : Wp mX9_scanWord d 77 (a0 :: a1 :: a2 :: a3 :: a4 :: .int x :: L) S M N P Q = Wp mX9_scanWord d 79 (a0 :: a1 :: a2 :: a3 :: a4 :: .int x :: L) (.int x :: S) M N P Q := wp_iload rfl dX9_scanWord_77 rfl
theorem sX9_scanWord_79 : Wp mX9_scanWord d 79 L S M N P Q = Wp mX9_scanWord d 80 L (.int (-1) :: S) M N P Q := wp_iconst rfl dX9_scanWord_79 rfl
theorem sX9_scanWord_80 : Wp mX9_scanWord d 80 L (.int z :: .int x :: S) M N P Q = (if x = z then Wp mX9_scanWord d 83 L S M N P Q else Wp mX9_scanWord d 88 L S M N P Q) := wp_icmp_ne rfl dX9_scanWord_80 rfl
theorem sX9_scanWord_83 : Wp mX9_scanWord d 83 (a0 :: a1 :: a2 :: a3 :: a4 :: a5 :: a6 :: .int x :: L) S M N P Q = Wp mX9_scanWord d 85 (a0 :: a1 :: a2 :: a3 :: a4 :: a5 :: a6 :: .int x :: L) (.int x :: S) M N P Q := wp_iload rfl dX9_scanWord_83 rfl
theorem sX9_scanWord_85 : Wp mX9_scanWord d 85 L S M N P Q = Wp mX9_scanWord d 90 L S M N P Q := wp_goto rfl dX9_scanWord_85 rfl
theorem sX9_scanWord_88 : Wp mX9_scanWord d 88 (a0 :: a1 :: a2 :: a3 :: a4 :: .int x :: L) S M N P Q = Wp mX9_scanWord d 90 (a0 :: a1 :: a2 :: a3 :: a4 :: .int x :: L) (.int x :: S) M N P Q := wp_iload rfl dX9_scanWord_88 rfl
theorem sX9_scanWord_90 : Wp mX9_scanWord d 90 (a0 :: a1 :: a2 :: .int x :: L) S M N P Q = Wp mX9_scanWord d 91 (a0 :: a1 :: a2 :: .int x :: L) (.int x :: S) M N P Q := wp_iload_n rfl dX9_scanWord_90 rfl
theorem sX9_scanWord_91 : Wp mX9_scanWord d 91 L S M N P Q = Wp mX9_scanWord d 92 L (.int 0 :: S) M N P Q := wp_iconst rfl dX9_scanWord_91 rfl
theorem sX9_scanWord_92 {x0 : Int32} {x1 : Int32} {x2 : Int32} (hs : shk r = (9, 0)) (hS : stk S ≤ 8) : Wp mX9_scanWord (d + 1) 92 L (.int x2 :: .int x1 :: .int x0 :: .ref r :: S) M N P Q = Wp mX9_add d 0 [.ref r, .int x0, .int x1, .int x2] [] M N P (fun v M' N' P' => Wp mX9_scanWord (d + 1) 95 L (v.toList ++ S) M' N' P' Q) := wp_callV (As := [.int x0, .int x1, .int x2]) rfl dX9_scanWord_92 rfl rfl (Or.inl ⟨_, _, _, hs, rfl⟩) rfl ⟨rfl, Nat.le_of_ble_eq_true rfl, Nat.le_of_ble_eq_true rfl⟩ rfl hS
theorem sX9_scanWord_95 : Wp mX9_scanWord d 95 (a0 :: a1 :: a2 :: a3 :: .int x :: L) S M N P Q = Wp mX9_scanWord d 97 (a0 :: a1 :: a2 :: a3 :: .int x :: L) (.int x :: S) M N P Q := wp_iload rfl dX9_scanWord_95 rfl
theorem sX9_scanWord_97 : Wp mX9_scanWord d 97 L [.int x] M N P Q = Q (some (.int x)) M N P := wp_iret rfl dX9_scanWord_97 rfl rfl
theorem sX9_scanNumber_0 : Wp mX9_scanNumber d 0 (a0 :: a1 :: a2 :: .int x :: L) S M N P Q = Wp mX9_scanNumber d 1 (a0 :: a1 :: a2 :: .int x :: L) (.int x :: S) M N P Q := wp_iload_n rfl dX9_scanNumber_0 rfl
theorem sX9_scanNumber_1 (hn : nl a3 = true) : Wp mX9_scanNumber d 1 (a0 :: a1 :: a2 :: a3 :: a4 :: L) (.int x :: S) M N P Q = Wp mX9_scanNumber d 3 (a0 :: a1 :: a2 :: a3 :: .int x :: L) S M N P Q := wp_istore rfl dX9_scanNumber_1 (lenGt4 ..) (okst4 hn) rfl
theorem sX9_scanNumber_3 : Wp mX9_scanNumber d 3 L S M N P Q = Wp mX9_scanNumber d 4 L (.int 0 :: S) M N P Q := wp_iconst rfl dX9_scanNumber_3 rfl
theorem sX9_scanNumber_4 (hn : nl a4 = true) : Wp mX9_scanNumber d 4 (a0 :: a1 :: a2 :: a3 :: a4 :: a5 :: L) (.int x :: S) M N P Q = Wp mX9_scanNumber d 6 (a0 :: a1 :: a2 :: a3 :: a4 :: .int x :: L) S M N P Q := wp_istore rfl dX9_scanNumber_4 (lenGt5 ..) (okst5 hn) rfl
theorem sX9_scanNumber_6 : Wp mX9_scanNumber d 6 (a0 :: a1 :: a2 :: a3 :: .int x :: L) S M N P Q = Wp mX9_scanNumber d 8 (a0 :: a1 :: a2 :: a3 :: .int x :: L) (.int x :: S) M N P Q := wp_iload rfl dX9_scanNumber_6 rfl
theorem sX9_scanNumber_8 : Wp mX9_scanNumber d 8 (a0 :: a1 :: .int x :: L) S M N P Q = Wp mX9_scanNumber d 9 (a0 :: a1 :: .int x :: L) (.int x :: S) M N P Q := wp_iload_n rfl dX9_scanNumber_8 rfl
theorem sX9_scanNumber_9 : Wp mX9_scanNumber d 9 L (.int z :: .int x :: S) M N P Q = (if z ≤ x then Wp mX9_scanNumber d 43 L S M N P Q else Wp mX9_scanNumber d 12 L S M N P Q) := wp_icmp_ge rfl dX9_scanNumber_9 rfl
theorem sX9_scanNumber_12 : Wp mX9_scanNumber d 12 (a0 :: .ref r :: L) S M N P Q = Wp mX9_scanNumber d 13 (a0 :: .ref r :: L) (.ref r :: S) M N P Q := wp_aload_n rfl dX9_scanNumber_12 rfl
theorem sX9_scanNumber_13 : Wp mX9_scanNumber d 13 (a0 :: a1 :: a2 :: a3 :: .int x :: L) S M N P Q = Wp mX9_scanNumber d 15 (a0 :: a1 :: a2 :: a3 :: .int x :: L) (.int x :: S) M N P Q := wp_iload rfl dX9_scanNumber_13 rfl
theorem sX9_scanNumber_15 (hc : isB (shk r).1 = true) : Wp mX9_scanNumber d 15 L (.int j :: .ref r :: S) M N P Q = (vp_in j (shk r).2 ∧ Wp mX9_scanNumber d 16 L (.int (M r j.toNatClampNeg) :: S) M N P Q) := wp_baload rfl dX9_scanNumber_15 (isB_or hc) (kd rfl)
theorem sX9_scanNumber_16 {x0 : Int32} (hS : stk S ≤ 8) : Wp mX9_scanNumber (d + 1) 16 L (.int x0 :: S) M N P Q = Wp mX9_isDigit d 0 [.int x0] [] M N P (fun v M' N' P' => Wp mX9_scanNumber (d + 1) 19 L (v.toList ++ S) M' N' P' Q) := wp_callS (As := [.int x0]) rfl dX9_scanNumber_16 rfl rfl rfl ⟨rfl, Nat.le_of_ble_eq_true rfl, Nat.le_of_ble_eq_true rfl⟩ rfl hS
theorem sX9_scanNumber_19 : Wp mX9_scanNumber d 19 L (.int x :: S) M N P Q = (if x = 0 then Wp mX9_scanNumber d 43 L S M N P Q else Wp mX9_scanNumber d 22 L S M N P Q) := wp_if_eq rfl dX9_scanNumber_19 rfl
theorem sX9_scanNumber_22 : Wp mX9_scanNumber d 22 (a0 :: a1 :: a2 :: a3 :: a4 :: .int x :: L) S M N P Q = Wp mX9_scanNumber d 24 (a0 :: a1 :: a2 :: a3 :: a4 :: .int x :: L) (.int x :: S) M N P Q := wp_iload rfl dX9_scanNumber_22 rfl
theorem sX9_scanNumber_24 : Wp mX9_scanNumber d 24 L S M N P Q = Wp mX9_scanNumber d 26 L (.int 10 :: S) M N P Q := wp_bipush rfl dX9_scanNumber_24 rfl
theorem sX9_scanNumber_26 : Wp mX9_scanNumber d 26 L (.int z :: .int x :: S) M N P Q = Wp mX9_scanNumber d 27 L (.int (x * z) :: S) M N P Q := wp_imul rfl dX9_scanNumber_26
theorem sX9_scanNumber_27 : Wp mX9_scanNumber d 27 (a0 :: .ref r :: L) S M N P Q = Wp mX9_scanNumber d 28 (a0 :: .ref r :: L) (.ref r :: S) M N P Q := wp_aload_n rfl dX9_scanNumber_27 rfl
theorem sX9_scanNumber_28 : Wp mX9_scanNumber d 28 (a0 :: a1 :: a2 :: a3 :: .int x :: L) S M N P Q = Wp mX9_scanNumber d 30 (a0 :: a1 :: a2 :: a3 :: .int x :: L) (.int x :: S) M N P Q := wp_iload rfl dX9_scanNumber_28 rfl
theorem sX9_scanNumber_30 (hc : isB (shk r).1 = true) : Wp mX9_scanNumber d 30 L (.int j :: .ref r :: S) M N P Q = (vp_in j (shk r).2 ∧ Wp mX9_scanNumber d 31 L (.int (M r j.toNatClampNeg) :: S) M N P Q) := wp_baload rfl dX9_scanNumber_30 (isB_or hc) (kd rfl)
theorem sX9_scanNumber_31 : Wp mX9_scanNumber d 31 L S M N P Q = Wp mX9_scanNumber d 33 L (.int 48 :: S) M N P Q := wp_bipush rfl dX9_scanNumber_31 rfl
theorem sX9_scanNumber_33 : Wp mX9_scanNumber d 33 L (.int z :: .int x :: S) M N P Q = Wp mX9_scanNumber d 34 L (.int (x - z) :: S) M N P Q := wp_isub rfl dX9_scanNumber_33
theorem sX9_scanNumber_34 : Wp mX9_scanNumber d 34 L (.int z :: .int x :: S) M N P Q = Wp mX9_scanNumber d 35 L (.int (x + z) :: S) M N P Q := wp_iadd rfl dX9_scanNumber_34
theorem sX9_scanNumber_35 (hn : nl a4 = true) : Wp mX9_scanNumber d 35 (a0 :: a1 :: a2 :: a3 :: a4 :: a5 :: L) (.int x :: S) M N P Q = Wp mX9_scanNumber d 37 (a0 :: a1 :: a2 :: a3 :: a4 :: .int x :: L) S M N P Q := wp_istore rfl dX9_scanNumber_35 (lenGt5 ..) (okst5 hn) rfl
theorem sX9_scanNumber_37 (hn : nl a3 = true) : Wp mX9_scanNumber d 37 (a0 :: a1 :: a2 :: a3 :: .int x :: L) S M N P Q = Wp mX9_scanNumber d 40 (a0 :: a1 :: a2 :: a3 :: .int (x + 1) :: L) S M N P Q := wp_iinc rfl dX9_scanNumber_37 rfl rfl (okst4 hn) rfl
theorem sX9_scanNumber_40 : Wp mX9_scanNumber d 40 L S M N P Q = Wp mX9_scanNumber d 6 L S M N P Q := wp_goto rfl dX9_scanNumber_40 rfl
theorem sX9_scanNumber_43 : Wp mX9_scanNumber d 43 (a0 :: a1 :: a2 :: a3 :: .int x :: L) S M N P Q = Wp mX9_scanNumber d 45 (a0 :: a1 :: a2 :: a3 :: .int x :: L) (.int x :: S) M N P Q := wp_iload rfl dX9_scanNumber_43 rfl
theorem sX9_scanNumber_45 : Wp mX9_scanNumber d 45 (a0 :: a1 :: .int x :: L) S M N P Q = Wp mX9_scanNumber d 46 (a0 :: a1 :: .int x :: L) (.int x :: S) M N P Q := wp_iload_n rfl dX9_scanNumber_45 rfl
theorem sX9_scanNumber_46 : Wp mX9_scanNumber d 46 L (.int z :: .int x :: S) M N P Q = (if z ≤ x then Wp mX9_scanNumber d 63 L S M N P Q else Wp mX9_scanNumber d 49 L S M N P Q) := wp_icmp_ge rfl dX9_scanNumber_46 rfl
theorem sX9_scanNumber_49 : Wp mX9_scanNumber d 49 (a0 :: .ref r :: L) S M N P Q = Wp mX9_scanNumber d 50 (a0 :: .ref r :: L) (.ref r :: S) M N P Q := wp_aload_n rfl dX9_scanNumber_49 rfl
theorem sX9_scanNumber_50 : Wp mX9_scanNumber d 50 (a0 :: a1 :: a2 :: a3 :: .int x :: L) S M N P Q = Wp mX9_scanNumber d 52 (a0 :: a1 :: a2 :: a3 :: .int x :: L) (.int x :: S) M N P Q := wp_iload rfl dX9_scanNumber_50 rfl
theorem sX9_scanNumber_52 (hc : isB (shk r).1 = true) : Wp mX9_scanNumber d 52 L (.int j :: .ref r :: S) M N P Q = (vp_in j (shk r).2 ∧ Wp mX9_scanNumber d 53 L (.int (M r j.toNatClampNeg) :: S) M N P Q) := wp_baload rfl dX9_scanNumber_52 (isB_or hc) (kd rfl)
theorem sX9_scanNumber_53 {x0 : Int32} (hS : stk S ≤ 8) : Wp mX9_scanNumber (d + 1) 53 L (.int x0 :: S) M N P Q = Wp mX9_isLetter d 0 [.int x0] [] M N P (fun v M' N' P' => Wp mX9_scanNumber (d + 1) 56 L (v.toList ++ S) M' N' P' Q) := wp_callS (As := [.int x0]) rfl dX9_scanNumber_53 rfl rfl rfl ⟨rfl, Nat.le_of_ble_eq_true rfl, Nat.le_of_ble_eq_true rfl⟩ rfl hS
theorem sX9_scanNumber_56 : Wp mX9_scanNumber d 56 L (.int x :: S) M N P Q = (if x = 0 then Wp mX9_scanNumber d 63 L S M N P Q else Wp mX9_scanNumber d 59 L S M N P Q) := wp_if_eq rfl dX9_scanNumber_56 rfl
theorem sX9_scanNumber_59 : Wp mX9_scanNumber d 59 L S M N P Q = Wp mX9_scanNumber d 60 L (.int 1 :: S) M N P Q := wp_iconst rfl dX9_scanNumber_59 rfl
theorem sX9_scanNumber_60 : Wp mX9_scanNumber d 60 L S M N P Q = Wp mX9_scanNumber d 64 L S M N P Q := wp_goto rfl dX9_scanNumber_60 rfl
theorem sX9_scanNumber_63 : Wp mX9_scanNumber d 63 L S M N P Q = Wp mX9_scanNumber d 64 L (.int 0 :: S) M N P Q := wp_iconst rfl dX9_scanNumber_63 rfl
theorem sX9_scanNumber_64 (hn : nl a5 = true) : Wp mX9_scanNumber d 64 (a0 :: a1 :: a2 :: a3 :: a4 :: a5 :: a6 :: L) (.int x :: S) M N P Q = Wp mX9_scanNumber d 66 (a0 :: a1 :: a2 :: a3 :: a4 :: a5 :: .int x :: L) S M N P Q := wp_istore rfl dX9_scanNumber_64 (lenGt6 ..) (okst6 hn) rfl
theorem sX9_scanNumber_66 : Wp mX9_scanNumber d 66 (a0 :: a1 :: a2 :: a3 :: .int x :: L) S M N P Q = Wp mX9_scanNumber d 68 (a0 :: a1 :: a2 :: a3 :: .int x :: L) (.int x :: S) M N P Q := wp_iload rfl dX9_scanNumber_66 rfl
theorem sX9_scanNumber_68 : Wp mX9_scanNumber d 68 (a0 :: a1 :: a2 :: .int x :: L) S M N P Q = Wp mX9_scanNumber d 69 (a0 :: a1 :: a2 :: .int x :: L) (.int x :: S) M N P Q := wp_iload_n rfl dX9_scanNumber_68 rfl
theorem sX9_scanNumber_69 : Wp mX9_scanNumber d 69 L (.int z :: .int x :: S) M N P Q = Wp mX9_scanNumber d 70 L (.int (x - z) :: S) M N P Q := wp_isub rfl dX9_scanNumber_69
theorem sX9_scanNumber_70 : Wp mX9_scanNumber d 70 L S M N P Q = Wp mX9_scanNumber d 72 L (.int 7 :: S) M N P Q := wp_bipush rfl dX9_scanNumber_70 rfl
theorem sX9_scanNumber_72 : Wp mX9_scanNumber d 72 L (.int z :: .int x :: S) M N P Q = (if z < x then Wp mX9_scanNumber d 80 L S M N P Q else Wp mX9_scanNumber d 75 L S M N P Q) := wp_icmp_gt rfl dX9_scanNumber_72 rfl
theorem sX9_scanNumber_75 : Wp mX9_scanNumber d 75 (a0 :: a1 :: a2 :: a3 :: a4 :: a5 :: .int x :: L) S M N P Q = Wp mX9_scanNumber d 77 (a0 :: a1 :: a2 :: a3 :: a4 :: a5 :: .int x :: L) (.int x :: S) M N P Q := wp_iload rfl dX9_scanNumber_75 rfl
theorem sX9_scanNumber_77 : Wp mX9_scanNumber d 77 L (.int x :: S) M N P Q = (if x = 0 then Wp mX9_scanNumber d 82 L S M N P Q else Wp mX9_scanNumber d 80 L S M N P Q) := wp_if_eq rfl dX9_scanNumber_77 rfl
theorem sX9_scanNumber_80 : Wp mX9_scanNumber d 80 L S M N P Q = Wp mX9_scanNumber d 81 L (.int (-1) :: S) M N P Q := wp_iconst rfl dX9_scanNumber_80 rfl
theorem sX9_scanNumber_81 : Wp mX9_scanNumber d 81 L [.int x] M N P Q = Q (some (.int x)) M N P := wp_iret rfl dX9_scanNumber_81 rfl rfl
theorem sX9_scanNumber_82 : Wp mX9_scanNumber d 82 (.ref r :: L) S M N P Q = Wp mX9_scanNumber d 83 (.ref r :: L) (.ref r :: S) M N P Q := wp_aload_n rfl dX9_scanNumber_82 rfl
theorem sX9_scanNumber_83 : Wp mX9_scanNumber d 83 L S M N P Q = Wp mX9_scanNumber d 85 L (.int 19 :: S) M N P Q := wp_bipush rfl dX9_scanNumber_83 rfl
theorem sX9_scanNumber_85 : Wp mX9_scanNumber d 85 (a0 :: a1 :: a2 :: .int x :: L) S M N P Q = Wp mX9_scanNumber d 86 (a0 :: a1 :: a2 :: .int x :: L) (.int x :: S) M N P Q := wp_iload_n rfl dX9_scanNumber_85 rfl
theorem sX9_scanNumber_86 : Wp mX9_scanNumber d 86 (a0 :: a1 :: a2 :: a3 :: a4 :: .int x :: L) S M N P Q = Wp mX9_scanNumber d 88 (a0 :: a1 :: a2 :: a3 :: a4 :: .int x :: L) (.int x :: S) M N P Q := wp_iload rfl dX9_scanNumber_86 rfl
theorem sX9_scanNumber_88 {x0 : Int32} {x1 : Int32} {x2 : Int32} (hs : shk r = (9, 0)) (hS : stk S ≤ 8) : Wp mX9_scanNumber (d + 1) 88 L (.int x2 :: .int x1 :: .int x0 :: .ref r :: S) M N P Q = Wp mX9_add d 0 [.ref r, .int x0, .int x1, .int x2] [] M N P (fun v M' N' P' => Wp mX9_scanNumber (d + 1) 91 L (v.toList ++ S) M' N' P' Q) := wp_callV (As := [.int x0, .int x1, .int x2]) rfl dX9_scanNumber_88 rfl rfl (Or.inl ⟨_, _, _, hs, rfl⟩) rfl ⟨rfl, Nat.le_of_ble_eq_true rfl, Nat.le_of_ble_eq_true rfl⟩ rfl hS
theorem sX9_scanNumber_91 : Wp mX9_scanNumber d 91 (a0 :: a1 :: a2 :: a3 :: .int x :: L) S M N P Q = Wp mX9_scanNumber d 93 (a0 :: a1 :: a2 :: a3 :: .int x :: L) (.int x :: S) M N P Q := wp_iload rfl dX9_scanNumber_91 rfl
theorem sX9_scanNumber_93 : Wp mX9_scanNumber d 93 L [.int x] M N P Q = Q (some (.int x)) M N P := wp_iret rfl dX9_scanNumber_93 rfl rfl
theorem sX9_rowOf_0 : Wp mX9_rowOf d 0 L S M N P Q = Wp mX9_rowOf d 1 L (.int 0 :: S) M N P Q := wp_iconst rfl dX9_rowOf_0 rfl
theorem sX9_rowOf_1 (hn : nl a3 = true) : Wp mX9_rowOf d 1 (a0 :: a1 :: a2 :: a3 :: a4 :: L) (.int x :: S) M N P Q = Wp mX9_rowOf d 3 (a0 :: a1 :: a2 :: a3 :: .int x :: L) S M N P Q := wp_istore rfl dX9_rowOf_1 (lenGt4 ..) (okst4 hn) rfl
theorem sX9_rowOf_3 : Wp mX9_rowOf d 3 (a0 :: a1 :: a2 :: a3 :: .int x :: L) S M N P Q = Wp mX9_rowOf d 5 (a0 :: a1 :: a2 :: a3 :: .int x :: L) (.int x :: S) M N P Q := wp_iload rfl dX9_rowOf_3 rfl
theorem sX9_rowOf_5 : Wp mX9_rowOf d 5 (.ref r :: L) S M N P Q = Wp mX9_rowOf d 6 (.ref r :: L) (.ref r :: S) M N P Q := wp_aload_n rfl dX9_rowOf_5 rfl
theorem sX9_rowOf_6 {i : Nat} (hi : i < 3) (hr : r = 200 + i) (hS : stk S ≤ 8) : Wp mX9_rowOf (d + 1) 6 L (.ref r :: S) M N P Q = Wp mJ0_length_8abf5 d 0 [.ref r] [] M N P (fun v M' N' P' => Wp mX9_rowOf (d + 1) 9 L (v.toList ++ S) M' N' P' Q) := wp_callV (As := []) rfl dX9_rowOf_6 rfl rfl (Or.inr ⟨i, hi, hr, rfl⟩) rfl ⟨rfl, Nat.le_of_ble_eq_true rfl, Nat.le_of_ble_eq_true rfl⟩ rfl hS
theorem sX9_rowOf_9 : Wp mX9_rowOf d 9 L S M N P Q = Wp mX9_rowOf d 11 L (.int 8 :: S) M N P Q := wp_bipush rfl dX9_rowOf_9 rfl
theorem sX9_rowOf_11 : Wp mX9_rowOf d 11 L (.int z :: .int x :: S) M N P Q = (¬ z = 0 ∧ Wp mX9_rowOf d 12 L (.int (x / z) :: S) M N P Q) := wp_idiv rfl dX9_rowOf_11
theorem sX9_rowOf_12 : Wp mX9_rowOf d 12 L (.int z :: .int x :: S) M N P Q = (if z ≤ x then Wp mX9_rowOf d 39 L S M N P Q else Wp mX9_rowOf d 15 L S M N P Q) := wp_icmp_ge rfl dX9_rowOf_12 rfl
theorem sX9_rowOf_15 : Wp mX9_rowOf d 15 (.ref r :: L) S M N P Q = Wp mX9_rowOf d 16 (.ref r :: L) (.ref r :: S) M N P Q := wp_aload_n rfl dX9_rowOf_15 rfl
theorem sX9_rowOf_16 : Wp mX9_rowOf d 16 (a0 :: a1 :: a2 :: a3 :: .int x :: L) S M N P Q = Wp mX9_rowOf d 18 (a0 :: a1 :: a2 :: a3 :: .int x :: L) (.int x :: S) M N P Q := wp_iload rfl dX9_rowOf_16 rfl
theorem sX9_rowOf_18 : Wp mX9_rowOf d 18 L S M N P Q = Wp mX9_rowOf d 20 L (.int 8 :: S) M N P Q := wp_bipush rfl dX9_rowOf_18 rfl
theorem sX9_rowOf_20 : Wp mX9_rowOf d 20 L (.int z :: .int x :: S) M N P Q = Wp mX9_rowOf d 21 L (.int (x * z) :: S) M N P Q := wp_imul rfl dX9_rowOf_20
theorem sX9_rowOf_21 : Wp mX9_rowOf d 21 (a0 :: .ref r :: L) S M N P Q = Wp mX9_rowOf d 22 (a0 :: .ref r :: L) (.ref r :: S) M N P Q := wp_aload_n rfl dX9_rowOf_21 rfl
theorem sX9_rowOf_22 : Wp mX9_rowOf d 22 (a0 :: a1 :: .int x :: L) S M N P Q = Wp mX9_rowOf d 23 (a0 :: a1 :: .int x :: L) (.int x :: S) M N P Q := wp_iload_n rfl dX9_rowOf_22 rfl
theorem sX9_rowOf_23 : Wp mX9_rowOf d 23 (a0 :: a1 :: a2 :: .int x :: L) S M N P Q = Wp mX9_rowOf d 24 (a0 :: a1 :: a2 :: .int x :: L) (.int x :: S) M N P Q := wp_iload_n rfl dX9_rowOf_23 rfl
theorem sX9_rowOf_24 {r0 : Nat} {x1 : Int32} {r2 : Nat} {x3 : Int32} {x4 : Int32} (hS : stk S ≤ 8) : Wp mX9_rowOf (d + 1) 24 L (.int x4 :: .int x3 :: .ref r2 :: .int x1 :: .ref r0 :: S) M N P Q = Wp mX9_isWord d 0 [.ref r0, .int x1, .ref r2, .int x3, .int x4, .float 0, .float 0] [] M N P (fun v M' N' P' => Wp mX9_rowOf (d + 1) 27 L (v.toList ++ S) M' N' P' Q) := wp_callS (As := [.ref r0, .int x1, .ref r2, .int x3, .int x4]) rfl dX9_rowOf_24 rfl rfl rfl ⟨rfl, Nat.le_of_ble_eq_true rfl, Nat.le_of_ble_eq_true rfl⟩ rfl hS
theorem sX9_rowOf_27 : Wp mX9_rowOf d 27 L (.int x :: S) M N P Q = (if x = 0 then Wp mX9_rowOf d 33 L S M N P Q else Wp mX9_rowOf d 30 L S M N P Q) := wp_if_eq rfl dX9_rowOf_27 rfl
theorem sX9_rowOf_30 : Wp mX9_rowOf d 30 (a0 :: a1 :: a2 :: a3 :: .int x :: L) S M N P Q = Wp mX9_rowOf d 32 (a0 :: a1 :: a2 :: a3 :: .int x :: L) (.int x :: S) M N P Q := wp_iload rfl dX9_rowOf_30 rfl
theorem sX9_rowOf_32 : Wp mX9_rowOf d 32 L [.int x] M N P Q = Q (some (.int x)) M N P := wp_iret rfl dX9_rowOf_32 rfl rfl
theorem sX9_rowOf_33 (hn : nl a3 = true) : Wp mX9_rowOf d 33 (a0 :: a1 :: a2 :: a3 :: .int x :: L) S M N P Q = Wp mX9_rowOf d 36 (a0 :: a1 :: a2 :: a3 :: .int (x + 1) :: L) S M N P Q := wp_iinc rfl dX9_rowOf_33 rfl rfl (okst4 hn) rfl
theorem sX9_rowOf_36 : Wp mX9_rowOf d 36 L S M N P Q = Wp mX9_rowOf d 3 L S M N P Q := wp_goto rfl dX9_rowOf_36 rfl
theorem sX9_rowOf_39 : Wp mX9_rowOf d 39 L S M N P Q = Wp mX9_rowOf d 40 L (.int (-1) :: S) M N P Q := wp_iconst rfl dX9_rowOf_39 rfl
theorem sX9_rowOf_40 : Wp mX9_rowOf d 40 L [.int x] M N P Q = Q (some (.int x)) M N P := wp_iret rfl dX9_rowOf_40 rfl rfl
theorem sX9_isWord_0 : Wp mX9_isWord d 0 L S M N P Q = Wp mX9_isWord d 1 L (.int 0 :: S) M N P Q := wp_iconst rfl dX9_isWord_0 rfl
theorem sX9_isWord_1 (hn : nl a4 = true) : Wp mX9_isWord d 1 (a0 :: a1 :: a2 :: a3 :: a4 :: a5 :: L) (.int x :: S) M N P Q = Wp mX9_isWord d 3 (a0 :: a1 :: a2 :: a3 :: a4 :: .int x :: L) S M N P Q := wp_istore rfl dX9_isWord_1 (lenGt5 ..) (okst5 hn) rfl
theorem sX9_isWord_3 : Wp mX9_isWord d 3 (a0 :: a1 :: a2 :: a3 :: a4 :: .int x :: L) S M N P Q = Wp mX9_isWord d 5 (a0 :: a1 :: a2 :: a3 :: a4 :: .int x :: L) (.int x :: S) M N P Q := wp_iload rfl dX9_isWord_3 rfl
theorem sX9_isWord_5 : Wp mX9_isWord d 5 L S M N P Q = Wp mX9_isWord d 7 L (.int 8 :: S) M N P Q := wp_bipush rfl dX9_isWord_5 rfl
theorem sX9_isWord_7 : Wp mX9_isWord d 7 L (.int z :: .int x :: S) M N P Q = (if z ≤ x then Wp mX9_isWord d 53 L S M N P Q else Wp mX9_isWord d 10 L S M N P Q) := wp_icmp_ge rfl dX9_isWord_7 rfl
theorem sX9_isWord_10 : Wp mX9_isWord d 10 (a0 :: a1 :: a2 :: .int x :: L) S M N P Q = Wp mX9_isWord d 11 (a0 :: a1 :: a2 :: .int x :: L) (.int x :: S) M N P Q := wp_iload_n rfl dX9_isWord_10 rfl
theorem sX9_isWord_11 : Wp mX9_isWord d 11 (a0 :: a1 :: a2 :: a3 :: a4 :: .int x :: L) S M N P Q = Wp mX9_isWord d 13 (a0 :: a1 :: a2 :: a3 :: a4 :: .int x :: L) (.int x :: S) M N P Q := wp_iload rfl dX9_isWord_11 rfl
theorem sX9_isWord_13 : Wp mX9_isWord d 13 L (.int z :: .int x :: S) M N P Q = Wp mX9_isWord d 14 L (.int (x + z) :: S) M N P Q := wp_iadd rfl dX9_isWord_13
theorem sX9_isWord_14 : Wp mX9_isWord d 14 (a0 :: a1 :: a2 :: a3 :: .int x :: L) S M N P Q = Wp mX9_isWord d 16 (a0 :: a1 :: a2 :: a3 :: .int x :: L) (.int x :: S) M N P Q := wp_iload rfl dX9_isWord_14 rfl
theorem sX9_isWord_16 : Wp mX9_isWord d 16 L (.int z :: .int x :: S) M N P Q = (if z ≤ x then Wp mX9_isWord d 28 L S M N P Q else Wp mX9_isWord d 19 L S M N P Q) := wp_icmp_ge rfl dX9_isWord_16 rfl
theorem sX9_isWord_19 : Wp mX9_isWord d 19 (a0 :: a1 :: .ref r :: L) S M N P Q = Wp mX9_isWord d 20 (a0 :: a1 :: .ref r :: L) (.ref r :: S) M N P Q := wp_aload_n rfl dX9_isWord_19 rfl
theorem sX9_isWord_20 : Wp mX9_isWord d 20 (a0 :: a1 :: a2 :: .int x :: L) S M N P Q = Wp mX9_isWord d 21 (a0 :: a1 :: a2 :: .int x :: L) (.int x :: S) M N P Q := wp_iload_n rfl dX9_isWord_20 rfl
theorem sX9_isWord_21 : Wp mX9_isWord d 21 (a0 :: a1 :: a2 :: a3 :: a4 :: .int x :: L) S M N P Q = Wp mX9_isWord d 23 (a0 :: a1 :: a2 :: a3 :: a4 :: .int x :: L) (.int x :: S) M N P Q := wp_iload rfl dX9_isWord_21 rfl
theorem sX9_isWord_23 : Wp mX9_isWord d 23 L (.int z :: .int x :: S) M N P Q = Wp mX9_isWord d 24 L (.int (x + z) :: S) M N P Q := wp_iadd rfl dX9_isWord_23
theorem sX9_isWord_24 (hc : isB (shk r).1 = true) : Wp mX9_isWord d 24 L (.int j :: .ref r :: S) M N P Q = (vp_in j (shk r).2 ∧ Wp mX9_isWord d 25 L (.int (M r j.toNatClampNeg) :: S) M N P Q) := wp_baload rfl dX9_isWord_24 (isB_or hc) (kd rfl)
theorem sX9_isWord_25 : Wp mX9_isWord d 25 L S M N P Q = Wp mX9_isWord d 30 L S M N P Q := wp_goto rfl dX9_isWord_25 rfl
theorem sX9_isWord_28 : Wp mX9_isWord d 28 L S M N P Q = Wp mX9_isWord d 30 L (.int 32 :: S) M N P Q := wp_bipush rfl dX9_isWord_28 rfl
theorem sX9_isWord_30 (hn : nl a5 = true) : Wp mX9_isWord d 30 (a0 :: a1 :: a2 :: a3 :: a4 :: a5 :: a6 :: L) (.int x :: S) M N P Q = Wp mX9_isWord d 32 (a0 :: a1 :: a2 :: a3 :: a4 :: a5 :: .int x :: L) S M N P Q := wp_istore rfl dX9_isWord_30 (lenGt6 ..) (okst6 hn) rfl
theorem sX9_isWord_32 : Wp mX9_isWord d 32 (a0 :: a1 :: a2 :: a3 :: a4 :: a5 :: .int x :: L) S M N P Q = Wp mX9_isWord d 34 (a0 :: a1 :: a2 :: a3 :: a4 :: a5 :: .int x :: L) (.int x :: S) M N P Q := wp_iload rfl dX9_isWord_32 rfl
theorem sX9_isWord_34 : Wp mX9_isWord d 34 (.ref r :: L) S M N P Q = Wp mX9_isWord d 35 (.ref r :: L) (.ref r :: S) M N P Q := wp_aload_n rfl dX9_isWord_34 rfl
theorem sX9_isWord_35 : Wp mX9_isWord d 35 (a0 :: .int x :: L) S M N P Q = Wp mX9_isWord d 36 (a0 :: .int x :: L) (.int x :: S) M N P Q := wp_iload_n rfl dX9_isWord_35 rfl
theorem sX9_isWord_36 : Wp mX9_isWord d 36 (a0 :: a1 :: a2 :: a3 :: a4 :: .int x :: L) S M N P Q = Wp mX9_isWord d 38 (a0 :: a1 :: a2 :: a3 :: a4 :: .int x :: L) (.int x :: S) M N P Q := wp_iload rfl dX9_isWord_36 rfl
theorem sX9_isWord_38 : Wp mX9_isWord d 38 L (.int z :: .int x :: S) M N P Q = Wp mX9_isWord d 39 L (.int (x + z) :: S) M N P Q := wp_iadd rfl dX9_isWord_38
theorem sX9_isWord_39 {x0 : Int32} {i : Nat} (hi : i < 3) (hr : r = 200 + i) (hS : stk S ≤ 8) : Wp mX9_isWord (d + 1) 39 L (.int x0 :: .ref r :: S) M N P Q = Wp mJ0_charAt_5068e d 0 [.ref r, .int x0] [] M N P (fun v M' N' P' => Wp mX9_isWord (d + 1) 42 L (v.toList ++ S) M' N' P' Q) := wp_callV (As := [.int x0]) rfl dX9_isWord_39 rfl rfl (Or.inr ⟨i, hi, hr, rfl⟩) rfl ⟨rfl, Nat.le_of_ble_eq_true rfl, Nat.le_of_ble_eq_true rfl⟩ rfl hS
theorem sX9_isWord_42 : Wp mX9_isWord d 42 L (.int z :: .int x :: S) M N P Q = (if x = z then Wp mX9_isWord d 47 L S M N P Q else Wp mX9_isWord d 45 L S M N P Q) := wp_icmp_eq rfl dX9_isWord_42 rfl
theorem sX9_isWord_45 : Wp mX9_isWord d 45 L S M N P Q = Wp mX9_isWord d 46 L (.int 0 :: S) M N P Q := wp_iconst rfl dX9_isWord_45 rfl
theorem sX9_isWord_46 (hb : bit x) : Wp mX9_isWord d 46 L [.int x] M N P Q = Q (some (.int x)) M N P := wp_iret rfl dX9_isWord_46 rfl (bit_n hb)
theorem sX9_isWord_47 (hn : nl a4 = true) : Wp mX9_isWord d 47 (a0 :: a1 :: a2 :: a3 :: a4 :: .int x :: L) S M N P Q = Wp mX9_isWord d 50 (a0 :: a1 :: a2 :: a3 :: a4 :: .int (x + 1) :: L) S M N P Q := wp_iinc rfl dX9_isWord_47 rfl rfl (okst5 hn) rfl
theorem sX9_isWord_50 : Wp mX9_isWord d 50 L S M N P Q = Wp mX9_isWord d 3 L S M N P Q := wp_goto rfl dX9_isWord_50 rfl
theorem sX9_isWord_53 : Wp mX9_isWord d 53 L S M N P Q = Wp mX9_isWord d 54 L (.int 1 :: S) M N P Q := wp_iconst rfl dX9_isWord_53 rfl
theorem sX9_isWord_54 (hb : bit x) : Wp mX9_isWord d 54 L [.int x] M N P Q = Q (some (.int x)) M N P := wp_iret rfl dX9_isWord_54 rfl (bit_n hb)
theorem sX9_add_0 : Wp mX9_add d 0 (.ref r :: L) S M N P Q = Wp mX9_add d 1 (.ref r :: L) (.ref r :: S) M N P Q := wp_aload_n rfl dX9_add_0 rfl
theorem sX9_add_1 (hs : shk r = (9, 0)) : Wp mX9_add d 1 L (.ref r :: S) M N P Q = Wp mX9_add d 4 L (.int (M r 3) :: S) M N P Q := wp_getfield rfl dX9_add_1 rfl rfl hs rfl
theorem sX9_add_4 : Wp mX9_add d 4 (.ref r :: L) S M N P Q = Wp mX9_add d 5 (.ref r :: L) (.ref r :: S) M N P Q := wp_aload_n rfl dX9_add_4 rfl
theorem sX9_add_5 (hs : shk r = (9, 0)) : Wp mX9_add d 5 L (.ref r :: S) M N P Q = Wp mX9_add d 8 L (.ref (P r 0) :: S) M N P Q := wp_getfield rfl dX9_add_5 rfl rfl hs rfl
theorem sX9_add_8 (h1 : isA (shk r).1 = true) : Wp mX9_add d 8 L (.ref r :: S) M N P Q = Wp mX9_add d 9 L (.int (nI (shk r).2) :: S) M N P Q := wp_arraylength rfl dX9_add_8 (kd rfl) (isA_le h1).1 (isA_le h1).2
theorem sX9_add_9 : Wp mX9_add d 9 L (.int z :: .int x :: S) M N P Q = (if z ≤ x then Wp mX9_add d 54 L S M N P Q else Wp mX9_add d 12 L S M N P Q) := wp_icmp_ge rfl dX9_add_9 rfl
theorem sX9_add_12 : Wp mX9_add d 12 (.ref r :: L) S M N P Q = Wp mX9_add d 13 (.ref r :: L) (.ref r :: S) M N P Q := wp_aload_n rfl dX9_add_12 rfl
theorem sX9_add_13 (hs : shk r = (9, 0)) : Wp mX9_add d 13 L (.ref r :: S) M N P Q = Wp mX9_add d 16 L (.ref (P r 0) :: S) M N P Q := wp_getfield rfl dX9_add_13 rfl rfl hs rfl
theorem sX9_add_16 : Wp mX9_add d 16 (.ref r :: L) S M N P Q = Wp mX9_add d 17 (.ref r :: L) (.ref r :: S) M N P Q := wp_aload_n rfl dX9_add_16 rfl
theorem sX9_add_17 (hs : shk r = (9, 0)) : Wp mX9_add d 17 L (.ref r :: S) M N P Q = Wp mX9_add d 20 L (.int (M r 3) :: S) M N P Q := wp_getfield rfl dX9_add_17 rfl rfl hs rfl
theorem sX9_add_20 : Wp mX9_add d 20 (a0 :: .int x :: L) S M N P Q = Wp mX9_add d 21 (a0 :: .int x :: L) (.int x :: S) M N P Q := wp_iload_n rfl dX9_add_20 rfl
theorem sX9_add_21 : Wp mX9_add d 21 L (.int x :: S) M N P Q = Wp mX9_add d 22 L (.int x.toInt8.toInt32 :: S) M N P Q := wp_i2b rfl dX9_add_21
theorem sX9_add_22 (hs : (shk r).1 = 101) : Wp mX9_add d 22 L (.int x :: .int j :: .ref r :: S) M N P Q = (vp_in j (shk r).2 ∧ Wp mX9_add d 23 L S (up2 M r j.toNatClampNeg x.toInt8.toInt32) N P Q) := wp_bastoreB rfl dX9_add_22 (kd hs)
theorem sX9_add_23 : Wp mX9_add d 23 (.ref r :: L) S M N P Q = Wp mX9_add d 24 (.ref r :: L) (.ref r :: S) M N P Q := wp_aload_n rfl dX9_add_23 rfl
theorem sX9_add_24 (hs : shk r = (9, 0)) : Wp mX9_add d 24 L (.ref r :: S) M N P Q = Wp mX9_add d 27 L (.ref (P r 1) :: S) M N P Q := wp_getfield rfl dX9_add_24 rfl rfl hs rfl
theorem sX9_add_27 : Wp mX9_add d 27 (.ref r :: L) S M N P Q = Wp mX9_add d 28 (.ref r :: L) (.ref r :: S) M N P Q := wp_aload_n rfl dX9_add_27 rfl
theorem sX9_add_28 (hs : shk r = (9, 0)) : Wp mX9_add d 28 L (.ref r :: S) M N P Q = Wp mX9_add d 31 L (.int (M r 3) :: S) M N P Q := wp_getfield rfl dX9_add_28 rfl rfl hs rfl
theorem sX9_add_31 : Wp mX9_add d 31 (a0 :: a1 :: .int x :: L) S M N P Q = Wp mX9_add d 32 (a0 :: a1 :: .int x :: L) (.int x :: S) M N P Q := wp_iload_n rfl dX9_add_31 rfl
theorem sX9_add_32 : Wp mX9_add d 32 L (.int x :: S) M N P Q = Wp mX9_add d 33 L (.int x.toInt16.toInt32 :: S) M N P Q := wp_i2s rfl dX9_add_32
theorem sX9_add_33 (hs : (shk r).1 = 103) : Wp mX9_add d 33 L (.int x :: .int j :: .ref r :: S) M N P Q = (vp_in j (shk r).2 ∧ Wp mX9_add d 34 L S (up2 M r j.toNatClampNeg x.toInt16.toInt32) N P Q) := wp_sastore rfl dX9_add_33 (kd hs)
theorem sX9_add_34 : Wp mX9_add d 34 (.ref r :: L) S M N P Q = Wp mX9_add d 35 (.ref r :: L) (.ref r :: S) M N P Q := wp_aload_n rfl dX9_add_34 rfl
theorem sX9_add_35 (hs : shk r = (9, 0)) : Wp mX9_add d 35 L (.ref r :: S) M N P Q = Wp mX9_add d 38 L (.ref (P r 2) :: S) M N P Q := wp_getfield rfl dX9_add_35 rfl rfl hs rfl
theorem sX9_add_38 : Wp mX9_add d 38 (.ref r :: L) S M N P Q = Wp mX9_add d 39 (.ref r :: L) (.ref r :: S) M N P Q := wp_aload_n rfl dX9_add_38 rfl
theorem sX9_add_39 (hs : shk r = (9, 0)) : Wp mX9_add d 39 L (.ref r :: S) M N P Q = Wp mX9_add d 42 L (.int (M r 3) :: S) M N P Q := wp_getfield rfl dX9_add_39 rfl rfl hs rfl
theorem sX9_add_42 : Wp mX9_add d 42 (a0 :: a1 :: a2 :: .int x :: L) S M N P Q = Wp mX9_add d 43 (a0 :: a1 :: a2 :: .int x :: L) (.int x :: S) M N P Q := wp_iload_n rfl dX9_add_42 rfl
theorem sX9_add_43 (hs : (shk r).1 = 100) : Wp mX9_add d 43 L (.int x :: .int j :: .ref r :: S) M N P Q = (vp_in j (shk r).2 ∧ Wp mX9_add d 44 L S (up2 M r j.toNatClampNeg x) N P Q) := wp_iastore rfl dX9_add_43 (kd hs)
theorem sX9_add_44 : Wp mX9_add d 44 (.ref r :: L) S M N P Q = Wp mX9_add d 45 (.ref r :: L) (.ref r :: S) M N P Q := wp_aload_n rfl dX9_add_44 rfl
theorem sX9_add_45 (hv : a0.category = 1) : Wp mX9_add d 45 L (a0 :: S) M N P Q = Wp mX9_add d 46 L (a0 :: a0 :: S) M N P Q := wp_dup rfl dX9_add_45 hv
theorem sX9_add_46 (hs : shk r = (9, 0)) : Wp mX9_add d 46 L (.ref r :: S) M N P Q = Wp mX9_add d 49 L (.int (M r 3) :: S) M N P Q := wp_getfield rfl dX9_add_46 rfl rfl hs rfl
theorem sX9_add_49 : Wp mX9_add d 49 L S M N P Q = Wp mX9_add d 50 L (.int 1 :: S) M N P Q := wp_iconst rfl dX9_add_49 rfl
theorem sX9_add_50 : Wp mX9_add d 50 L (.int z :: .int x :: S) M N P Q = Wp mX9_add d 51 L (.int (x + z) :: S) M N P Q := wp_iadd rfl dX9_add_50
theorem sX9_add_51 (hs : shk r = (9, 0)) : Wp mX9_add d 51 L (.int x :: .ref r :: S) M N P Q = Wp mX9_add d 54 L S (up2 M r 3 x) N P Q := wp_putI rfl dX9_add_51 rfl rfl hs rfl ⟨_, _, _, _, rfl, by decide, rfl, tyX9_ok 3 (by decide), rfl, rfl⟩
theorem sX9_add_54 : Wp mX9_add d 54 L [] M N P Q = Q none M N P := wp_vret rfl dX9_add_54 rfl
theorem sX9_isBlank_0 : Wp mX9_isBlank d 0 (.int x :: L) S M N P Q = Wp mX9_isBlank d 1 (.int x :: L) (.int x :: S) M N P Q := wp_iload_n rfl dX9_isBlank_0 rfl
theorem sX9_isBlank_1 : Wp mX9_isBlank d 1 L S M N P Q = Wp mX9_isBlank d 3 L (.int 32 :: S) M N P Q := wp_bipush rfl dX9_isBlank_1 rfl
theorem sX9_isBlank_3 : Wp mX9_isBlank d 3 L (.int z :: .int x :: S) M N P Q = (if x = z then Wp mX9_isBlank d 12 L S M N P Q else Wp mX9_isBlank d 6 L S M N P Q) := wp_icmp_eq rfl dX9_isBlank_3 rfl
theorem sX9_isBlank_6 : Wp mX9_isBlank d 6 (.int x :: L) S M N P Q = Wp mX9_isBlank d 7 (.int x :: L) (.int x :: S) M N P Q := wp_iload_n rfl dX9_isBlank_6 rfl
theorem sX9_isBlank_7 : Wp mX9_isBlank d 7 L S M N P Q = Wp mX9_isBlank d 9 L (.int 10 :: S) M N P Q := wp_bipush rfl dX9_isBlank_7 rfl
theorem sX9_isBlank_9 : Wp mX9_isBlank d 9 L (.int z :: .int x :: S) M N P Q = (if x = z then Wp mX9_isBlank d 12 L S M N P Q else Wp mX9_isBlank d 16 L S M N P Q) := wp_icmp_ne rfl dX9_isBlank_9 rfl
theorem sX9_isBlank_12 : Wp mX9_isBlank d 12 L S M N P Q = Wp mX9_isBlank d 13 L (.int 1 :: S) M N P Q := wp_iconst rfl dX9_isBlank_12 rfl
theorem sX9_isBlank_13 : Wp mX9_isBlank d 13 L S M N P Q = Wp mX9_isBlank d 17 L S M N P Q := wp_goto rfl dX9_isBlank_13 rfl
theorem sX9_isBlank_16 : Wp mX9_isBlank d 16 L S M N P Q = Wp mX9_isBlank d 17 L (.int 0 :: S) M N P Q := wp_iconst rfl dX9_isBlank_16 rfl
theorem sX9_isBlank_17 (hb : bit x) : Wp mX9_isBlank d 17 L [.int x] M N P Q = Q (some (.int x)) M N P := wp_iret rfl dX9_isBlank_17 rfl (bit_n hb)
theorem sX9_isLetter_0 : Wp mX9_isLetter d 0 (.int x :: L) S M N P Q = Wp mX9_isLetter d 1 (.int x :: L) (.int x :: S) M N P Q := wp_iload_n rfl dX9_isLetter_0 rfl
theorem sX9_isLetter_1 : Wp mX9_isLetter d 1 L S M N P Q = Wp mX9_isLetter d 3 L (.int 97 :: S) M N P Q := wp_bipush rfl dX9_isLetter_1 rfl
theorem sX9_isLetter_3 : Wp mX9_isLetter d 3 L (.int z :: .int x :: S) M N P Q = (if x < z then Wp mX9_isLetter d 16 L S M N P Q else Wp mX9_isLetter d 6 L S M N P Q) := wp_icmp_lt rfl dX9_isLetter_3 rfl
theorem sX9_isLetter_6 : Wp mX9_isLetter d 6 (.int x :: L) S M N P Q = Wp mX9_isLetter d 7 (.int x :: L) (.int x :: S) M N P Q := wp_iload_n rfl dX9_isLetter_6 rfl
theorem sX9_isLetter_7 : Wp mX9_isLetter d 7 L S M N P Q = Wp mX9_isLetter d 9 L (.int 122 :: S) M N P Q := wp_bipush rfl dX9_isLetter_7 rfl
theorem sX9_isLetter_9 : Wp mX9_isLetter d 9 L (.int z :: .int x :: S) M N P Q = (if z < x then Wp mX9_isLetter d 16 L S M N P Q else Wp mX9_isLetter d 12 L S M N P Q) := wp_icmp_gt rfl dX9_isLetter_9 rfl
theorem sX9_isLetter_12 : Wp mX9_isLetter d 12 L S M N P Q = Wp mX9_isLetter d 13 L (.int 1 :: S) M N P Q := wp_iconst rfl dX9_isLetter_12 rfl
theorem sX9_isLetter_13 : Wp mX9_isLetter d 13 L S M N P Q = Wp mX9_isLetter d 17 L S M N P Q := wp_goto rfl dX9_isLetter_13 rfl
theorem sX9_isLetter_16 : Wp mX9_isLetter d 16 L S M N P Q = Wp mX9_isLetter d 17 L (.int 0 :: S) M N P Q := wp_iconst rfl dX9_isLetter_16 rfl
theorem sX9_isLetter_17 (hb : bit x) : Wp mX9_isLetter d 17 L [.int x] M N P Q = Q (some (.int x)) M N P := wp_iret rfl dX9_isLetter_17 rfl (bit_n hb)
theorem sX9_isDigit_0 : Wp mX9_isDigit d 0 (.int x :: L) S M N P Q = Wp mX9_isDigit d 1 (.int x :: L) (.int x :: S) M N P Q := wp_iload_n rfl dX9_isDigit_0 rfl
theorem sX9_isDigit_1 : Wp mX9_isDigit d 1 L S M N P Q = Wp mX9_isDigit d 3 L (.int 48 :: S) M N P Q := wp_bipush rfl dX9_isDigit_1 rfl
theorem sX9_isDigit_3 : Wp mX9_isDigit d 3 L (.int z :: .int x :: S) M N P Q = (if x < z then Wp mX9_isDigit d 16 L S M N P Q else Wp mX9_isDigit d 6 L S M N P Q) := wp_icmp_lt rfl dX9_isDigit_3 rfl
theorem sX9_isDigit_6 : Wp mX9_isDigit d 6 (.int x :: L) S M N P Q = Wp mX9_isDigit d 7 (.int x :: L) (.int x :: S) M N P Q := wp_iload_n rfl dX9_isDigit_6 rfl
theorem sX9_isDigit_7 : Wp mX9_isDigit d 7 L S M N P Q = Wp mX9_isDigit d 9 L (.int 57 :: S) M N P Q := wp_bipush rfl dX9_isDigit_7 rfl
theorem sX9_isDigit_9 : Wp mX9_isDigit d 9 L (.int z :: .int x :: S) M N P Q = (if z < x then Wp mX9_isDigit d 16 L S M N P Q else Wp mX9_isDigit d 12 L S M N P Q) := wp_icmp_gt rfl dX9_isDigit_9 rfl
theorem sX9_isDigit_12 : Wp mX9_isDigit d 12 L S M N P Q = Wp mX9_isDigit d 13 L (.int 1 :: S) M N P Q := wp_iconst rfl dX9_isDigit_12 rfl
theorem sX9_isDigit_13 : Wp mX9_isDigit d 13 L S M N P Q = Wp mX9_isDigit d 17 L S M N P Q := wp_goto rfl dX9_isDigit_13 rfl
theorem sX9_isDigit_16 : Wp mX9_isDigit d 16 L S M N P Q = Wp mX9_isDigit d 17 L (.int 0 :: S) M N P Q := wp_iconst rfl dX9_isDigit_16 rfl
theorem sX9_isDigit_17 (hb : bit x) : Wp mX9_isDigit d 17 L [.int x] M N P Q = Q (some (.int x)) M N P := wp_iret rfl dX9_isDigit_17 rfl (bit_n hb)
theorem sX10_follow_0 : Wp mX10_follow d 0 (.ref r :: L) S M N P Q = Wp mX10_follow d 1 (.ref r :: L) (.ref r :: S) M N P Q := wp_aload_n rfl dX10_follow_0 rfl
theorem sX10_follow_1 : Wp mX10_follow d 1 (.ref r :: L) S M N P Q = Wp mX10_follow d 2 (.ref r :: L) (.ref r :: S) M N P Q := wp_aload_n rfl dX10_follow_1 rfl
theorem sX10_follow_2 (hs : shk r = (10, 0)) : Wp mX10_follow d 2 L (.ref r :: S) M N P Q = Wp mX10_follow d 5 L (.ref (P r 0) :: S) M N P Q := wp_getfield rfl dX10_follow_2 rfl rfl hs rfl
theorem sX10_follow_5 : Wp mX10_follow d 5 (a0 :: .int x :: L) S M N P Q = Wp mX10_follow d 6 (a0 :: .int x :: L) (.int x :: S) M N P Q := wp_iload_n rfl dX10_follow_5 rfl
theorem sX10_follow_6 {x0 : Int32} (hs : shk r = (1, 0)) (hS : stk S ≤ 8) : Wp mX10_follow (d + 1) 6 L (.int x0 :: .ref r :: S) M N P Q = Wp mX1_has d 0 [.ref r, .int x0] [] M N P (fun v M' N' P' => Wp mX10_follow (d + 1) 9 L (v.toList ++ S) M' N' P' Q) := wp_callV (As := [.int x0]) rfl dX10_follow_6 rfl rfl (Or.inl ⟨_, _, _, hs, rfl⟩) rfl ⟨rfl, Nat.le_of_ble_eq_true rfl, Nat.le_of_ble_eq_true rfl⟩ rfl hS
theorem sX10_follow_9 : Wp mX10_follow d 9 L (.int x :: S) M N P Q = (if x = 0 then Wp mX10_follow d 24 L S M N P Q else Wp mX10_follow d 12 L S M N P Q) := wp_if_eq rfl dX10_follow_9 rfl
theorem sX10_follow_12 : Wp mX10_follow d 12 (.ref r :: L) S M N P Q = Wp mX10_follow d 13 (.ref r :: L) (.ref r :: S) M N P Q := wp_aload_n rfl dX10_follow_12 rfl
theorem sX10_follow_13 (hs : shk r = (10, 0)) : Wp mX10_follow d 13 L (.ref r :: S) M N P Q = Wp mX10_follow d 16 L (.ref (P r 0) :: S) M N P Q := wp_getfield rfl dX10_follow_13 rfl rfl hs rfl
theorem sX10_follow_16 (hs : shk r = (1, 0)) : Wp mX10_follow d 16 L (.ref r :: S) M N P Q = Wp mX10_follow d 19 L (.ref (P r 0) :: S) M N P Q := wp_getfield rfl dX10_follow_16 rfl rfl hs rfl
theorem sX10_follow_19 : Wp mX10_follow d 19 (a0 :: .int x :: L) S M N P Q = Wp mX10_follow d 20 (a0 :: .int x :: L) (.int x :: S) M N P Q := wp_iload_n rfl dX10_follow_19 rfl
theorem sX10_follow_20 (hs : (shk r).1 = 100) : Wp mX10_follow d 20 L (.int j :: .ref r :: S) M N P Q = (vp_in j (shk r).2 ∧ Wp mX10_follow d 21 L (.int (M r j.toNatClampNeg) :: S) M N P Q) := wp_iaload rfl dX10_follow_20 (kd hs)
theorem sX10_follow_21 : Wp mX10_follow d 21 L S M N P Q = Wp mX10_follow d 25 L S M N P Q := wp_goto rfl dX10_follow_21 rfl
theorem sX10_follow_24 : Wp mX10_follow d 24 L S M N P Q = Wp mX10_follow d 25 L (.int (-1) :: S) M N P Q := wp_iconst rfl dX10_follow_24 rfl
theorem sX10_follow_25 (hs : shk r = (10, 0)) : Wp mX10_follow d 25 L (.int x :: .ref r :: S) M N P Q = Wp mX10_follow d 28 L S (up2 M r 2 x) N P Q := wp_putI rfl dX10_follow_25 rfl rfl hs rfl ⟨_, _, _, _, rfl, by decide, rfl, tyX10_ok 2 (by decide), rfl, rfl⟩
theorem sX10_follow_28 : Wp mX10_follow d 28 (.ref r :: L) S M N P Q = Wp mX10_follow d 29 (.ref r :: L) (.ref r :: S) M N P Q := wp_aload_n rfl dX10_follow_28 rfl
theorem sX10_follow_29 : Wp mX10_follow d 29 L S M N P Q = Wp mX10_follow d 30 L (.int 0 :: S) M N P Q := wp_iconst rfl dX10_follow_29 rfl
theorem sX10_follow_30 (hs : shk r = (10, 0)) (hb : bit x) : Wp mX10_follow d 30 L (.int x :: .ref r :: S) M N P Q = Wp mX10_follow d 33 L S (up2 M r 3 x) N P Q := wp_putI rfl dX10_follow_30 rfl rfl hs rfl ⟨_, _, _, _, rfl, by decide, rfl, tyX10_ok 3 (by decide), bit_n hb, bit_f hb⟩
theorem sX10_follow_33 : Wp mX10_follow d 33 (.ref r :: L) S M N P Q = Wp mX10_follow d 34 (.ref r :: L) (.ref r :: S) M N P Q := wp_aload_n rfl dX10_follow_33 rfl
theorem sX10_follow_34 : Wp mX10_follow d 34 L S M N P Q = Wp mX10_follow d 35 L (.int 0 :: S) M N P Q := wp_iconst rfl dX10_follow_34 rfl
theorem sX10_follow_35 (hs : shk r = (10, 0)) : Wp mX10_follow d 35 L (.int x :: .ref r :: S) M N P Q = Wp mX10_follow d 38 L S (up2 M r 4 x) N P Q := wp_putI rfl dX10_follow_35 rfl rfl hs rfl ⟨_, _, _, _, rfl, by decide, rfl, tyX10_ok 4 (by decide), rfl, rfl⟩
theorem sX10_follow_38 : Wp mX10_follow d 38 (.ref r :: L) S M N P Q = Wp mX10_follow d 39 (.ref r :: L) (.ref r :: S) M N P Q := wp_aload_n rfl dX10_follow_38 rfl
theorem sX10_follow_39 : Wp mX10_follow d 39 L S M N P Q = Wp mX10_follow d 40 L (.int 0 :: S) M N P Q := wp_iconst rfl dX10_follow_39 rfl
theorem sX10_follow_40 (hs : shk r = (10, 0)) : Wp mX10_follow d 40 L (.int x :: .ref r :: S) M N P Q = Wp mX10_follow d 43 L S (up2 M r 5 x) N P Q := wp_putI rfl dX10_follow_40 rfl rfl hs rfl ⟨_, _, _, _, rfl, by decide, rfl, tyX10_ok 5 (by decide), rfl, rfl⟩
theorem sX10_follow_43 : Wp mX10_follow d 43 L S M N P Q = Wp mX10_follow d 44 L (.int 0 :: S) M N P Q := wp_iconst rfl dX10_follow_43 rfl
theorem sX10_follow_44 (hn : nl a4 = true) : Wp mX10_follow d 44 (a0 :: a1 :: a2 :: a3 :: a4 :: a5 :: L) (.int x :: S) M N P Q = Wp mX10_follow d 46 (a0 :: a1 :: a2 :: a3 :: a4 :: .int x :: L) S M N P Q := wp_istore rfl dX10_follow_44 (lenGt5 ..) (okst5 hn) rfl
theorem sX10_follow_46 : Wp mX10_follow d 46 L S M N P Q = Wp mX10_follow d 47 L (.int 0 :: S) M N P Q := wp_iconst rfl dX10_follow_46 rfl
theorem sX10_follow_47 (hn : nl a5 = true) : Wp mX10_follow d 47 (a0 :: a1 :: a2 :: a3 :: a4 :: a5 :: a6 :: L) (.int x :: S) M N P Q = Wp mX10_follow d 49 (a0 :: a1 :: a2 :: a3 :: a4 :: a5 :: .int x :: L) S M N P Q := wp_istore rfl dX10_follow_47 (lenGt6 ..) (okst6 hn) rfl
theorem sX10_follow_49 : Wp mX10_follow d 49 (a0 :: a1 :: a2 :: a3 :: a4 :: a5 :: .int x :: L) S M N P Q = Wp mX10_follow d 51 (a0 :: a1 :: a2 :: a3 :: a4 :: a5 :: .int x :: L) (.int x :: S) M N P Q := wp_iload rfl dX10_follow_49 rfl
theorem sX10_follow_51 : Wp mX10_follow d 51 (.ref r :: L) S M N P Q = Wp mX10_follow d 52 (.ref r :: L) (.ref r :: S) M N P Q := wp_aload_n rfl dX10_follow_51 rfl
theorem sX10_follow_52 (hs : shk r = (10, 0)) : Wp mX10_follow d 52 L (.ref r :: S) M N P Q = Wp mX10_follow d 55 L (.ref (P r 1) :: S) M N P Q := wp_getfield rfl dX10_follow_52 rfl rfl hs rfl
theorem sX10_follow_55 (hs : shk r = (3, 0)) : Wp mX10_follow d 55 L (.ref r :: S) M N P Q = Wp mX10_follow d 58 L (.int (M r 9) :: S) M N P Q := wp_getfield rfl dX10_follow_55 rfl rfl hs rfl
theorem sX10_follow_58 : Wp mX10_follow d 58 L (.int z :: .int x :: S) M N P Q = (if z ≤ x then Wp mX10_follow d 181 L S M N P Q else Wp mX10_follow d 61 L S M N P Q) := wp_icmp_ge rfl dX10_follow_58 rfl
theorem sX10_follow_61 : Wp mX10_follow d 61 (.ref r :: L) S M N P Q = Wp mX10_follow d 62 (.ref r :: L) (.ref r :: S) M N P Q := wp_aload_n rfl dX10_follow_61 rfl
theorem sX10_follow_62 (hs : shk r = (10, 0)) : Wp mX10_follow d 62 L (.ref r :: S) M N P Q = Wp mX10_follow d 65 L (.ref (P r 1) :: S) M N P Q := wp_getfield rfl dX10_follow_62 rfl rfl hs rfl
theorem sX10_follow_65 (hs : shk r = (3, 0)) : Wp mX10_follow d 65 L (.ref r :: S) M N P Q = Wp mX10_follow d 68 L (.ref (P r 8) :: S) M N P Q := wp_getfield rfl dX10_follow_65 rfl rfl hs rfl
theorem sX10_follow_68 : Wp mX10_follow d 68 (a0 :: a1 :: a2 :: a3 :: a4 :: a5 :: .int x :: L) S M N P Q = Wp mX10_follow d 70 (a0 :: a1 :: a2 :: a3 :: a4 :: a5 :: .int x :: L) (.int x :: S) M N P Q := wp_iload rfl dX10_follow_68 rfl
theorem sX10_follow_70 (hs : (shk r).1 = 100) : Wp mX10_follow d 70 L (.int j :: .ref r :: S) M N P Q = (vp_in j (shk r).2 ∧ Wp mX10_follow d 71 L (.int (M r j.toNatClampNeg) :: S) M N P Q) := wp_iaload rfl dX10_follow_70 (kd hs)
theorem sX10_follow_71 (hn : nl a6 = true) : Wp mX10_follow d 71 (a0 :: a1 :: a2 :: a3 :: a4 :: a5 :: a6 :: a7 :: L) (.int x :: S) M N P Q = Wp mX10_follow d 73 (a0 :: a1 :: a2 :: a3 :: a4 :: a5 :: a6 :: .int x :: L) S M N P Q := wp_istore rfl dX10_follow_71 (lenGt7 ..) (okst7 hn) rfl
theorem sX10_follow_73 : Wp mX10_follow d 73 (.ref r :: L) S M N P Q = Wp mX10_follow d 74 (.ref r :: L) (.ref r :: S) M N P Q := wp_aload_n rfl dX10_follow_73 rfl
theorem sX10_follow_74 (hs : shk r = (10, 0)) : Wp mX10_follow d 74 L (.ref r :: S) M N P Q = Wp mX10_follow d 77 L (.ref (P r 1) :: S) M N P Q := wp_getfield rfl dX10_follow_74 rfl rfl hs rfl
theorem sX10_follow_77 (hs : shk r = (3, 0)) : Wp mX10_follow d 77 L (.ref r :: S) M N P Q = Wp mX10_follow d 80 L (.ref (P r 0) :: S) M N P Q := wp_getfield rfl dX10_follow_77 rfl rfl hs rfl
theorem sX10_follow_80 : Wp mX10_follow d 80 (a0 :: a1 :: a2 :: a3 :: a4 :: a5 :: a6 :: .int x :: L) S M N P Q = Wp mX10_follow d 82 (a0 :: a1 :: a2 :: a3 :: a4 :: a5 :: a6 :: .int x :: L) (.int x :: S) M N P Q := wp_iload rfl dX10_follow_80 rfl
theorem sX10_follow_82 (hs : (shk r).1 = 100) : Wp mX10_follow d 82 L (.int j :: .ref r :: S) M N P Q = (vp_in j (shk r).2 ∧ Wp mX10_follow d 83 L (.int (M r j.toNatClampNeg) :: S) M N P Q) := wp_iaload rfl dX10_follow_82 (kd hs)
theorem sX10_follow_83 : Wp mX10_follow d 83 (a0 :: .int x :: L) S M N P Q = Wp mX10_follow d 84 (a0 :: .int x :: L) (.int x :: S) M N P Q := wp_iload_n rfl dX10_follow_83 rfl
theorem sX10_follow_84 : Wp mX10_follow d 84 L (.int z :: .int x :: S) M N P Q = (if x = z then Wp mX10_follow d 87 L S M N P Q else Wp mX10_follow d 175 L S M N P Q) := wp_icmp_ne rfl dX10_follow_84 rfl
theorem sX10_follow_87 : Wp mX10_follow d 87 (.ref r :: L) S M N P Q = Wp mX10_follow d 88 (.ref r :: L) (.ref r :: S) M N P Q := wp_aload_n rfl dX10_follow_87 rfl
theorem sX10_follow_88 (hs : shk r = (10, 0)) : Wp mX10_follow d 88 L (.ref r :: S) M N P Q = Wp mX10_follow d 91 L (.ref (P r 1) :: S) M N P Q := wp_getfield rfl dX10_follow_88 rfl rfl hs rfl
theorem sX10_follow_91 (hs : shk r = (3, 0)) : Wp mX10_follow d 91 L (.ref r :: S) M N P Q = Wp mX10_follow d 94 L (.ref (P r 3) :: S) M N P Q := wp_getfield rfl dX10_follow_91 rfl rfl hs rfl
theorem sX10_follow_94 : Wp mX10_follow d 94 (a0 :: a1 :: a2 :: a3 :: a4 :: a5 :: a6 :: .int x :: L) S M N P Q = Wp mX10_follow d 96 (a0 :: a1 :: a2 :: a3 :: a4 :: a5 :: a6 :: .int x :: L) (.int x :: S) M N P Q := wp_iload rfl dX10_follow_94 rfl
theorem sX10_follow_96 (hs : (shk r).1 = 100) : Wp mX10_follow d 96 L (.int j :: .ref r :: S) M N P Q = (vp_in j (shk r).2 ∧ Wp mX10_follow d 97 L (.int (M r j.toNatClampNeg) :: S) M N P Q) := wp_iaload rfl dX10_follow_96 (kd hs)
theorem sX10_follow_97 : Wp mX10_follow d 97 (a0 :: a1 :: .int x :: L) S M N P Q = Wp mX10_follow d 98 (a0 :: a1 :: .int x :: L) (.int x :: S) M N P Q := wp_iload_n rfl dX10_follow_97 rfl
theorem sX10_follow_98 : Wp mX10_follow d 98 L (.int z :: .int x :: S) M N P Q = (if z < x then Wp mX10_follow d 175 L S M N P Q else Wp mX10_follow d 101 L S M N P Q) := wp_icmp_gt rfl dX10_follow_98 rfl
theorem sX10_follow_101 : Wp mX10_follow d 101 (.ref r :: L) S M N P Q = Wp mX10_follow d 102 (.ref r :: L) (.ref r :: S) M N P Q := wp_aload_n rfl dX10_follow_101 rfl
theorem sX10_follow_102 : Wp mX10_follow d 102 (a0 :: a1 :: a2 :: a3 :: a4 :: a5 :: a6 :: .int x :: L) S M N P Q = Wp mX10_follow d 104 (a0 :: a1 :: a2 :: a3 :: a4 :: a5 :: a6 :: .int x :: L) (.int x :: S) M N P Q := wp_iload rfl dX10_follow_102 rfl
theorem sX10_follow_104 : Wp mX10_follow d 104 (a0 :: a1 :: a2 :: .int x :: L) S M N P Q = Wp mX10_follow d 105 (a0 :: a1 :: a2 :: .int x :: L) (.int x :: S) M N P Q := wp_iload_n rfl dX10_follow_104 rfl
theorem sX10_follow_105 {x0 : Int32} {x1 : Int32} (hs : shk r = (10, 0)) (hS : stk S ≤ 8) : Wp mX10_follow (d + 1) 105 L (.int x1 :: .int x0 :: .ref r :: S) M N P Q = Wp mX10_movesHouse d 0 [.ref r, .int x0, .int x1] [] M N P (fun v M' N' P' => Wp mX10_follow (d + 1) 108 L (v.toList ++ S) M' N' P' Q) := wp_callV (As := [.int x0, .int x1]) rfl dX10_follow_105 rfl rfl (Or.inl ⟨_, _, _, hs, rfl⟩) rfl ⟨rfl, Nat.le_of_ble_eq_true rfl, Nat.le_of_ble_eq_true rfl⟩ rfl hS
theorem sX10_follow_108 : Wp mX10_follow d 108 L (.int x :: S) M N P Q = (if x = 0 then Wp mX10_follow d 175 L S M N P Q else Wp mX10_follow d 111 L S M N P Q) := wp_if_eq rfl dX10_follow_108 rfl
theorem sX10_follow_111 : Wp mX10_follow d 111 (a0 :: a1 :: a2 :: a3 :: a4 :: a5 :: a6 :: .int x :: L) S M N P Q = Wp mX10_follow d 113 (a0 :: a1 :: a2 :: a3 :: a4 :: a5 :: a6 :: .int x :: L) (.int x :: S) M N P Q := wp_iload rfl dX10_follow_111 rfl
theorem sX10_follow_113 : Wp mX10_follow d 113 (a0 :: a1 :: a2 :: a3 :: .int x :: L) S M N P Q = Wp mX10_follow d 115 (a0 :: a1 :: a2 :: a3 :: .int x :: L) (.int x :: S) M N P Q := wp_iload rfl dX10_follow_113 rfl
theorem sX10_follow_115 : Wp mX10_follow d 115 L (.int z :: .int x :: S) M N P Q = (if x = z then Wp mX10_follow d 118 L S M N P Q else Wp mX10_follow d 132 L S M N P Q) := wp_icmp_ne rfl dX10_follow_115 rfl
theorem sX10_follow_118 : Wp mX10_follow d 118 (.ref r :: L) S M N P Q = Wp mX10_follow d 119 (.ref r :: L) (.ref r :: S) M N P Q := wp_aload_n rfl dX10_follow_118 rfl
theorem sX10_follow_119 : Wp mX10_follow d 119 L S M N P Q = Wp mX10_follow d 120 L (.int 1 :: S) M N P Q := wp_iconst rfl dX10_follow_119 rfl
theorem sX10_follow_120 (hs : shk r = (10, 0)) (hb : bit x) : Wp mX10_follow d 120 L (.int x :: .ref r :: S) M N P Q = Wp mX10_follow d 123 L S (up2 M r 3 x) N P Q := wp_putI rfl dX10_follow_120 rfl rfl hs rfl ⟨_, _, _, _, rfl, by decide, rfl, tyX10_ok 3 (by decide), bit_n hb, bit_f hb⟩
theorem sX10_follow_123 : Wp mX10_follow d 123 (.ref r :: L) S M N P Q = Wp mX10_follow d 124 (.ref r :: L) (.ref r :: S) M N P Q := wp_aload_n rfl dX10_follow_123 rfl
theorem sX10_follow_124 : Wp mX10_follow d 124 (a0 :: a1 :: a2 :: a3 :: a4 :: .int x :: L) S M N P Q = Wp mX10_follow d 126 (a0 :: a1 :: a2 :: a3 :: a4 :: .int x :: L) (.int x :: S) M N P Q := wp_iload rfl dX10_follow_124 rfl
theorem sX10_follow_126 (hs : shk r = (10, 0)) : Wp mX10_follow d 126 L (.int x :: .ref r :: S) M N P Q = Wp mX10_follow d 129 L S (up2 M r 4 x) N P Q := wp_putI rfl dX10_follow_126 rfl rfl hs rfl ⟨_, _, _, _, rfl, by decide, rfl, tyX10_ok 4 (by decide), rfl, rfl⟩
theorem sX10_follow_129 : Wp mX10_follow d 129 L S M N P Q = Wp mX10_follow d 149 L S M N P Q := wp_goto rfl dX10_follow_129 rfl
theorem sX10_follow_132 : Wp mX10_follow d 132 (.ref r :: L) S M N P Q = Wp mX10_follow d 133 (.ref r :: L) (.ref r :: S) M N P Q := wp_aload_n rfl dX10_follow_132 rfl
theorem sX10_follow_133 (hs : shk r = (10, 0)) : Wp mX10_follow d 133 L (.ref r :: S) M N P Q = Wp mX10_follow d 136 L (.int (M r 3) :: S) M N P Q := wp_getfield rfl dX10_follow_133 rfl rfl hs rfl
theorem sX10_follow_136 : Wp mX10_follow d 136 L (.int x :: S) M N P Q = (if x = 0 then Wp mX10_follow d 149 L S M N P Q else Wp mX10_follow d 139 L S M N P Q) := wp_if_eq rfl dX10_follow_136 rfl
theorem sX10_follow_139 : Wp mX10_follow d 139 (.ref r :: L) S M N P Q = Wp mX10_follow d 140 (.ref r :: L) (.ref r :: S) M N P Q := wp_aload_n rfl dX10_follow_139 rfl
theorem sX10_follow_140 (hv : a0.category = 1) : Wp mX10_follow d 140 L (a0 :: S) M N P Q = Wp mX10_follow d 141 L (a0 :: a0 :: S) M N P Q := wp_dup rfl dX10_follow_140 hv
theorem sX10_follow_141 (hs : shk r = (10, 0)) : Wp mX10_follow d 141 L (.ref r :: S) M N P Q = Wp mX10_follow d 144 L (.int (M r 5) :: S) M N P Q := wp_getfield rfl dX10_follow_141 rfl rfl hs rfl
theorem sX10_follow_144 : Wp mX10_follow d 144 L S M N P Q = Wp mX10_follow d 145 L (.int 1 :: S) M N P Q := wp_iconst rfl dX10_follow_144 rfl
theorem sX10_follow_145 : Wp mX10_follow d 145 L (.int z :: .int x :: S) M N P Q = Wp mX10_follow d 146 L (.int (x + z) :: S) M N P Q := wp_iadd rfl dX10_follow_145
theorem sX10_follow_146 (hs : shk r = (10, 0)) : Wp mX10_follow d 146 L (.int x :: .ref r :: S) M N P Q = Wp mX10_follow d 149 L S (up2 M r 5 x) N P Q := wp_putI rfl dX10_follow_146 rfl rfl hs rfl ⟨_, _, _, _, rfl, by decide, rfl, tyX10_ok 5 (by decide), rfl, rfl⟩
theorem sX10_follow_149 : Wp mX10_follow d 149 (.ref r :: L) S M N P Q = Wp mX10_follow d 150 (.ref r :: L) (.ref r :: S) M N P Q := wp_aload_n rfl dX10_follow_149 rfl
theorem sX10_follow_150 : Wp mX10_follow d 150 (.ref r :: L) S M N P Q = Wp mX10_follow d 151 (.ref r :: L) (.ref r :: S) M N P Q := wp_aload_n rfl dX10_follow_150 rfl
theorem sX10_follow_151 (hs : shk r = (10, 0)) : Wp mX10_follow d 151 L (.ref r :: S) M N P Q = Wp mX10_follow d 154 L (.ref (P r 1) :: S) M N P Q := wp_getfield rfl dX10_follow_151 rfl rfl hs rfl
theorem sX10_follow_154 (hs : shk r = (3, 0)) : Wp mX10_follow d 154 L (.ref r :: S) M N P Q = Wp mX10_follow d 157 L (.ref (P r 2) :: S) M N P Q := wp_getfield rfl dX10_follow_154 rfl rfl hs rfl
theorem sX10_follow_157 : Wp mX10_follow d 157 (a0 :: a1 :: a2 :: a3 :: a4 :: a5 :: a6 :: .int x :: L) S M N P Q = Wp mX10_follow d 159 (a0 :: a1 :: a2 :: a3 :: a4 :: a5 :: a6 :: .int x :: L) (.int x :: S) M N P Q := wp_iload rfl dX10_follow_157 rfl
theorem sX10_follow_159 (hs : (shk r).1 = 100) : Wp mX10_follow d 159 L (.int j :: .ref r :: S) M N P Q = (vp_in j (shk r).2 ∧ Wp mX10_follow d 160 L (.int (M r j.toNatClampNeg) :: S) M N P Q) := wp_iaload rfl dX10_follow_159 (kd hs)
theorem sX10_follow_160 (hs : shk r = (10, 0)) : Wp mX10_follow d 160 L (.int x :: .ref r :: S) M N P Q = Wp mX10_follow d 163 L S (up2 M r 2 x) N P Q := wp_putI rfl dX10_follow_160 rfl rfl hs rfl ⟨_, _, _, _, rfl, by decide, rfl, tyX10_ok 2 (by decide), rfl, rfl⟩
theorem sX10_follow_163 : Wp mX10_follow d 163 (.ref r :: L) S M N P Q = Wp mX10_follow d 164 (.ref r :: L) (.ref r :: S) M N P Q := wp_aload_n rfl dX10_follow_163 rfl
theorem sX10_follow_164 (hs : shk r = (10, 0)) : Wp mX10_follow d 164 L (.ref r :: S) M N P Q = Wp mX10_follow d 167 L (.ref (P r 1) :: S) M N P Q := wp_getfield rfl dX10_follow_164 rfl rfl hs rfl
theorem sX10_follow_167 (hs : shk r = (3, 0)) : Wp mX10_follow d 167 L (.ref r :: S) M N P Q = Wp mX10_follow d 170 L (.ref (P r 3) :: S) M N P Q := wp_getfield rfl dX10_follow_167 rfl rfl hs rfl
theorem sX10_follow_170 : Wp mX10_follow d 170 (a0 :: a1 :: a2 :: a3 :: a4 :: a5 :: a6 :: .int x :: L) S M N P Q = Wp mX10_follow d 172 (a0 :: a1 :: a2 :: a3 :: a4 :: a5 :: a6 :: .int x :: L) (.int x :: S) M N P Q := wp_iload rfl dX10_follow_170 rfl
theorem sX10_follow_172 (hs : (shk r).1 = 100) : Wp mX10_follow d 172 L (.int j :: .ref r :: S) M N P Q = (vp_in j (shk r).2 ∧ Wp mX10_follow d 173 L (.int (M r j.toNatClampNeg) :: S) M N P Q) := wp_iaload rfl dX10_follow_172 (kd hs)
theorem sX10_follow_173 (hn : nl a4 = true) : Wp mX10_follow d 173 (a0 :: a1 :: a2 :: a3 :: a4 :: a5 :: L) (.int x :: S) M N P Q = Wp mX10_follow d 175 (a0 :: a1 :: a2 :: a3 :: a4 :: .int x :: L) S M N P Q := wp_istore rfl dX10_follow_173 (lenGt5 ..) (okst5 hn) rfl
theorem sX10_follow_175 (hn : nl a5 = true) : Wp mX10_follow d 175 (a0 :: a1 :: a2 :: a3 :: a4 :: a5 :: .int x :: L) S M N P Q = Wp mX10_follow d 178 (a0 :: a1 :: a2 :: a3 :: a4 :: a5 :: .int (x + 1) :: L) S M N P Q := wp_iinc rfl dX10_follow_175 rfl rfl (okst6 hn) rfl
theorem sX10_follow_178 : Wp mX10_follow d 178 L S M N P Q = Wp mX10_follow d 49 L S M N P Q := wp_goto rfl dX10_follow_178 rfl
theorem sX10_follow_181 : Wp mX10_follow d 181 L [] M N P Q = Q none M N P := wp_vret rfl dX10_follow_181 rfl
theorem sX10_movesHouse_0 : Wp mX10_movesHouse d 0 (.ref r :: L) S M N P Q = Wp mX10_movesHouse d 1 (.ref r :: L) (.ref r :: S) M N P Q := wp_aload_n rfl dX10_movesHouse_0 rfl
theorem sX10_movesHouse_1 (hs : shk r = (10, 0)) : Wp mX10_movesHouse d 1 L (.ref r :: S) M N P Q = Wp mX10_movesHouse d 4 L (.ref (P r 1) :: S) M N P Q := wp_getfield rfl dX10_movesHouse_1 rfl rfl hs rfl
theorem sX10_movesHouse_4 : Wp mX10_movesHouse d 4 (a0 :: .int x :: L) S M N P Q = Wp mX10_movesHouse d 5 (a0 :: .int x :: L) (.int x :: S) M N P Q := wp_iload_n rfl dX10_movesHouse_4 rfl
theorem sX10_movesHouse_5 : Wp mX10_movesHouse d 5 (a0 :: a1 :: .int x :: L) S M N P Q = Wp mX10_movesHouse d 6 (a0 :: a1 :: .int x :: L) (.int x :: S) M N P Q := wp_iload_n rfl dX10_movesHouse_5 rfl
theorem sX10_movesHouse_6 {x0 : Int32} {x1 : Int32} (hs : shk r = (3, 0)) (hS : stk S ≤ 8) : Wp mX10_movesHouse (d + 1) 6 L (.int x1 :: .int x0 :: .ref r :: S) M N P Q = Wp mX3_countsOn d 0 [.ref r, .int x0, .int x1] [] M N P (fun v M' N' P' => Wp mX10_movesHouse (d + 1) 9 L (v.toList ++ S) M' N' P' Q) := wp_callV (As := [.int x0, .int x1]) rfl dX10_movesHouse_6 rfl rfl (Or.inl ⟨_, _, _, hs, rfl⟩) rfl ⟨rfl, Nat.le_of_ble_eq_true rfl, Nat.le_of_ble_eq_true rfl⟩ rfl hS
theorem sX10_movesHouse_9 : Wp mX10_movesHouse d 9 L (.int x :: S) M N P Q = (if x = 0 then Wp mX10_movesHouse d 32 L S M N P Q else Wp mX10_movesHouse d 12 L S M N P Q) := wp_if_eq rfl dX10_movesHouse_9 rfl
theorem sX10_movesHouse_12 : Wp mX10_movesHouse d 12 (.ref r :: L) S M N P Q = Wp mX10_movesHouse d 13 (.ref r :: L) (.ref r :: S) M N P Q := wp_aload_n rfl dX10_movesHouse_12 rfl
theorem sX10_movesHouse_13 (hs : shk r = (10, 0)) : Wp mX10_movesHouse d 13 L (.ref r :: S) M N P Q = Wp mX10_movesHouse d 16 L (.ref (P r 1) :: S) M N P Q := wp_getfield rfl dX10_movesHouse_13 rfl rfl hs rfl
theorem sX10_movesHouse_16 (hs : shk r = (3, 0)) : Wp mX10_movesHouse d 16 L (.ref r :: S) M N P Q = Wp mX10_movesHouse d 19 L (.ref (P r 1) :: S) M N P Q := wp_getfield rfl dX10_movesHouse_16 rfl rfl hs rfl
theorem sX10_movesHouse_19 : Wp mX10_movesHouse d 19 (a0 :: .int x :: L) S M N P Q = Wp mX10_movesHouse d 20 (a0 :: .int x :: L) (.int x :: S) M N P Q := wp_iload_n rfl dX10_movesHouse_19 rfl
theorem sX10_movesHouse_20 (hs : (shk r).1 = 100) : Wp mX10_movesHouse d 20 L (.int j :: .ref r :: S) M N P Q = (vp_in j (shk r).2 ∧ Wp mX10_movesHouse d 21 L (.int (M r j.toNatClampNeg) :: S) M N P Q) := wp_iaload rfl dX10_movesHouse_20 (kd hs)
theorem sX10_movesHouse_21 : Wp mX10_movesHouse d 21 (.ref r :: L) S M N P Q = Wp mX10_movesHouse d 22 (.ref r :: L) (.ref r :: S) M N P Q := wp_aload_n rfl dX10_movesHouse_21 rfl
theorem sX10_movesHouse_22 (hs : shk r = (10, 0)) : Wp mX10_movesHouse d 22 L (.ref r :: S) M N P Q = Wp mX10_movesHouse d 25 L (.int (M r 2) :: S) M N P Q := wp_getfield rfl dX10_movesHouse_22 rfl rfl hs rfl
theorem sX10_movesHouse_25 : Wp mX10_movesHouse d 25 L (.int z :: .int x :: S) M N P Q = (if x = z then Wp mX10_movesHouse d 28 L S M N P Q else Wp mX10_movesHouse d 32 L S M N P Q) := wp_icmp_ne rfl dX10_movesHouse_25 rfl
theorem sX10_movesHouse_28 : Wp mX10_movesHouse d 28 L S M N P Q = Wp mX10_movesHouse d 29 L (.int 1 :: S) M N P Q := wp_iconst rfl dX10_movesHouse_28 rfl
theorem sX10_movesHouse_29 : Wp mX10_movesHouse d 29 L S M N P Q = Wp mX10_movesHouse d 33 L S M N P Q := wp_goto rfl dX10_movesHouse_29 rfl
theorem sX10_movesHouse_32 : Wp mX10_movesHouse d 32 L S M N P Q = Wp mX10_movesHouse d 33 L (.int 0 :: S) M N P Q := wp_iconst rfl dX10_movesHouse_32 rfl
theorem sX10_movesHouse_33 (hb : bit x) : Wp mX10_movesHouse d 33 L [.int x] M N P Q = Q (some (.int x)) M N P := wp_iret rfl dX10_movesHouse_33 rfl (bit_n hb)
end SS1
