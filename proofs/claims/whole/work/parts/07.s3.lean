section SS3
variable {d : Nat} {a0 a1 a2 a3 a4 a5 a6 a7 a8 a9 a10 a11 : Value} {L S : List Value} {M : Mt} {N : Nt} {P : Pt'} {Q : Qt} {x z j : Int32} {lx lz : Int64} {r r2 c n : Nat}
theorem sX12_isPerson_0 : Wp mX12_isPerson d 0 (a0 :: .int x :: L) S M N P Q = Wp mX12_isPerson d 1 (a0 :: .int x :: L) (.int x :: S) M N P Q := wp_iload_n rfl dX12_isPerson_0 rfl
theorem sX12_isPerson_1 : Wp mX12_isPerson d 1 L (.int x :: S) M N P Q = (if x < 0 then Wp mX12_isPerson d 16 L S M N P Q else Wp mX12_isPerson d 4 L S M N P Q) := wp_if_lt rfl dX12_isPerson_1 rfl
theorem sX12_isPerson_4 : Wp mX12_isPerson d 4 (a0 :: .int x :: L) S M N P Q = Wp mX12_isPerson d 5 (a0 :: .int x :: L) (.int x :: S) M N P Q := wp_iload_n rfl dX12_isPerson_4 rfl
theorem sX12_isPerson_5 : Wp mX12_isPerson d 5 (.ref r :: L) S M N P Q = Wp mX12_isPerson d 6 (.ref r :: L) (.ref r :: S) M N P Q := wp_aload_n rfl dX12_isPerson_5 rfl
theorem sX12_isPerson_6 (hs : shk r = (12, 0)) : Wp mX12_isPerson d 6 L (.ref r :: S) M N P Q = Wp mX12_isPerson d 9 L (.int (M r 6) :: S) M N P Q := wp_getfield rfl dX12_isPerson_6 rfl rfl hs rfl
theorem sX12_isPerson_9 : Wp mX12_isPerson d 9 L (.int z :: .int x :: S) M N P Q = (if z ≤ x then Wp mX12_isPerson d 16 L S M N P Q else Wp mX12_isPerson d 12 L S M N P Q) := wp_icmp_ge rfl dX12_isPerson_9 rfl
theorem sX12_isPerson_12 : Wp mX12_isPerson d 12 L S M N P Q = Wp mX12_isPerson d 13 L (.int 1 :: S) M N P Q := wp_iconst rfl dX12_isPerson_12 rfl
theorem sX12_isPerson_13 : Wp mX12_isPerson d 13 L S M N P Q = Wp mX12_isPerson d 17 L S M N P Q := wp_goto rfl dX12_isPerson_13 rfl
theorem sX12_isPerson_16 : Wp mX12_isPerson d 16 L S M N P Q = Wp mX12_isPerson d 17 L (.int 0 :: S) M N P Q := wp_iconst rfl dX12_isPerson_16 rfl
theorem sX12_isPerson_17 (hb : bit x) : Wp mX12_isPerson d 17 L [.int x] M N P Q = Q (some (.int x)) M N P := wp_iret rfl dX12_isPerson_17 rfl (bit_n hb)
theorem sX12_isHouse_0 : Wp mX12_isHouse d 0 (a0 :: .int x :: L) S M N P Q = Wp mX12_isHouse d 1 (a0 :: .int x :: L) (.int x :: S) M N P Q := wp_iload_n rfl dX12_isHouse_0 rfl
theorem sX12_isHouse_1 : Wp mX12_isHouse d 1 L (.int x :: S) M N P Q = (if x < 0 then Wp mX12_isHouse d 16 L S M N P Q else Wp mX12_isHouse d 4 L S M N P Q) := wp_if_lt rfl dX12_isHouse_1 rfl
theorem sX12_isHouse_4 : Wp mX12_isHouse d 4 (a0 :: .int x :: L) S M N P Q = Wp mX12_isHouse d 5 (a0 :: .int x :: L) (.int x :: S) M N P Q := wp_iload_n rfl dX12_isHouse_4 rfl
theorem sX12_isHouse_5 : Wp mX12_isHouse d 5 (.ref r :: L) S M N P Q = Wp mX12_isHouse d 6 (.ref r :: L) (.ref r :: S) M N P Q := wp_aload_n rfl dX12_isHouse_5 rfl
theorem sX12_isHouse_6 (hs : shk r = (12, 0)) : Wp mX12_isHouse d 6 L (.ref r :: S) M N P Q = Wp mX12_isHouse d 9 L (.int (M r 7) :: S) M N P Q := wp_getfield rfl dX12_isHouse_6 rfl rfl hs rfl
theorem sX12_isHouse_9 : Wp mX12_isHouse d 9 L (.int z :: .int x :: S) M N P Q = (if z ≤ x then Wp mX12_isHouse d 16 L S M N P Q else Wp mX12_isHouse d 12 L S M N P Q) := wp_icmp_ge rfl dX12_isHouse_9 rfl
theorem sX12_isHouse_12 : Wp mX12_isHouse d 12 L S M N P Q = Wp mX12_isHouse d 13 L (.int 1 :: S) M N P Q := wp_iconst rfl dX12_isHouse_12 rfl
theorem sX12_isHouse_13 : Wp mX12_isHouse d 13 L S M N P Q = Wp mX12_isHouse d 17 L S M N P Q := wp_goto rfl dX12_isHouse_13 rfl
theorem sX12_isHouse_16 : Wp mX12_isHouse d 16 L S M N P Q = Wp mX12_isHouse d 17 L (.int 0 :: S) M N P Q := wp_iconst rfl dX12_isHouse_16 rfl
theorem sX12_isHouse_17 (hb : bit x) : Wp mX12_isHouse d 17 L [.int x] M N P Q = Q (some (.int x)) M N P := wp_iret rfl dX12_isHouse_17 rfl (bit_n hb)
theorem sX12_isDay_0 : Wp mX12_isDay d 0 (.int x :: L) S M N P Q = Wp mX12_isDay d 1 (.int x :: L) (.int x :: S) M N P Q := wp_iload_n rfl dX12_isDay_0 rfl
theorem sX12_isDay_1 : Wp mX12_isDay d 1 L (.int x :: S) M N P Q = (if x < 0 then Wp mX12_isDay d 14 L S M N P Q else Wp mX12_isDay d 4 L S M N P Q) := wp_if_lt rfl dX12_isDay_1 rfl
theorem sX12_isDay_4 : Wp mX12_isDay d 4 (.int x :: L) S M N P Q = Wp mX12_isDay d 5 (.int x :: L) (.int x :: S) M N P Q := wp_iload_n rfl dX12_isDay_4 rfl
theorem sX12_isDay_5 : Wp mX12_isDay d 5 L S M N P Q = Wp mX12_isDay d 7 L (.int (36499) :: S) M N P Q := wp_ldc rfl dX12_isDay_5 rfl rfl
theorem sX12_isDay_7 : Wp mX12_isDay d 7 L (.int z :: .int x :: S) M N P Q = (if z < x then Wp mX12_isDay d 14 L S M N P Q else Wp mX12_isDay d 10 L S M N P Q) := wp_icmp_gt rfl dX12_isDay_7 rfl
theorem sX12_isDay_10 : Wp mX12_isDay d 10 L S M N P Q = Wp mX12_isDay d 11 L (.int 1 :: S) M N P Q := wp_iconst rfl dX12_isDay_10 rfl
theorem sX12_isDay_11 : Wp mX12_isDay d 11 L S M N P Q = Wp mX12_isDay d 15 L S M N P Q := wp_goto rfl dX12_isDay_11 rfl
theorem sX12_isDay_14 : Wp mX12_isDay d 14 L S M N P Q = Wp mX12_isDay d 15 L (.int 0 :: S) M N P Q := wp_iconst rfl dX12_isDay_14 rfl
theorem sX12_isDay_15 (hb : bit x) : Wp mX12_isDay d 15 L [.int x] M N P Q = Q (some (.int x)) M N P := wp_iret rfl dX12_isDay_15 rfl (bit_n hb)
theorem sX12_isSum_0 : Wp mX12_isSum d 0 (.int x :: L) S M N P Q = Wp mX12_isSum d 1 (.int x :: L) (.int x :: S) M N P Q := wp_iload_n rfl dX12_isSum_0 rfl
theorem sX12_isSum_1 : Wp mX12_isSum d 1 L (.int x :: S) M N P Q = (if x < 0 then Wp mX12_isSum d 14 L S M N P Q else Wp mX12_isSum d 4 L S M N P Q) := wp_if_lt rfl dX12_isSum_1 rfl
theorem sX12_isSum_4 : Wp mX12_isSum d 4 (.int x :: L) S M N P Q = Wp mX12_isSum d 5 (.int x :: L) (.int x :: S) M N P Q := wp_iload_n rfl dX12_isSum_4 rfl
theorem sX12_isSum_5 : Wp mX12_isSum d 5 L S M N P Q = Wp mX12_isSum d 7 L (.int (1000000) :: S) M N P Q := wp_ldc rfl dX12_isSum_5 rfl rfl
theorem sX12_isSum_7 : Wp mX12_isSum d 7 L (.int z :: .int x :: S) M N P Q = (if z < x then Wp mX12_isSum d 14 L S M N P Q else Wp mX12_isSum d 10 L S M N P Q) := wp_icmp_gt rfl dX12_isSum_7 rfl
theorem sX12_isSum_10 : Wp mX12_isSum d 10 L S M N P Q = Wp mX12_isSum d 11 L (.int 1 :: S) M N P Q := wp_iconst rfl dX12_isSum_10 rfl
theorem sX12_isSum_11 : Wp mX12_isSum d 11 L S M N P Q = Wp mX12_isSum d 15 L S M N P Q := wp_goto rfl dX12_isSum_11 rfl
theorem sX12_isSum_14 : Wp mX12_isSum d 14 L S M N P Q = Wp mX12_isSum d 15 L (.int 0 :: S) M N P Q := wp_iconst rfl dX12_isSum_14 rfl
theorem sX12_isSum_15 (hb : bit x) : Wp mX12_isSum d 15 L [.int x] M N P Q = Q (some (.int x)) M N P := wp_iret rfl dX12_isSum_15 rfl (bit_n hb)
theorem sX12_person_0 : Wp mX12_person d 0 (a0 :: .int x :: L) S M N P Q = Wp mX12_person d 1 (a0 :: .int x :: L) (.int x :: S) M N P Q := wp_iload_n rfl dX12_person_0 rfl
theorem sX12_person_1 : Wp mX12_person d 1 L S M N P Q = Wp mX12_person d 2 L (.int (-1) :: S) M N P Q := wp_iconst rfl dX12_person_1 rfl
theorem sX12_person_2 : Wp mX12_person d 2 L (.int z :: .int x :: S) M N P Q = (if x < z then Wp mX12_person d 35 L S M N P Q else Wp mX12_person d 5 L S M N P Q) := wp_icmp_lt rfl dX12_person_2 rfl
theorem sX12_person_5 : Wp mX12_person d 5 (a0 :: .int x :: L) S M N P Q = Wp mX12_person d 6 (a0 :: .int x :: L) (.int x :: S) M N P Q := wp_iload_n rfl dX12_person_5 rfl
theorem sX12_person_6 : Wp mX12_person d 6 (.ref r :: L) S M N P Q = Wp mX12_person d 7 (.ref r :: L) (.ref r :: S) M N P Q := wp_aload_n rfl dX12_person_6 rfl
theorem sX12_person_7 (hs : shk r = (12, 0)) : Wp mX12_person d 7 L (.ref r :: S) M N P Q = Wp mX12_person d 10 L (.int (M r 6) :: S) M N P Q := wp_getfield rfl dX12_person_7 rfl rfl hs rfl
theorem sX12_person_10 : Wp mX12_person d 10 L (.int z :: .int x :: S) M N P Q = (if z ≤ x then Wp mX12_person d 35 L S M N P Q else Wp mX12_person d 13 L S M N P Q) := wp_icmp_ge rfl dX12_person_10 rfl
theorem sX12_person_13 : Wp mX12_person d 13 (a0 :: a1 :: .int x :: L) S M N P Q = Wp mX12_person d 14 (a0 :: a1 :: .int x :: L) (.int x :: S) M N P Q := wp_iload_n rfl dX12_person_13 rfl
theorem sX12_person_14 : Wp mX12_person d 14 L S M N P Q = Wp mX12_person d 15 L (.int (-1) :: S) M N P Q := wp_iconst rfl dX12_person_14 rfl
theorem sX12_person_15 : Wp mX12_person d 15 L (.int z :: .int x :: S) M N P Q = (if x < z then Wp mX12_person d 35 L S M N P Q else Wp mX12_person d 18 L S M N P Q) := wp_icmp_lt rfl dX12_person_15 rfl
theorem sX12_person_18 : Wp mX12_person d 18 (a0 :: a1 :: .int x :: L) S M N P Q = Wp mX12_person d 19 (a0 :: a1 :: .int x :: L) (.int x :: S) M N P Q := wp_iload_n rfl dX12_person_18 rfl
theorem sX12_person_19 : Wp mX12_person d 19 (.ref r :: L) S M N P Q = Wp mX12_person d 20 (.ref r :: L) (.ref r :: S) M N P Q := wp_aload_n rfl dX12_person_19 rfl
theorem sX12_person_20 (hs : shk r = (12, 0)) : Wp mX12_person d 20 L (.ref r :: S) M N P Q = Wp mX12_person d 23 L (.int (M r 6) :: S) M N P Q := wp_getfield rfl dX12_person_20 rfl rfl hs rfl
theorem sX12_person_23 : Wp mX12_person d 23 L (.int z :: .int x :: S) M N P Q = (if z ≤ x then Wp mX12_person d 35 L S M N P Q else Wp mX12_person d 26 L S M N P Q) := wp_icmp_ge rfl dX12_person_23 rfl
theorem sX12_person_26 : Wp mX12_person d 26 (.ref r :: L) S M N P Q = Wp mX12_person d 27 (.ref r :: L) (.ref r :: S) M N P Q := wp_aload_n rfl dX12_person_26 rfl
theorem sX12_person_27 (hs : shk r = (12, 0)) : Wp mX12_person d 27 L (.ref r :: S) M N P Q = Wp mX12_person d 30 L (.int (M r 6) :: S) M N P Q := wp_getfield rfl dX12_person_27 rfl rfl hs rfl
theorem sX12_person_30 : Wp mX12_person d 30 L S M N P Q = Wp mX12_person d 32 L (.int 24 :: S) M N P Q := wp_bipush rfl dX12_person_30 rfl
theorem sX12_person_32 : Wp mX12_person d 32 L (.int z :: .int x :: S) M N P Q = (if x = z then Wp mX12_person d 35 L S M N P Q else Wp mX12_person d 37 L S M N P Q) := wp_icmp_ne rfl dX12_person_32 rfl
theorem sX12_person_35 : Wp mX12_person d 35 L S M N P Q = Wp mX12_person d 36 L (.int (-1) :: S) M N P Q := wp_iconst rfl dX12_person_35 rfl
theorem sX12_person_36 : Wp mX12_person d 36 L [.int x] M N P Q = Q (some (.int x)) M N P := wp_iret rfl dX12_person_36 rfl rfl
theorem sX12_person_37 : Wp mX12_person d 37 (.ref r :: L) S M N P Q = Wp mX12_person d 38 (.ref r :: L) (.ref r :: S) M N P Q := wp_aload_n rfl dX12_person_37 rfl
theorem sX12_person_38 (hs : shk r = (12, 0)) : Wp mX12_person d 38 L (.ref r :: S) M N P Q = Wp mX12_person d 41 L (.ref (P r 0) :: S) M N P Q := wp_getfield rfl dX12_person_38 rfl rfl hs rfl
theorem sX12_person_41 : Wp mX12_person d 41 (.ref r :: L) S M N P Q = Wp mX12_person d 42 (.ref r :: L) (.ref r :: S) M N P Q := wp_aload_n rfl dX12_person_41 rfl
theorem sX12_person_42 (hs : shk r = (12, 0)) : Wp mX12_person d 42 L (.ref r :: S) M N P Q = Wp mX12_person d 45 L (.int (M r 6) :: S) M N P Q := wp_getfield rfl dX12_person_42 rfl rfl hs rfl
theorem sX12_person_45 : Wp mX12_person d 45 (a0 :: .int x :: L) S M N P Q = Wp mX12_person d 46 (a0 :: .int x :: L) (.int x :: S) M N P Q := wp_iload_n rfl dX12_person_45 rfl
theorem sX12_person_46 (hs : (shk r).1 = 100) : Wp mX12_person d 46 L (.int x :: .int j :: .ref r :: S) M N P Q = (vp_in j (shk r).2 ∧ Wp mX12_person d 47 L S (up2 M r j.toNatClampNeg x) N P Q) := wp_iastore rfl dX12_person_46 (kd hs)
theorem sX12_person_47 : Wp mX12_person d 47 (.ref r :: L) S M N P Q = Wp mX12_person d 48 (.ref r :: L) (.ref r :: S) M N P Q := wp_aload_n rfl dX12_person_47 rfl
theorem sX12_person_48 (hs : shk r = (12, 0)) : Wp mX12_person d 48 L (.ref r :: S) M N P Q = Wp mX12_person d 51 L (.ref (P r 1) :: S) M N P Q := wp_getfield rfl dX12_person_48 rfl rfl hs rfl
theorem sX12_person_51 : Wp mX12_person d 51 (.ref r :: L) S M N P Q = Wp mX12_person d 52 (.ref r :: L) (.ref r :: S) M N P Q := wp_aload_n rfl dX12_person_51 rfl
theorem sX12_person_52 (hs : shk r = (12, 0)) : Wp mX12_person d 52 L (.ref r :: S) M N P Q = Wp mX12_person d 55 L (.int (M r 6) :: S) M N P Q := wp_getfield rfl dX12_person_52 rfl rfl hs rfl
theorem sX12_person_55 : Wp mX12_person d 55 (a0 :: a1 :: .int x :: L) S M N P Q = Wp mX12_person d 56 (a0 :: a1 :: .int x :: L) (.int x :: S) M N P Q := wp_iload_n rfl dX12_person_55 rfl
theorem sX12_person_56 (hs : (shk r).1 = 100) : Wp mX12_person d 56 L (.int x :: .int j :: .ref r :: S) M N P Q = (vp_in j (shk r).2 ∧ Wp mX12_person d 57 L S (up2 M r j.toNatClampNeg x) N P Q) := wp_iastore rfl dX12_person_56 (kd hs)
theorem sX12_person_57 : Wp mX12_person d 57 (.ref r :: L) S M N P Q = Wp mX12_person d 58 (.ref r :: L) (.ref r :: S) M N P Q := wp_aload_n rfl dX12_person_57 rfl
theorem sX12_person_58 (hs : shk r = (12, 0)) : Wp mX12_person d 58 L (.ref r :: S) M N P Q = Wp mX12_person d 61 L (.ref (P r 2) :: S) M N P Q := wp_getfield rfl dX12_person_58 rfl rfl hs rfl
theorem sX12_person_61 : Wp mX12_person d 61 (.ref r :: L) S M N P Q = Wp mX12_person d 62 (.ref r :: L) (.ref r :: S) M N P Q := wp_aload_n rfl dX12_person_61 rfl
theorem sX12_person_62 (hs : shk r = (12, 0)) : Wp mX12_person d 62 L (.ref r :: S) M N P Q = Wp mX12_person d 65 L (.int (M r 6) :: S) M N P Q := wp_getfield rfl dX12_person_62 rfl rfl hs rfl
theorem sX12_person_65 : Wp mX12_person d 65 L S M N P Q = Wp mX12_person d 66 L (.int (-1) :: S) M N P Q := wp_iconst rfl dX12_person_65 rfl
theorem sX12_person_66 (hs : (shk r).1 = 100) : Wp mX12_person d 66 L (.int x :: .int j :: .ref r :: S) M N P Q = (vp_in j (shk r).2 ∧ Wp mX12_person d 67 L S (up2 M r j.toNatClampNeg x) N P Q) := wp_iastore rfl dX12_person_66 (kd hs)
theorem sX12_person_67 : Wp mX12_person d 67 (.ref r :: L) S M N P Q = Wp mX12_person d 68 (.ref r :: L) (.ref r :: S) M N P Q := wp_aload_n rfl dX12_person_67 rfl
theorem sX12_person_68 (hv : a0.category = 1) : Wp mX12_person d 68 L (a0 :: S) M N P Q = Wp mX12_person d 69 L (a0 :: a0 :: S) M N P Q := wp_dup rfl dX12_person_68 hv
theorem sX12_person_69 (hs : shk r = (12, 0)) : Wp mX12_person d 69 L (.ref r :: S) M N P Q = Wp mX12_person d 72 L (.int (M r 6) :: S) M N P Q := wp_getfield rfl dX12_person_69 rfl rfl hs rfl
theorem sX12_person_72 : Wp mX12_person d 72 L S M N P Q = Wp mX12_person d 73 L (.int 1 :: S) M N P Q := wp_iconst rfl dX12_person_72 rfl
theorem sX12_person_73 : Wp mX12_person d 73 L (.int z :: .int x :: S) M N P Q = Wp mX12_person d 74 L (.int (x + z) :: S) M N P Q := wp_iadd rfl dX12_person_73
theorem sX12_person_74 (hs : shk r = (12, 0)) : Wp mX12_person d 74 L (.int x :: .ref r :: S) M N P Q = Wp mX12_person d 77 L S (up2 M r 6 x) N P Q := wp_putI rfl dX12_person_74 rfl rfl hs rfl ⟨_, _, _, _, rfl, by decide, rfl, tyX12_ok 6 (by decide), rfl, rfl⟩
theorem sX12_person_77 : Wp mX12_person d 77 (.ref r :: L) S M N P Q = Wp mX12_person d 78 (.ref r :: L) (.ref r :: S) M N P Q := wp_aload_n rfl dX12_person_77 rfl
theorem sX12_person_78 (hs : shk r = (12, 0)) : Wp mX12_person d 78 L (.ref r :: S) M N P Q = Wp mX12_person d 81 L (.int (M r 6) :: S) M N P Q := wp_getfield rfl dX12_person_78 rfl rfl hs rfl
theorem sX12_person_81 : Wp mX12_person d 81 L S M N P Q = Wp mX12_person d 82 L (.int 1 :: S) M N P Q := wp_iconst rfl dX12_person_81 rfl
theorem sX12_person_82 : Wp mX12_person d 82 L (.int z :: .int x :: S) M N P Q = Wp mX12_person d 83 L (.int (x - z) :: S) M N P Q := wp_isub rfl dX12_person_82
theorem sX12_person_83 : Wp mX12_person d 83 L [.int x] M N P Q = Q (some (.int x)) M N P := wp_iret rfl dX12_person_83 rfl rfl
theorem sX12_dead_0 : Wp mX12_dead d 0 (.ref r :: L) S M N P Q = Wp mX12_dead d 1 (.ref r :: L) (.ref r :: S) M N P Q := wp_aload_n rfl dX12_dead_0 rfl
theorem sX12_dead_1 : Wp mX12_dead d 1 (a0 :: .int x :: L) S M N P Q = Wp mX12_dead d 2 (a0 :: .int x :: L) (.int x :: S) M N P Q := wp_iload_n rfl dX12_dead_1 rfl
theorem sX12_dead_2 {x0 : Int32} (hs : shk r = (12, 0)) (hS : stk S ≤ 8) : Wp mX12_dead (d + 1) 2 L (.int x0 :: .ref r :: S) M N P Q = Wp mX12_isPerson d 0 [.ref r, .int x0] [] M N P (fun v M' N' P' => Wp mX12_dead (d + 1) 5 L (v.toList ++ S) M' N' P' Q) := wp_callV (As := [.int x0]) rfl dX12_dead_2 rfl rfl (Or.inl ⟨_, _, _, hs, rfl⟩) rfl ⟨rfl, Nat.le_of_ble_eq_true rfl, Nat.le_of_ble_eq_true rfl⟩ rfl hS
theorem sX12_dead_5 : Wp mX12_dead d 5 L (.int x :: S) M N P Q = (if x = 0 then Wp mX12_dead d 24 L S M N P Q else Wp mX12_dead d 8 L S M N P Q) := wp_if_eq rfl dX12_dead_5 rfl
theorem sX12_dead_8 : Wp mX12_dead d 8 (.ref r :: L) S M N P Q = Wp mX12_dead d 9 (.ref r :: L) (.ref r :: S) M N P Q := wp_aload_n rfl dX12_dead_8 rfl
theorem sX12_dead_9 (hs : shk r = (12, 0)) : Wp mX12_dead d 9 L (.ref r :: S) M N P Q = Wp mX12_dead d 12 L (.ref (P r 2) :: S) M N P Q := wp_getfield rfl dX12_dead_9 rfl rfl hs rfl
theorem sX12_dead_12 : Wp mX12_dead d 12 (a0 :: .int x :: L) S M N P Q = Wp mX12_dead d 13 (a0 :: .int x :: L) (.int x :: S) M N P Q := wp_iload_n rfl dX12_dead_12 rfl
theorem sX12_dead_13 (hs : (shk r).1 = 100) : Wp mX12_dead d 13 L (.int j :: .ref r :: S) M N P Q = (vp_in j (shk r).2 ∧ Wp mX12_dead d 14 L (.int (M r j.toNatClampNeg) :: S) M N P Q) := wp_iaload rfl dX12_dead_13 (kd hs)
theorem sX12_dead_14 : Wp mX12_dead d 14 L (.int x :: S) M N P Q = (if 0 ≤ x then Wp mX12_dead d 24 L S M N P Q else Wp mX12_dead d 17 L S M N P Q) := wp_if_ge rfl dX12_dead_14 rfl
theorem sX12_dead_17 : Wp mX12_dead d 17 (a0 :: a1 :: .int x :: L) S M N P Q = Wp mX12_dead d 18 (a0 :: a1 :: .int x :: L) (.int x :: S) M N P Q := wp_iload_n rfl dX12_dead_17 rfl
theorem sX12_dead_18 {x0 : Int32} (hS : stk S ≤ 8) : Wp mX12_dead (d + 1) 18 L (.int x0 :: S) M N P Q = Wp mX12_isDay d 0 [.int x0] [] M N P (fun v M' N' P' => Wp mX12_dead (d + 1) 21 L (v.toList ++ S) M' N' P' Q) := wp_callS (As := [.int x0]) rfl dX12_dead_18 rfl rfl rfl ⟨rfl, Nat.le_of_ble_eq_true rfl, Nat.le_of_ble_eq_true rfl⟩ rfl hS
theorem sX12_dead_21 : Wp mX12_dead d 21 L (.int x :: S) M N P Q = (if x = 0 then Wp mX12_dead d 24 L S M N P Q else Wp mX12_dead d 26 L S M N P Q) := wp_if_ne rfl dX12_dead_21 rfl
theorem sX12_dead_24 : Wp mX12_dead d 24 L S M N P Q = Wp mX12_dead d 25 L (.int 0 :: S) M N P Q := wp_iconst rfl dX12_dead_24 rfl
theorem sX12_dead_25 (hb : bit x) : Wp mX12_dead d 25 L [.int x] M N P Q = Q (some (.int x)) M N P := wp_iret rfl dX12_dead_25 rfl (bit_n hb)
theorem sX12_dead_26 : Wp mX12_dead d 26 (.ref r :: L) S M N P Q = Wp mX12_dead d 27 (.ref r :: L) (.ref r :: S) M N P Q := wp_aload_n rfl dX12_dead_26 rfl
theorem sX12_dead_27 (hs : shk r = (12, 0)) : Wp mX12_dead d 27 L (.ref r :: S) M N P Q = Wp mX12_dead d 30 L (.ref (P r 2) :: S) M N P Q := wp_getfield rfl dX12_dead_27 rfl rfl hs rfl
theorem sX12_dead_30 : Wp mX12_dead d 30 (a0 :: .int x :: L) S M N P Q = Wp mX12_dead d 31 (a0 :: .int x :: L) (.int x :: S) M N P Q := wp_iload_n rfl dX12_dead_30 rfl
theorem sX12_dead_31 : Wp mX12_dead d 31 (a0 :: a1 :: .int x :: L) S M N P Q = Wp mX12_dead d 32 (a0 :: a1 :: .int x :: L) (.int x :: S) M N P Q := wp_iload_n rfl dX12_dead_31 rfl
theorem sX12_dead_32 (hs : (shk r).1 = 100) : Wp mX12_dead d 32 L (.int x :: .int j :: .ref r :: S) M N P Q = (vp_in j (shk r).2 ∧ Wp mX12_dead d 33 L S (up2 M r j.toNatClampNeg x) N P Q) := wp_iastore rfl dX12_dead_32 (kd hs)
theorem sX12_dead_33 : Wp mX12_dead d 33 L S M N P Q = Wp mX12_dead d 34 L (.int 1 :: S) M N P Q := wp_iconst rfl dX12_dead_33 rfl
theorem sX12_dead_34 (hb : bit x) : Wp mX12_dead d 34 L [.int x] M N P Q = Q (some (.int x)) M N P := wp_iret rfl dX12_dead_34 rfl (bit_n hb)
theorem sX12_isDead_0 : Wp mX12_isDead d 0 (.ref r :: L) S M N P Q = Wp mX12_isDead d 1 (.ref r :: L) (.ref r :: S) M N P Q := wp_aload_n rfl dX12_isDead_0 rfl
theorem sX12_isDead_1 (hs : shk r = (12, 0)) : Wp mX12_isDead d 1 L (.ref r :: S) M N P Q = Wp mX12_isDead d 4 L (.ref (P r 2) :: S) M N P Q := wp_getfield rfl dX12_isDead_1 rfl rfl hs rfl
theorem sX12_isDead_4 : Wp mX12_isDead d 4 (a0 :: .int x :: L) S M N P Q = Wp mX12_isDead d 5 (a0 :: .int x :: L) (.int x :: S) M N P Q := wp_iload_n rfl dX12_isDead_4 rfl
theorem sX12_isDead_5 (hs : (shk r).1 = 100) : Wp mX12_isDead d 5 L (.int j :: .ref r :: S) M N P Q = (vp_in j (shk r).2 ∧ Wp mX12_isDead d 6 L (.int (M r j.toNatClampNeg) :: S) M N P Q) := wp_iaload rfl dX12_isDead_5 (kd hs)
theorem sX12_isDead_6 : Wp mX12_isDead d 6 L (.int x :: S) M N P Q = (if x < 0 then Wp mX12_isDead d 23 L S M N P Q else Wp mX12_isDead d 9 L S M N P Q) := wp_if_lt rfl dX12_isDead_6 rfl
theorem sX12_isDead_9 : Wp mX12_isDead d 9 (.ref r :: L) S M N P Q = Wp mX12_isDead d 10 (.ref r :: L) (.ref r :: S) M N P Q := wp_aload_n rfl dX12_isDead_9 rfl
theorem sX12_isDead_10 (hs : shk r = (12, 0)) : Wp mX12_isDead d 10 L (.ref r :: S) M N P Q = Wp mX12_isDead d 13 L (.ref (P r 2) :: S) M N P Q := wp_getfield rfl dX12_isDead_10 rfl rfl hs rfl
theorem sX12_isDead_13 : Wp mX12_isDead d 13 (a0 :: .int x :: L) S M N P Q = Wp mX12_isDead d 14 (a0 :: .int x :: L) (.int x :: S) M N P Q := wp_iload_n rfl dX12_isDead_13 rfl
theorem sX12_isDead_14 (hs : (shk r).1 = 100) : Wp mX12_isDead d 14 L (.int j :: .ref r :: S) M N P Q = (vp_in j (shk r).2 ∧ Wp mX12_isDead d 15 L (.int (M r j.toNatClampNeg) :: S) M N P Q) := wp_iaload rfl dX12_isDead_14 (kd hs)
theorem sX12_isDead_15 : Wp mX12_isDead d 15 (a0 :: a1 :: .int x :: L) S M N P Q = Wp mX12_isDead d 16 (a0 :: a1 :: .int x :: L) (.int x :: S) M N P Q := wp_iload_n rfl dX12_isDead_15 rfl
theorem sX12_isDead_16 : Wp mX12_isDead d 16 L (.int z :: .int x :: S) M N P Q = (if z < x then Wp mX12_isDead d 23 L S M N P Q else Wp mX12_isDead d 19 L S M N P Q) := wp_icmp_gt rfl dX12_isDead_16 rfl
theorem sX12_isDead_19 : Wp mX12_isDead d 19 L S M N P Q = Wp mX12_isDead d 20 L (.int 1 :: S) M N P Q := wp_iconst rfl dX12_isDead_19 rfl
theorem sX12_isDead_20 : Wp mX12_isDead d 20 L S M N P Q = Wp mX12_isDead d 24 L S M N P Q := wp_goto rfl dX12_isDead_20 rfl
theorem sX12_isDead_23 : Wp mX12_isDead d 23 L S M N P Q = Wp mX12_isDead d 24 L (.int 0 :: S) M N P Q := wp_iconst rfl dX12_isDead_23 rfl
theorem sX12_isDead_24 (hb : bit x) : Wp mX12_isDead d 24 L [.int x] M N P Q = Q (some (.int x)) M N P := wp_iret rfl dX12_isDead_24 rfl (bit_n hb)
theorem sX12_house_0 : Wp mX12_house d 0 (.ref r :: L) S M N P Q = Wp mX12_house d 1 (.ref r :: L) (.ref r :: S) M N P Q := wp_aload_n rfl dX12_house_0 rfl
theorem sX12_house_1 : Wp mX12_house d 1 (a0 :: .int x :: L) S M N P Q = Wp mX12_house d 2 (a0 :: .int x :: L) (.int x :: S) M N P Q := wp_iload_n rfl dX12_house_1 rfl
theorem sX12_house_2 {x0 : Int32} (hs : shk r = (12, 0)) (hS : stk S ≤ 8) : Wp mX12_house (d + 1) 2 L (.int x0 :: .ref r :: S) M N P Q = Wp mX12_isPerson d 0 [.ref r, .int x0] [] M N P (fun v M' N' P' => Wp mX12_house (d + 1) 5 L (v.toList ++ S) M' N' P' Q) := wp_callV (As := [.int x0]) rfl dX12_house_2 rfl rfl (Or.inl ⟨_, _, _, hs, rfl⟩) rfl ⟨rfl, Nat.le_of_ble_eq_true rfl, Nat.le_of_ble_eq_true rfl⟩ rfl hS
theorem sX12_house_5 : Wp mX12_house d 5 L (.int x :: S) M N P Q = (if x = 0 then Wp mX12_house d 24 L S M N P Q else Wp mX12_house d 8 L S M N P Q) := wp_if_eq rfl dX12_house_5 rfl
theorem sX12_house_8 : Wp mX12_house d 8 (a0 :: a1 :: .int x :: L) S M N P Q = Wp mX12_house d 9 (a0 :: a1 :: .int x :: L) (.int x :: S) M N P Q := wp_iload_n rfl dX12_house_8 rfl
theorem sX12_house_9 {x0 : Int32} (hS : stk S ≤ 8) : Wp mX12_house (d + 1) 9 L (.int x0 :: S) M N P Q = Wp mX12_isSum d 0 [.int x0] [] M N P (fun v M' N' P' => Wp mX12_house (d + 1) 12 L (v.toList ++ S) M' N' P' Q) := wp_callS (As := [.int x0]) rfl dX12_house_9 rfl rfl rfl ⟨rfl, Nat.le_of_ble_eq_true rfl, Nat.le_of_ble_eq_true rfl⟩ rfl hS
theorem sX12_house_12 : Wp mX12_house d 12 L (.int x :: S) M N P Q = (if x = 0 then Wp mX12_house d 24 L S M N P Q else Wp mX12_house d 15 L S M N P Q) := wp_if_eq rfl dX12_house_12 rfl
theorem sX12_house_15 : Wp mX12_house d 15 (.ref r :: L) S M N P Q = Wp mX12_house d 16 (.ref r :: L) (.ref r :: S) M N P Q := wp_aload_n rfl dX12_house_15 rfl
theorem sX12_house_16 (hs : shk r = (12, 0)) : Wp mX12_house d 16 L (.ref r :: S) M N P Q = Wp mX12_house d 19 L (.int (M r 7) :: S) M N P Q := wp_getfield rfl dX12_house_16 rfl rfl hs rfl
theorem sX12_house_19 : Wp mX12_house d 19 L S M N P Q = Wp mX12_house d 21 L (.int 8 :: S) M N P Q := wp_bipush rfl dX12_house_19 rfl
theorem sX12_house_21 : Wp mX12_house d 21 L (.int z :: .int x :: S) M N P Q = (if x = z then Wp mX12_house d 24 L S M N P Q else Wp mX12_house d 26 L S M N P Q) := wp_icmp_ne rfl dX12_house_21 rfl
theorem sX12_house_24 : Wp mX12_house d 24 L S M N P Q = Wp mX12_house d 25 L (.int (-1) :: S) M N P Q := wp_iconst rfl dX12_house_24 rfl
theorem sX12_house_25 : Wp mX12_house d 25 L [.int x] M N P Q = Q (some (.int x)) M N P := wp_iret rfl dX12_house_25 rfl rfl
theorem sX12_house_26 : Wp mX12_house d 26 (.ref r :: L) S M N P Q = Wp mX12_house d 27 (.ref r :: L) (.ref r :: S) M N P Q := wp_aload_n rfl dX12_house_26 rfl
theorem sX12_house_27 (hs : shk r = (12, 0)) : Wp mX12_house d 27 L (.ref r :: S) M N P Q = Wp mX12_house d 30 L (.ref (P r 3) :: S) M N P Q := wp_getfield rfl dX12_house_27 rfl rfl hs rfl
theorem sX12_house_30 : Wp mX12_house d 30 (.ref r :: L) S M N P Q = Wp mX12_house d 31 (.ref r :: L) (.ref r :: S) M N P Q := wp_aload_n rfl dX12_house_30 rfl
theorem sX12_house_31 (hs : shk r = (12, 0)) : Wp mX12_house d 31 L (.ref r :: S) M N P Q = Wp mX12_house d 34 L (.int (M r 7) :: S) M N P Q := wp_getfield rfl dX12_house_31 rfl rfl hs rfl
theorem sX12_house_34 : Wp mX12_house d 34 (a0 :: .int x :: L) S M N P Q = Wp mX12_house d 35 (a0 :: .int x :: L) (.int x :: S) M N P Q := wp_iload_n rfl dX12_house_34 rfl
theorem sX12_house_35 (hs : (shk r).1 = 100) : Wp mX12_house d 35 L (.int x :: .int j :: .ref r :: S) M N P Q = (vp_in j (shk r).2 ∧ Wp mX12_house d 36 L S (up2 M r j.toNatClampNeg x) N P Q) := wp_iastore rfl dX12_house_35 (kd hs)
theorem sX12_house_36 : Wp mX12_house d 36 (.ref r :: L) S M N P Q = Wp mX12_house d 37 (.ref r :: L) (.ref r :: S) M N P Q := wp_aload_n rfl dX12_house_36 rfl
theorem sX12_house_37 (hs : shk r = (12, 0)) : Wp mX12_house d 37 L (.ref r :: S) M N P Q = Wp mX12_house d 40 L (.ref (P r 4) :: S) M N P Q := wp_getfield rfl dX12_house_37 rfl rfl hs rfl
theorem sX12_house_40 : Wp mX12_house d 40 (.ref r :: L) S M N P Q = Wp mX12_house d 41 (.ref r :: L) (.ref r :: S) M N P Q := wp_aload_n rfl dX12_house_40 rfl
theorem sX12_house_41 (hs : shk r = (12, 0)) : Wp mX12_house d 41 L (.ref r :: S) M N P Q = Wp mX12_house d 44 L (.int (M r 7) :: S) M N P Q := wp_getfield rfl dX12_house_41 rfl rfl hs rfl
theorem sX12_house_44 : Wp mX12_house d 44 (a0 :: a1 :: .int x :: L) S M N P Q = Wp mX12_house d 45 (a0 :: a1 :: .int x :: L) (.int x :: S) M N P Q := wp_iload_n rfl dX12_house_44 rfl
theorem sX12_house_45 (hs : (shk r).1 = 100) : Wp mX12_house d 45 L (.int x :: .int j :: .ref r :: S) M N P Q = (vp_in j (shk r).2 ∧ Wp mX12_house d 46 L S (up2 M r j.toNatClampNeg x) N P Q) := wp_iastore rfl dX12_house_45 (kd hs)
theorem sX12_house_46 : Wp mX12_house d 46 (.ref r :: L) S M N P Q = Wp mX12_house d 47 (.ref r :: L) (.ref r :: S) M N P Q := wp_aload_n rfl dX12_house_46 rfl
theorem sX12_house_47 (hv : a0.category = 1) : Wp mX12_house d 47 L (a0 :: S) M N P Q = Wp mX12_house d 48 L (a0 :: a0 :: S) M N P Q := wp_dup rfl dX12_house_47 hv
theorem sX12_house_48 (hs : shk r = (12, 0)) : Wp mX12_house d 48 L (.ref r :: S) M N P Q = Wp mX12_house d 51 L (.int (M r 7) :: S) M N P Q := wp_getfield rfl dX12_house_48 rfl rfl hs rfl
theorem sX12_house_51 : Wp mX12_house d 51 L S M N P Q = Wp mX12_house d 52 L (.int 1 :: S) M N P Q := wp_iconst rfl dX12_house_51 rfl
theorem sX12_house_52 : Wp mX12_house d 52 L (.int z :: .int x :: S) M N P Q = Wp mX12_house d 53 L (.int (x + z) :: S) M N P Q := wp_iadd rfl dX12_house_52
theorem sX12_house_53 (hs : shk r = (12, 0)) : Wp mX12_house d 53 L (.int x :: .ref r :: S) M N P Q = Wp mX12_house d 56 L S (up2 M r 7 x) N P Q := wp_putI rfl dX12_house_53 rfl rfl hs rfl ⟨_, _, _, _, rfl, by decide, rfl, tyX12_ok 7 (by decide), rfl, rfl⟩
theorem sX12_house_56 : Wp mX12_house d 56 (.ref r :: L) S M N P Q = Wp mX12_house d 57 (.ref r :: L) (.ref r :: S) M N P Q := wp_aload_n rfl dX12_house_56 rfl
theorem sX12_house_57 (hs : shk r = (12, 0)) : Wp mX12_house d 57 L (.ref r :: S) M N P Q = Wp mX12_house d 60 L (.int (M r 7) :: S) M N P Q := wp_getfield rfl dX12_house_57 rfl rfl hs rfl
theorem sX12_house_60 : Wp mX12_house d 60 L S M N P Q = Wp mX12_house d 61 L (.int 1 :: S) M N P Q := wp_iconst rfl dX12_house_60 rfl
theorem sX12_house_61 : Wp mX12_house d 61 L (.int z :: .int x :: S) M N P Q = Wp mX12_house d 62 L (.int (x - z) :: S) M N P Q := wp_isub rfl dX12_house_61
theorem sX12_house_62 : Wp mX12_house d 62 L [.int x] M N P Q = Q (some (.int x)) M N P := wp_iret rfl dX12_house_62 rfl rfl
theorem sX12_isYear_0 : Wp mX12_isYear d 0 (.int x :: L) S M N P Q = Wp mX12_isYear d 1 (.int x :: L) (.int x :: S) M N P Q := wp_iload_n rfl dX12_isYear_0 rfl
theorem sX12_isYear_1 : Wp mX12_isYear d 1 L (.int x :: S) M N P Q = (if x < 0 then Wp mX12_isYear d 14 L S M N P Q else Wp mX12_isYear d 4 L S M N P Q) := wp_if_lt rfl dX12_isYear_1 rfl
theorem sX12_isYear_4 : Wp mX12_isYear d 4 (.int x :: L) S M N P Q = Wp mX12_isYear d 5 (.int x :: L) (.int x :: S) M N P Q := wp_iload_n rfl dX12_isYear_4 rfl
theorem sX12_isYear_5 : Wp mX12_isYear d 5 L S M N P Q = Wp mX12_isYear d 7 L (.int 100 :: S) M N P Q := wp_bipush rfl dX12_isYear_5 rfl
theorem sX12_isYear_7 : Wp mX12_isYear d 7 L (.int z :: .int x :: S) M N P Q = (if z ≤ x then Wp mX12_isYear d 14 L S M N P Q else Wp mX12_isYear d 10 L S M N P Q) := wp_icmp_ge rfl dX12_isYear_7 rfl
theorem sX12_isYear_10 : Wp mX12_isYear d 10 L S M N P Q = Wp mX12_isYear d 11 L (.int 1 :: S) M N P Q := wp_iconst rfl dX12_isYear_10 rfl
theorem sX12_isYear_11 : Wp mX12_isYear d 11 L S M N P Q = Wp mX12_isYear d 15 L S M N P Q := wp_goto rfl dX12_isYear_11 rfl
theorem sX12_isYear_14 : Wp mX12_isYear d 14 L S M N P Q = Wp mX12_isYear d 15 L (.int 0 :: S) M N P Q := wp_iconst rfl dX12_isYear_14 rfl
theorem sX12_isYear_15 (hb : bit x) : Wp mX12_isYear d 15 L [.int x] M N P Q = Q (some (.int x)) M N P := wp_iret rfl dX12_isYear_15 rfl (bit_n hb)
theorem sX12_level_0 : Wp mX12_level d 0 (a0 :: .int x :: L) S M N P Q = Wp mX12_level d 1 (a0 :: .int x :: L) (.int x :: S) M N P Q := wp_iload_n rfl dX12_level_0 rfl
theorem sX12_level_1 {x0 : Int32} (hS : stk S ≤ 8) : Wp mX12_level (d + 1) 1 L (.int x0 :: S) M N P Q = Wp mX12_isYear d 0 [.int x0] [] M N P (fun v M' N' P' => Wp mX12_level (d + 1) 4 L (v.toList ++ S) M' N' P' Q) := wp_callS (As := [.int x0]) rfl dX12_level_1 rfl rfl rfl ⟨rfl, Nat.le_of_ble_eq_true rfl, Nat.le_of_ble_eq_true rfl⟩ rfl hS
theorem sX12_level_4 : Wp mX12_level d 4 L (.int x :: S) M N P Q = (if x = 0 then Wp mX12_level d 19 L S M N P Q else Wp mX12_level d 7 L S M N P Q) := wp_if_eq rfl dX12_level_4 rfl
theorem sX12_level_7 : Wp mX12_level d 7 (a0 :: a1 :: .int x :: L) S M N P Q = Wp mX12_level d 8 (a0 :: a1 :: .int x :: L) (.int x :: S) M N P Q := wp_iload_n rfl dX12_level_7 rfl
theorem sX12_level_8 : Wp mX12_level d 8 L S M N P Q = Wp mX12_level d 9 L (.int 1 :: S) M N P Q := wp_iconst rfl dX12_level_8 rfl
theorem sX12_level_9 : Wp mX12_level d 9 L (.int z :: .int x :: S) M N P Q = (if x < z then Wp mX12_level d 19 L S M N P Q else Wp mX12_level d 12 L S M N P Q) := wp_icmp_lt rfl dX12_level_9 rfl
theorem sX12_level_12 : Wp mX12_level d 12 (a0 :: a1 :: .int x :: L) S M N P Q = Wp mX12_level d 13 (a0 :: a1 :: .int x :: L) (.int x :: S) M N P Q := wp_iload_n rfl dX12_level_12 rfl
theorem sX12_level_13 : Wp mX12_level d 13 L S M N P Q = Wp mX12_level d 16 L (.int 10000 :: S) M N P Q := wp_sipush rfl dX12_level_13 rfl
theorem sX12_level_16 : Wp mX12_level d 16 L (.int z :: .int x :: S) M N P Q = (if x ≤ z then Wp mX12_level d 21 L S M N P Q else Wp mX12_level d 19 L S M N P Q) := wp_icmp_le rfl dX12_level_16 rfl
theorem sX12_level_19 : Wp mX12_level d 19 L S M N P Q = Wp mX12_level d 20 L (.int 0 :: S) M N P Q := wp_iconst rfl dX12_level_19 rfl
theorem sX12_level_20 (hb : bit x) : Wp mX12_level d 20 L [.int x] M N P Q = Q (some (.int x)) M N P := wp_iret rfl dX12_level_20 rfl (bit_n hb)
theorem sX12_level_21 : Wp mX12_level d 21 (.ref r :: L) S M N P Q = Wp mX12_level d 22 (.ref r :: L) (.ref r :: S) M N P Q := wp_aload_n rfl dX12_level_21 rfl
theorem sX12_level_22 (hs : shk r = (12, 0)) : Wp mX12_level d 22 L (.ref r :: S) M N P Q = Wp mX12_level d 25 L (.ref (P r 5) :: S) M N P Q := wp_getfield rfl dX12_level_22 rfl rfl hs rfl
theorem sX12_level_25 : Wp mX12_level d 25 (a0 :: .int x :: L) S M N P Q = Wp mX12_level d 26 (a0 :: .int x :: L) (.int x :: S) M N P Q := wp_iload_n rfl dX12_level_25 rfl
theorem sX12_level_26 : Wp mX12_level d 26 (a0 :: a1 :: .int x :: L) S M N P Q = Wp mX12_level d 27 (a0 :: a1 :: .int x :: L) (.int x :: S) M N P Q := wp_iload_n rfl dX12_level_26 rfl
theorem sX12_level_27 (hs : (shk r).1 = 100) : Wp mX12_level d 27 L (.int x :: .int j :: .ref r :: S) M N P Q = (vp_in j (shk r).2 ∧ Wp mX12_level d 28 L S (up2 M r j.toNatClampNeg x) N P Q) := wp_iastore rfl dX12_level_27 (kd hs)
theorem sX12_level_28 : Wp mX12_level d 28 L S M N P Q = Wp mX12_level d 29 L (.int 1 :: S) M N P Q := wp_iconst rfl dX12_level_28 rfl
theorem sX12_level_29 (hb : bit x) : Wp mX12_level d 29 L [.int x] M N P Q = Q (some (.int x)) M N P := wp_iret rfl dX12_level_29 rfl (bit_n hb)
theorem sX12_turned_0 : Wp mX12_turned d 0 (a0 :: .int x :: L) S M N P Q = Wp mX12_turned d 1 (a0 :: .int x :: L) (.int x :: S) M N P Q := wp_iload_n rfl dX12_turned_0 rfl
theorem sX12_turned_1 : Wp mX12_turned d 1 L (.int x :: S) M N P Q = Wp mX12_turned d 2 L (.long x.toInt64 :: S) M N P Q := wp_i2l rfl dX12_turned_1
theorem sX12_turned_2 : Wp mX12_turned d 2 (.ref r :: L) S M N P Q = Wp mX12_turned d 3 (.ref r :: L) (.ref r :: S) M N P Q := wp_aload_n rfl dX12_turned_2 rfl
theorem sX12_turned_3 (hs : shk r = (12, 0)) : Wp mX12_turned d 3 L (.ref r :: S) M N P Q = Wp mX12_turned d 6 L (.ref (P r 5) :: S) M N P Q := wp_getfield rfl dX12_turned_3 rfl rfl hs rfl
theorem sX12_turned_6 : Wp mX12_turned d 6 (a0 :: a1 :: a2 :: .int x :: L) S M N P Q = Wp mX12_turned d 7 (a0 :: a1 :: a2 :: .int x :: L) (.int x :: S) M N P Q := wp_iload_n rfl dX12_turned_6 rfl
theorem sX12_turned_7 (hs : (shk r).1 = 100) : Wp mX12_turned d 7 L (.int j :: .ref r :: S) M N P Q = (vp_in j (shk r).2 ∧ Wp mX12_turned d 8 L (.int (M r j.toNatClampNeg) :: S) M N P Q) := wp_iaload rfl dX12_turned_7 (kd hs)
theorem sX12_turned_8 : Wp mX12_turned d 8 L (.int x :: S) M N P Q = Wp mX12_turned d 9 L (.long x.toInt64 :: S) M N P Q := wp_i2l rfl dX12_turned_8
theorem sX12_turned_9 : Wp mX12_turned d 9 L (.long lz :: .long lx :: S) M N P Q = Wp mX12_turned d 10 L (.long (lx * lz) :: S) M N P Q := wp_lmul rfl dX12_turned_9
theorem sX12_turned_10 : Wp mX12_turned d 10 (.ref r :: L) S M N P Q = Wp mX12_turned d 11 (.ref r :: L) (.ref r :: S) M N P Q := wp_aload_n rfl dX12_turned_10 rfl
theorem sX12_turned_11 (hs : shk r = (12, 0)) : Wp mX12_turned d 11 L (.ref r :: S) M N P Q = Wp mX12_turned d 14 L (.ref (P r 5) :: S) M N P Q := wp_getfield rfl dX12_turned_11 rfl rfl hs rfl
theorem sX12_turned_14 : Wp mX12_turned d 14 (a0 :: a1 :: .int x :: L) S M N P Q = Wp mX12_turned d 15 (a0 :: a1 :: .int x :: L) (.int x :: S) M N P Q := wp_iload_n rfl dX12_turned_14 rfl
theorem sX12_turned_15 (hs : (shk r).1 = 100) : Wp mX12_turned d 15 L (.int j :: .ref r :: S) M N P Q = (vp_in j (shk r).2 ∧ Wp mX12_turned d 16 L (.int (M r j.toNatClampNeg) :: S) M N P Q) := wp_iaload rfl dX12_turned_15 (kd hs)
theorem sX12_turned_16 : Wp mX12_turned d 16 L (.int x :: S) M N P Q = Wp mX12_turned d 17 L (.long x.toInt64 :: S) M N P Q := wp_i2l rfl dX12_turned_16
theorem sX12_turned_17 : Wp mX12_turned d 17 L (.long lz :: .long lx :: S) M N P Q = (¬ lz = 0 ∧ Wp mX12_turned d 18 L (.long (lx / lz) :: S) M N P Q) := wp_ldiv rfl dX12_turned_17
theorem sX12_turned_18 : Wp mX12_turned d 18 L [.long lx] M N P Q = Q (some (.long lx)) M N P := wp_lret rfl dX12_turned_18 rfl
theorem sX12_money_0 : Wp mX12_money d 0 (a0 :: .int x :: L) S M N P Q = Wp mX12_money d 1 (a0 :: .int x :: L) (.int x :: S) M N P Q := wp_iload_n rfl dX12_money_0 rfl
theorem sX12_money_1 {x0 : Int32} (hS : stk S ≤ 8) : Wp mX12_money (d + 1) 1 L (.int x0 :: S) M N P Q = Wp mX12_isSum d 0 [.int x0] [] M N P (fun v M' N' P' => Wp mX12_money (d + 1) 4 L (v.toList ++ S) M' N' P' Q) := wp_callS (As := [.int x0]) rfl dX12_money_1 rfl rfl rfl ⟨rfl, Nat.le_of_ble_eq_true rfl, Nat.le_of_ble_eq_true rfl⟩ rfl hS
theorem sX12_money_4 : Wp mX12_money d 4 L (.int x :: S) M N P Q = (if x = 0 then Wp mX12_money d 31 L S M N P Q else Wp mX12_money d 7 L S M N P Q) := wp_if_eq rfl dX12_money_4 rfl
theorem sX12_money_7 : Wp mX12_money d 7 (a0 :: a1 :: .int x :: L) S M N P Q = Wp mX12_money d 8 (a0 :: a1 :: .int x :: L) (.int x :: S) M N P Q := wp_iload_n rfl dX12_money_7 rfl
theorem sX12_money_8 {x0 : Int32} (hS : stk S ≤ 8) : Wp mX12_money (d + 1) 8 L (.int x0 :: S) M N P Q = Wp mX12_isYear d 0 [.int x0] [] M N P (fun v M' N' P' => Wp mX12_money (d + 1) 11 L (v.toList ++ S) M' N' P' Q) := wp_callS (As := [.int x0]) rfl dX12_money_8 rfl rfl rfl ⟨rfl, Nat.le_of_ble_eq_true rfl, Nat.le_of_ble_eq_true rfl⟩ rfl hS
theorem sX12_money_11 : Wp mX12_money d 11 L (.int x :: S) M N P Q = (if x = 0 then Wp mX12_money d 31 L S M N P Q else Wp mX12_money d 14 L S M N P Q) := wp_if_eq rfl dX12_money_11 rfl
theorem sX12_money_14 : Wp mX12_money d 14 (a0 :: a1 :: a2 :: .int x :: L) S M N P Q = Wp mX12_money d 15 (a0 :: a1 :: a2 :: .int x :: L) (.int x :: S) M N P Q := wp_iload_n rfl dX12_money_14 rfl
theorem sX12_money_15 {x0 : Int32} (hS : stk S ≤ 8) : Wp mX12_money (d + 1) 15 L (.int x0 :: S) M N P Q = Wp mX12_isYear d 0 [.int x0] [] M N P (fun v M' N' P' => Wp mX12_money (d + 1) 18 L (v.toList ++ S) M' N' P' Q) := wp_callS (As := [.int x0]) rfl dX12_money_15 rfl rfl rfl ⟨rfl, Nat.le_of_ble_eq_true rfl, Nat.le_of_ble_eq_true rfl⟩ rfl hS
theorem sX12_money_18 : Wp mX12_money d 18 L (.int x :: S) M N P Q = (if x = 0 then Wp mX12_money d 31 L S M N P Q else Wp mX12_money d 21 L S M N P Q) := wp_if_eq rfl dX12_money_18 rfl
theorem sX12_money_21 : Wp mX12_money d 21 (.ref r :: L) S M N P Q = Wp mX12_money d 22 (.ref r :: L) (.ref r :: S) M N P Q := wp_aload_n rfl dX12_money_21 rfl
theorem sX12_money_22 : Wp mX12_money d 22 (a0 :: .int x :: L) S M N P Q = Wp mX12_money d 23 (a0 :: .int x :: L) (.int x :: S) M N P Q := wp_iload_n rfl dX12_money_22 rfl
theorem sX12_money_23 : Wp mX12_money d 23 (a0 :: a1 :: .int x :: L) S M N P Q = Wp mX12_money d 24 (a0 :: a1 :: .int x :: L) (.int x :: S) M N P Q := wp_iload_n rfl dX12_money_23 rfl
theorem sX12_money_24 : Wp mX12_money d 24 (a0 :: a1 :: a2 :: .int x :: L) S M N P Q = Wp mX12_money d 25 (a0 :: a1 :: a2 :: .int x :: L) (.int x :: S) M N P Q := wp_iload_n rfl dX12_money_24 rfl
theorem sX12_money_25 {x0 : Int32} {x1 : Int32} {x2 : Int32} (hs : shk r = (12, 0)) (hS : stk S ≤ 8) : Wp mX12_money (d + 1) 25 L (.int x2 :: .int x1 :: .int x0 :: .ref r :: S) M N P Q = Wp mX12_turned d 0 [.ref r, .int x0, .int x1, .int x2] [] M N P (fun v M' N' P' => Wp mX12_money (d + 1) 28 L (v.toList ++ S) M' N' P' Q) := wp_callV (As := [.int x0, .int x1, .int x2]) rfl dX12_money_25 rfl rfl (Or.inl ⟨_, _, _, hs, rfl⟩) rfl ⟨rfl, Nat.le_of_ble_eq_true rfl, Nat.le_of_ble_eq_true rfl⟩ rfl hS
theorem sX12_money_28 : Wp mX12_money d 28 L S M N P Q = Wp mX12_money d 34 L S M N P Q := wp_goto rfl dX12_money_28 rfl
theorem sX12_money_31 : Wp mX12_money d 31 L S M N P Q = Wp mX12_money d 34 L (.long (-1) :: S) M N P Q := wp_ldc2_w rfl dX12_money_31 rfl rfl
theorem sX12_money_34 : Wp mX12_money d 34 L [.long lx] M N P Q = Q (some (.long lx)) M N P := wp_lret rfl dX12_money_34 rfl
theorem sX12_paper_0 : Wp mX12_paper d 0 (.ref r :: L) S M N P Q = Wp mX12_paper d 1 (.ref r :: L) (.ref r :: S) M N P Q := wp_aload_n rfl dX12_paper_0 rfl
theorem sX12_paper_1 : Wp mX12_paper d 1 (a0 :: .int x :: L) S M N P Q = Wp mX12_paper d 2 (a0 :: .int x :: L) (.int x :: S) M N P Q := wp_iload_n rfl dX12_paper_1 rfl
theorem sX12_paper_2 {x0 : Int32} (hs : shk r = (12, 0)) (hS : stk S ≤ 8) : Wp mX12_paper (d + 1) 2 L (.int x0 :: .ref r :: S) M N P Q = Wp mX12_isHouse d 0 [.ref r, .int x0] [] M N P (fun v M' N' P' => Wp mX12_paper (d + 1) 5 L (v.toList ++ S) M' N' P' Q) := wp_callV (As := [.int x0]) rfl dX12_paper_2 rfl rfl (Or.inl ⟨_, _, _, hs, rfl⟩) rfl ⟨rfl, Nat.le_of_ble_eq_true rfl, Nat.le_of_ble_eq_true rfl⟩ rfl hS
theorem sX12_paper_5 : Wp mX12_paper d 5 L (.int x :: S) M N P Q = (if x = 0 then Wp mX12_paper d 71 L S M N P Q else Wp mX12_paper d 8 L S M N P Q) := wp_if_eq rfl dX12_paper_5 rfl
theorem sX12_paper_8 : Wp mX12_paper d 8 (.ref r :: L) S M N P Q = Wp mX12_paper d 9 (.ref r :: L) (.ref r :: S) M N P Q := wp_aload_n rfl dX12_paper_8 rfl
theorem sX12_paper_9 : Wp mX12_paper d 9 (a0 :: a1 :: .int x :: L) S M N P Q = Wp mX12_paper d 10 (a0 :: a1 :: .int x :: L) (.int x :: S) M N P Q := wp_iload_n rfl dX12_paper_9 rfl
theorem sX12_paper_10 {x0 : Int32} (hs : shk r = (12, 0)) (hS : stk S ≤ 8) : Wp mX12_paper (d + 1) 10 L (.int x0 :: .ref r :: S) M N P Q = Wp mX12_isPerson d 0 [.ref r, .int x0] [] M N P (fun v M' N' P' => Wp mX12_paper (d + 1) 13 L (v.toList ++ S) M' N' P' Q) := wp_callV (As := [.int x0]) rfl dX12_paper_10 rfl rfl (Or.inl ⟨_, _, _, hs, rfl⟩) rfl ⟨rfl, Nat.le_of_ble_eq_true rfl, Nat.le_of_ble_eq_true rfl⟩ rfl hS
theorem sX12_paper_13 : Wp mX12_paper d 13 L (.int x :: S) M N P Q = (if x = 0 then Wp mX12_paper d 71 L S M N P Q else Wp mX12_paper d 16 L S M N P Q) := wp_if_eq rfl dX12_paper_13 rfl
theorem sX12_paper_16 : Wp mX12_paper d 16 (.ref r :: L) S M N P Q = Wp mX12_paper d 17 (.ref r :: L) (.ref r :: S) M N P Q := wp_aload_n rfl dX12_paper_16 rfl
theorem sX12_paper_17 : Wp mX12_paper d 17 (a0 :: a1 :: a2 :: .int x :: L) S M N P Q = Wp mX12_paper d 18 (a0 :: a1 :: a2 :: .int x :: L) (.int x :: S) M N P Q := wp_iload_n rfl dX12_paper_17 rfl
theorem sX12_paper_18 {x0 : Int32} (hs : shk r = (12, 0)) (hS : stk S ≤ 8) : Wp mX12_paper (d + 1) 18 L (.int x0 :: .ref r :: S) M N P Q = Wp mX12_isPerson d 0 [.ref r, .int x0] [] M N P (fun v M' N' P' => Wp mX12_paper (d + 1) 21 L (v.toList ++ S) M' N' P' Q) := wp_callV (As := [.int x0]) rfl dX12_paper_18 rfl rfl (Or.inl ⟨_, _, _, hs, rfl⟩) rfl ⟨rfl, Nat.le_of_ble_eq_true rfl, Nat.le_of_ble_eq_true rfl⟩ rfl hS
theorem sX12_paper_21 : Wp mX12_paper d 21 L (.int x :: S) M N P Q = (if x = 0 then Wp mX12_paper d 71 L S M N P Q else Wp mX12_paper d 24 L S M N P Q) := wp_if_eq rfl dX12_paper_21 rfl
theorem sX12_paper_24 : Wp mX12_paper d 24 (a0 :: a1 :: .int x :: L) S M N P Q = Wp mX12_paper d 25 (a0 :: a1 :: .int x :: L) (.int x :: S) M N P Q := wp_iload_n rfl dX12_paper_24 rfl
theorem sX12_paper_25 : Wp mX12_paper d 25 (a0 :: a1 :: a2 :: .int x :: L) S M N P Q = Wp mX12_paper d 26 (a0 :: a1 :: a2 :: .int x :: L) (.int x :: S) M N P Q := wp_iload_n rfl dX12_paper_25 rfl
theorem sX12_paper_26 : Wp mX12_paper d 26 L (.int z :: .int x :: S) M N P Q = (if x = z then Wp mX12_paper d 71 L S M N P Q else Wp mX12_paper d 29 L S M N P Q) := wp_icmp_eq rfl dX12_paper_26 rfl
theorem sX12_paper_29 : Wp mX12_paper d 29 (a0 :: a1 :: a2 :: a3 :: .int x :: L) S M N P Q = Wp mX12_paper d 31 (a0 :: a1 :: a2 :: a3 :: .int x :: L) (.int x :: S) M N P Q := wp_iload rfl dX12_paper_29 rfl
theorem sX12_paper_31 : Wp mX12_paper d 31 L (.int x :: S) M N P Q = (if x < 0 then Wp mX12_paper d 71 L S M N P Q else Wp mX12_paper d 34 L S M N P Q) := wp_if_lt rfl dX12_paper_31 rfl
theorem sX12_paper_34 : Wp mX12_paper d 34 (a0 :: a1 :: a2 :: a3 :: .int x :: L) S M N P Q = Wp mX12_paper d 36 (a0 :: a1 :: a2 :: a3 :: .int x :: L) (.int x :: S) M N P Q := wp_iload rfl dX12_paper_34 rfl
theorem sX12_paper_36 : Wp mX12_paper d 36 (.ref r :: L) S M N P Q = Wp mX12_paper d 37 (.ref r :: L) (.ref r :: S) M N P Q := wp_aload_n rfl dX12_paper_36 rfl
theorem sX12_paper_37 (hs : shk r = (12, 0)) : Wp mX12_paper d 37 L (.ref r :: S) M N P Q = Wp mX12_paper d 40 L (.int (M r 8) :: S) M N P Q := wp_getfield rfl dX12_paper_37 rfl rfl hs rfl
theorem sX12_paper_40 : Wp mX12_paper d 40 L (.int z :: .int x :: S) M N P Q = (if z < x then Wp mX12_paper d 71 L S M N P Q else Wp mX12_paper d 43 L S M N P Q) := wp_icmp_gt rfl dX12_paper_40 rfl
theorem sX12_paper_43 : Wp mX12_paper d 43 (a0 :: a1 :: a2 :: a3 :: a4 :: .int x :: L) S M N P Q = Wp mX12_paper d 45 (a0 :: a1 :: a2 :: a3 :: a4 :: .int x :: L) (.int x :: S) M N P Q := wp_iload rfl dX12_paper_43 rfl
theorem sX12_paper_45 : Wp mX12_paper d 45 L (.int x :: S) M N P Q = (if x < 0 then Wp mX12_paper d 71 L S M N P Q else Wp mX12_paper d 48 L S M N P Q) := wp_if_lt rfl dX12_paper_45 rfl
theorem sX12_paper_48 : Wp mX12_paper d 48 (a0 :: a1 :: a2 :: a3 :: a4 :: .int x :: L) S M N P Q = Wp mX12_paper d 50 (a0 :: a1 :: a2 :: a3 :: a4 :: .int x :: L) (.int x :: S) M N P Q := wp_iload rfl dX12_paper_48 rfl
theorem sX12_paper_50 : Wp mX12_paper d 50 L S M N P Q = Wp mX12_paper d 51 L (.int 2 :: S) M N P Q := wp_iconst rfl dX12_paper_50 rfl
theorem sX12_paper_51 : Wp mX12_paper d 51 L (.int z :: .int x :: S) M N P Q = (if z < x then Wp mX12_paper d 71 L S M N P Q else Wp mX12_paper d 54 L S M N P Q) := wp_icmp_gt rfl dX12_paper_51 rfl
theorem sX12_paper_54 : Wp mX12_paper d 54 (a0 :: a1 :: a2 :: a3 :: a4 :: a5 :: .int x :: L) S M N P Q = Wp mX12_paper d 56 (a0 :: a1 :: a2 :: a3 :: a4 :: a5 :: .int x :: L) (.int x :: S) M N P Q := wp_iload rfl dX12_paper_54 rfl
theorem sX12_paper_56 {x0 : Int32} (hS : stk S ≤ 8) : Wp mX12_paper (d + 1) 56 L (.int x0 :: S) M N P Q = Wp mX12_isSum d 0 [.int x0] [] M N P (fun v M' N' P' => Wp mX12_paper (d + 1) 59 L (v.toList ++ S) M' N' P' Q) := wp_callS (As := [.int x0]) rfl dX12_paper_56 rfl rfl rfl ⟨rfl, Nat.le_of_ble_eq_true rfl, Nat.le_of_ble_eq_true rfl⟩ rfl hS
theorem sX12_paper_59 : Wp mX12_paper d 59 L (.int x :: S) M N P Q = (if x = 0 then Wp mX12_paper d 71 L S M N P Q else Wp mX12_paper d 62 L S M N P Q) := wp_if_eq rfl dX12_paper_59 rfl
theorem sX12_paper_62 : Wp mX12_paper d 62 (.ref r :: L) S M N P Q = Wp mX12_paper d 63 (.ref r :: L) (.ref r :: S) M N P Q := wp_aload_n rfl dX12_paper_62 rfl
theorem sX12_paper_63 (hs : shk r = (12, 0)) : Wp mX12_paper d 63 L (.ref r :: S) M N P Q = Wp mX12_paper d 66 L (.int (M r 19) :: S) M N P Q := wp_getfield rfl dX12_paper_63 rfl rfl hs rfl
theorem sX12_paper_66 : Wp mX12_paper d 66 L S M N P Q = Wp mX12_paper d 68 L (.int 60 :: S) M N P Q := wp_bipush rfl dX12_paper_66 rfl
theorem sX12_paper_68 : Wp mX12_paper d 68 L (.int z :: .int x :: S) M N P Q = (if x = z then Wp mX12_paper d 71 L S M N P Q else Wp mX12_paper d 73 L S M N P Q) := wp_icmp_ne rfl dX12_paper_68 rfl
theorem sX12_paper_71 : Wp mX12_paper d 71 L S M N P Q = Wp mX12_paper d 72 L (.int (-1) :: S) M N P Q := wp_iconst rfl dX12_paper_71 rfl
theorem sX12_paper_72 : Wp mX12_paper d 72 L [.int x] M N P Q = Q (some (.int x)) M N P := wp_iret rfl dX12_paper_72 rfl rfl
theorem sX12_paper_73 : Wp mX12_paper d 73 (.ref r :: L) S M N P Q = Wp mX12_paper d 74 (.ref r :: L) (.ref r :: S) M N P Q := wp_aload_n rfl dX12_paper_73 rfl
theorem sX12_paper_74 (hs : shk r = (12, 0)) : Wp mX12_paper d 74 L (.ref r :: S) M N P Q = Wp mX12_paper d 77 L (.ref (P r 9) :: S) M N P Q := wp_getfield rfl dX12_paper_74 rfl rfl hs rfl
theorem sX12_paper_77 : Wp mX12_paper d 77 (.ref r :: L) S M N P Q = Wp mX12_paper d 78 (.ref r :: L) (.ref r :: S) M N P Q := wp_aload_n rfl dX12_paper_77 rfl
theorem sX12_paper_78 (hs : shk r = (12, 0)) : Wp mX12_paper d 78 L (.ref r :: S) M N P Q = Wp mX12_paper d 81 L (.int (M r 19) :: S) M N P Q := wp_getfield rfl dX12_paper_78 rfl rfl hs rfl
theorem sX12_paper_81 : Wp mX12_paper d 81 (a0 :: .int x :: L) S M N P Q = Wp mX12_paper d 82 (a0 :: .int x :: L) (.int x :: S) M N P Q := wp_iload_n rfl dX12_paper_81 rfl
theorem sX12_paper_82 (hs : (shk r).1 = 100) : Wp mX12_paper d 82 L (.int x :: .int j :: .ref r :: S) M N P Q = (vp_in j (shk r).2 ∧ Wp mX12_paper d 83 L S (up2 M r j.toNatClampNeg x) N P Q) := wp_iastore rfl dX12_paper_82 (kd hs)
theorem sX12_paper_83 : Wp mX12_paper d 83 (.ref r :: L) S M N P Q = Wp mX12_paper d 84 (.ref r :: L) (.ref r :: S) M N P Q := wp_aload_n rfl dX12_paper_83 rfl
theorem sX12_paper_84 (hs : shk r = (12, 0)) : Wp mX12_paper d 84 L (.ref r :: S) M N P Q = Wp mX12_paper d 87 L (.ref (P r 10) :: S) M N P Q := wp_getfield rfl dX12_paper_84 rfl rfl hs rfl
theorem sX12_paper_87 : Wp mX12_paper d 87 (.ref r :: L) S M N P Q = Wp mX12_paper d 88 (.ref r :: L) (.ref r :: S) M N P Q := wp_aload_n rfl dX12_paper_87 rfl
theorem sX12_paper_88 (hs : shk r = (12, 0)) : Wp mX12_paper d 88 L (.ref r :: S) M N P Q = Wp mX12_paper d 91 L (.int (M r 19) :: S) M N P Q := wp_getfield rfl dX12_paper_88 rfl rfl hs rfl
theorem sX12_paper_91 : Wp mX12_paper d 91 (a0 :: a1 :: .int x :: L) S M N P Q = Wp mX12_paper d 92 (a0 :: a1 :: .int x :: L) (.int x :: S) M N P Q := wp_iload_n rfl dX12_paper_91 rfl
theorem sX12_paper_92 (hs : (shk r).1 = 100) : Wp mX12_paper d 92 L (.int x :: .int j :: .ref r :: S) M N P Q = (vp_in j (shk r).2 ∧ Wp mX12_paper d 93 L S (up2 M r j.toNatClampNeg x) N P Q) := wp_iastore rfl dX12_paper_92 (kd hs)
theorem sX12_paper_93 : Wp mX12_paper d 93 (.ref r :: L) S M N P Q = Wp mX12_paper d 94 (.ref r :: L) (.ref r :: S) M N P Q := wp_aload_n rfl dX12_paper_93 rfl
theorem sX12_paper_94 (hs : shk r = (12, 0)) : Wp mX12_paper d 94 L (.ref r :: S) M N P Q = Wp mX12_paper d 97 L (.ref (P r 11) :: S) M N P Q := wp_getfield rfl dX12_paper_94 rfl rfl hs rfl
theorem sX12_paper_97 : Wp mX12_paper d 97 (.ref r :: L) S M N P Q = Wp mX12_paper d 98 (.ref r :: L) (.ref r :: S) M N P Q := wp_aload_n rfl dX12_paper_97 rfl
theorem sX12_paper_98 (hs : shk r = (12, 0)) : Wp mX12_paper d 98 L (.ref r :: S) M N P Q = Wp mX12_paper d 101 L (.int (M r 19) :: S) M N P Q := wp_getfield rfl dX12_paper_98 rfl rfl hs rfl
theorem sX12_paper_101 : Wp mX12_paper d 101 (a0 :: a1 :: a2 :: .int x :: L) S M N P Q = Wp mX12_paper d 102 (a0 :: a1 :: a2 :: .int x :: L) (.int x :: S) M N P Q := wp_iload_n rfl dX12_paper_101 rfl
theorem sX12_paper_102 (hs : (shk r).1 = 100) : Wp mX12_paper d 102 L (.int x :: .int j :: .ref r :: S) M N P Q = (vp_in j (shk r).2 ∧ Wp mX12_paper d 103 L S (up2 M r j.toNatClampNeg x) N P Q) := wp_iastore rfl dX12_paper_102 (kd hs)
theorem sX12_paper_103 : Wp mX12_paper d 103 (.ref r :: L) S M N P Q = Wp mX12_paper d 104 (.ref r :: L) (.ref r :: S) M N P Q := wp_aload_n rfl dX12_paper_103 rfl
theorem sX12_paper_104 (hs : shk r = (12, 0)) : Wp mX12_paper d 104 L (.ref r :: S) M N P Q = Wp mX12_paper d 107 L (.ref (P r 12) :: S) M N P Q := wp_getfield rfl dX12_paper_104 rfl rfl hs rfl
theorem sX12_paper_107 : Wp mX12_paper d 107 (.ref r :: L) S M N P Q = Wp mX12_paper d 108 (.ref r :: L) (.ref r :: S) M N P Q := wp_aload_n rfl dX12_paper_107 rfl
theorem sX12_paper_108 (hs : shk r = (12, 0)) : Wp mX12_paper d 108 L (.ref r :: S) M N P Q = Wp mX12_paper d 111 L (.int (M r 19) :: S) M N P Q := wp_getfield rfl dX12_paper_108 rfl rfl hs rfl
theorem sX12_paper_111 : Wp mX12_paper d 111 (a0 :: a1 :: a2 :: a3 :: .int x :: L) S M N P Q = Wp mX12_paper d 113 (a0 :: a1 :: a2 :: a3 :: .int x :: L) (.int x :: S) M N P Q := wp_iload rfl dX12_paper_111 rfl
theorem sX12_paper_113 (hs : (shk r).1 = 100) : Wp mX12_paper d 113 L (.int x :: .int j :: .ref r :: S) M N P Q = (vp_in j (shk r).2 ∧ Wp mX12_paper d 114 L S (up2 M r j.toNatClampNeg x) N P Q) := wp_iastore rfl dX12_paper_113 (kd hs)
theorem sX12_paper_114 : Wp mX12_paper d 114 (.ref r :: L) S M N P Q = Wp mX12_paper d 115 (.ref r :: L) (.ref r :: S) M N P Q := wp_aload_n rfl dX12_paper_114 rfl
theorem sX12_paper_115 (hs : shk r = (12, 0)) : Wp mX12_paper d 115 L (.ref r :: S) M N P Q = Wp mX12_paper d 118 L (.ref (P r 13) :: S) M N P Q := wp_getfield rfl dX12_paper_115 rfl rfl hs rfl
theorem sX12_paper_118 : Wp mX12_paper d 118 (.ref r :: L) S M N P Q = Wp mX12_paper d 119 (.ref r :: L) (.ref r :: S) M N P Q := wp_aload_n rfl dX12_paper_118 rfl
theorem sX12_paper_119 (hs : shk r = (12, 0)) : Wp mX12_paper d 119 L (.ref r :: S) M N P Q = Wp mX12_paper d 122 L (.int (M r 19) :: S) M N P Q := wp_getfield rfl dX12_paper_119 rfl rfl hs rfl
theorem sX12_paper_122 : Wp mX12_paper d 122 (a0 :: a1 :: a2 :: a3 :: a4 :: .int x :: L) S M N P Q = Wp mX12_paper d 124 (a0 :: a1 :: a2 :: a3 :: a4 :: .int x :: L) (.int x :: S) M N P Q := wp_iload rfl dX12_paper_122 rfl
theorem sX12_paper_124 (hs : (shk r).1 = 100) : Wp mX12_paper d 124 L (.int x :: .int j :: .ref r :: S) M N P Q = (vp_in j (shk r).2 ∧ Wp mX12_paper d 125 L S (up2 M r j.toNatClampNeg x) N P Q) := wp_iastore rfl dX12_paper_124 (kd hs)
theorem sX12_paper_125 : Wp mX12_paper d 125 (.ref r :: L) S M N P Q = Wp mX12_paper d 126 (.ref r :: L) (.ref r :: S) M N P Q := wp_aload_n rfl dX12_paper_125 rfl
theorem sX12_paper_126 (hs : shk r = (12, 0)) : Wp mX12_paper d 126 L (.ref r :: S) M N P Q = Wp mX12_paper d 129 L (.ref (P r 14) :: S) M N P Q := wp_getfield rfl dX12_paper_126 rfl rfl hs rfl
theorem sX12_paper_129 : Wp mX12_paper d 129 (.ref r :: L) S M N P Q = Wp mX12_paper d 130 (.ref r :: L) (.ref r :: S) M N P Q := wp_aload_n rfl dX12_paper_129 rfl
theorem sX12_paper_130 (hs : shk r = (12, 0)) : Wp mX12_paper d 130 L (.ref r :: S) M N P Q = Wp mX12_paper d 133 L (.int (M r 19) :: S) M N P Q := wp_getfield rfl dX12_paper_130 rfl rfl hs rfl
theorem sX12_paper_133 : Wp mX12_paper d 133 (a0 :: a1 :: a2 :: a3 :: a4 :: a5 :: .int x :: L) S M N P Q = Wp mX12_paper d 135 (a0 :: a1 :: a2 :: a3 :: a4 :: a5 :: .int x :: L) (.int x :: S) M N P Q := wp_iload rfl dX12_paper_133 rfl
theorem sX12_paper_135 (hs : (shk r).1 = 100) : Wp mX12_paper d 135 L (.int x :: .int j :: .ref r :: S) M N P Q = (vp_in j (shk r).2 ∧ Wp mX12_paper d 136 L S (up2 M r j.toNatClampNeg x) N P Q) := wp_iastore rfl dX12_paper_135 (kd hs)
theorem sX12_paper_136 : Wp mX12_paper d 136 (.ref r :: L) S M N P Q = Wp mX12_paper d 137 (.ref r :: L) (.ref r :: S) M N P Q := wp_aload_n rfl dX12_paper_136 rfl
theorem sX12_paper_137 (hs : shk r = (12, 0)) : Wp mX12_paper d 137 L (.ref r :: S) M N P Q = Wp mX12_paper d 140 L (.ref (P r 15) :: S) M N P Q := wp_getfield rfl dX12_paper_137 rfl rfl hs rfl
theorem sX12_paper_140 : Wp mX12_paper d 140 (.ref r :: L) S M N P Q = Wp mX12_paper d 141 (.ref r :: L) (.ref r :: S) M N P Q := wp_aload_n rfl dX12_paper_140 rfl
theorem sX12_paper_141 (hs : shk r = (12, 0)) : Wp mX12_paper d 141 L (.ref r :: S) M N P Q = Wp mX12_paper d 144 L (.int (M r 19) :: S) M N P Q := wp_getfield rfl dX12_paper_141 rfl rfl hs rfl
theorem sX12_paper_144 : Wp mX12_paper d 144 (.ref r :: L) S M N P Q = Wp mX12_paper d 145 (.ref r :: L) (.ref r :: S) M N P Q := wp_aload_n rfl dX12_paper_144 rfl
theorem sX12_paper_145 (hs : shk r = (12, 0)) : Wp mX12_paper d 145 L (.ref r :: S) M N P Q = Wp mX12_paper d 148 L (.int (M r 8) :: S) M N P Q := wp_getfield rfl dX12_paper_145 rfl rfl hs rfl
theorem sX12_paper_148 (hs : (shk r).1 = 100) : Wp mX12_paper d 148 L (.int x :: .int j :: .ref r :: S) M N P Q = (vp_in j (shk r).2 ∧ Wp mX12_paper d 149 L S (up2 M r j.toNatClampNeg x) N P Q) := wp_iastore rfl dX12_paper_148 (kd hs)
theorem sX12_paper_149 : Wp mX12_paper d 149 (.ref r :: L) S M N P Q = Wp mX12_paper d 150 (.ref r :: L) (.ref r :: S) M N P Q := wp_aload_n rfl dX12_paper_149 rfl
theorem sX12_paper_150 (hs : shk r = (12, 0)) : Wp mX12_paper d 150 L (.ref r :: S) M N P Q = Wp mX12_paper d 153 L (.ref (P r 16) :: S) M N P Q := wp_getfield rfl dX12_paper_150 rfl rfl hs rfl
theorem sX12_paper_153 : Wp mX12_paper d 153 (.ref r :: L) S M N P Q = Wp mX12_paper d 154 (.ref r :: L) (.ref r :: S) M N P Q := wp_aload_n rfl dX12_paper_153 rfl
theorem sX12_paper_154 (hs : shk r = (12, 0)) : Wp mX12_paper d 154 L (.ref r :: S) M N P Q = Wp mX12_paper d 157 L (.int (M r 19) :: S) M N P Q := wp_getfield rfl dX12_paper_154 rfl rfl hs rfl
theorem sX12_paper_157 : Wp mX12_paper d 157 L S M N P Q = Wp mX12_paper d 158 L (.int (-1) :: S) M N P Q := wp_iconst rfl dX12_paper_157 rfl
theorem sX12_paper_158 (hs : (shk r).1 = 100) : Wp mX12_paper d 158 L (.int x :: .int j :: .ref r :: S) M N P Q = (vp_in j (shk r).2 ∧ Wp mX12_paper d 159 L S (up2 M r j.toNatClampNeg x) N P Q) := wp_iastore rfl dX12_paper_158 (kd hs)
theorem sX12_paper_159 : Wp mX12_paper d 159 (.ref r :: L) S M N P Q = Wp mX12_paper d 160 (.ref r :: L) (.ref r :: S) M N P Q := wp_aload_n rfl dX12_paper_159 rfl
theorem sX12_paper_160 (hv : a0.category = 1) : Wp mX12_paper d 160 L (a0 :: S) M N P Q = Wp mX12_paper d 161 L (a0 :: a0 :: S) M N P Q := wp_dup rfl dX12_paper_160 hv
theorem sX12_paper_161 (hs : shk r = (12, 0)) : Wp mX12_paper d 161 L (.ref r :: S) M N P Q = Wp mX12_paper d 164 L (.int (M r 19) :: S) M N P Q := wp_getfield rfl dX12_paper_161 rfl rfl hs rfl
theorem sX12_paper_164 : Wp mX12_paper d 164 L S M N P Q = Wp mX12_paper d 165 L (.int 1 :: S) M N P Q := wp_iconst rfl dX12_paper_164 rfl
theorem sX12_paper_165 : Wp mX12_paper d 165 L (.int z :: .int x :: S) M N P Q = Wp mX12_paper d 166 L (.int (x + z) :: S) M N P Q := wp_iadd rfl dX12_paper_165
theorem sX12_paper_166 (hs : shk r = (12, 0)) : Wp mX12_paper d 166 L (.int x :: .ref r :: S) M N P Q = Wp mX12_paper d 169 L S (up2 M r 19 x) N P Q := wp_putI rfl dX12_paper_166 rfl rfl hs rfl ⟨_, _, _, _, rfl, by decide, rfl, tyX12_ok 19 (by decide), rfl, rfl⟩
theorem sX12_paper_169 : Wp mX12_paper d 169 (.ref r :: L) S M N P Q = Wp mX12_paper d 170 (.ref r :: L) (.ref r :: S) M N P Q := wp_aload_n rfl dX12_paper_169 rfl
theorem sX12_paper_170 (hs : shk r = (12, 0)) : Wp mX12_paper d 170 L (.ref r :: S) M N P Q = Wp mX12_paper d 173 L (.int (M r 19) :: S) M N P Q := wp_getfield rfl dX12_paper_170 rfl rfl hs rfl
theorem sX12_paper_173 : Wp mX12_paper d 173 L S M N P Q = Wp mX12_paper d 174 L (.int 1 :: S) M N P Q := wp_iconst rfl dX12_paper_173 rfl
theorem sX12_paper_174 : Wp mX12_paper d 174 L (.int z :: .int x :: S) M N P Q = Wp mX12_paper d 175 L (.int (x - z) :: S) M N P Q := wp_isub rfl dX12_paper_174
theorem sX12_paper_175 : Wp mX12_paper d 175 L [.int x] M N P Q = Q (some (.int x)) M N P := wp_iret rfl dX12_paper_175 rfl rfl
theorem sX12_isPaper_0 : Wp mX12_isPaper d 0 (a0 :: .int x :: L) S M N P Q = Wp mX12_isPaper d 1 (a0 :: .int x :: L) (.int x :: S) M N P Q := wp_iload_n rfl dX12_isPaper_0 rfl
theorem sX12_isPaper_1 : Wp mX12_isPaper d 1 L (.int x :: S) M N P Q = (if x < 0 then Wp mX12_isPaper d 16 L S M N P Q else Wp mX12_isPaper d 4 L S M N P Q) := wp_if_lt rfl dX12_isPaper_1 rfl
theorem sX12_isPaper_4 : Wp mX12_isPaper d 4 (a0 :: .int x :: L) S M N P Q = Wp mX12_isPaper d 5 (a0 :: .int x :: L) (.int x :: S) M N P Q := wp_iload_n rfl dX12_isPaper_4 rfl
theorem sX12_isPaper_5 : Wp mX12_isPaper d 5 (.ref r :: L) S M N P Q = Wp mX12_isPaper d 6 (.ref r :: L) (.ref r :: S) M N P Q := wp_aload_n rfl dX12_isPaper_5 rfl
theorem sX12_isPaper_6 (hs : shk r = (12, 0)) : Wp mX12_isPaper d 6 L (.ref r :: S) M N P Q = Wp mX12_isPaper d 9 L (.int (M r 19) :: S) M N P Q := wp_getfield rfl dX12_isPaper_6 rfl rfl hs rfl
theorem sX12_isPaper_9 : Wp mX12_isPaper d 9 L (.int z :: .int x :: S) M N P Q = (if z ≤ x then Wp mX12_isPaper d 16 L S M N P Q else Wp mX12_isPaper d 12 L S M N P Q) := wp_icmp_ge rfl dX12_isPaper_9 rfl
theorem sX12_isPaper_12 : Wp mX12_isPaper d 12 L S M N P Q = Wp mX12_isPaper d 13 L (.int 1 :: S) M N P Q := wp_iconst rfl dX12_isPaper_12 rfl
theorem sX12_isPaper_13 : Wp mX12_isPaper d 13 L S M N P Q = Wp mX12_isPaper d 17 L S M N P Q := wp_goto rfl dX12_isPaper_13 rfl
theorem sX12_isPaper_16 : Wp mX12_isPaper d 16 L S M N P Q = Wp mX12_isPaper d 17 L (.int 0 :: S) M N P Q := wp_iconst rfl dX12_isPaper_16 rfl
theorem sX12_isPaper_17 (hb : bit x) : Wp mX12_isPaper d 17 L [.int x] M N P Q = Q (some (.int x)) M N P := wp_iret rfl dX12_isPaper_17 rfl (bit_n hb)
theorem sX12_isFalse_0 : Wp mX12_isFalse d 0 (.ref r :: L) S M N P Q = Wp mX12_isFalse d 1 (.ref r :: L) (.ref r :: S) M N P Q := wp_aload_n rfl dX12_isFalse_0 rfl
theorem sX12_isFalse_1 : Wp mX12_isFalse d 1 (a0 :: .int x :: L) S M N P Q = Wp mX12_isFalse d 2 (a0 :: .int x :: L) (.int x :: S) M N P Q := wp_iload_n rfl dX12_isFalse_1 rfl
theorem sX12_isFalse_2 {x0 : Int32} (hs : shk r = (12, 0)) (hS : stk S ≤ 8) : Wp mX12_isFalse (d + 1) 2 L (.int x0 :: .ref r :: S) M N P Q = Wp mX12_isPaper d 0 [.ref r, .int x0] [] M N P (fun v M' N' P' => Wp mX12_isFalse (d + 1) 5 L (v.toList ++ S) M' N' P' Q) := wp_callV (As := [.int x0]) rfl dX12_isFalse_2 rfl rfl (Or.inl ⟨_, _, _, hs, rfl⟩) rfl ⟨rfl, Nat.le_of_ble_eq_true rfl, Nat.le_of_ble_eq_true rfl⟩ rfl hS
theorem sX12_isFalse_5 : Wp mX12_isFalse d 5 L (.int x :: S) M N P Q = (if x = 0 then Wp mX12_isFalse d 17 L S M N P Q else Wp mX12_isFalse d 8 L S M N P Q) := wp_if_eq rfl dX12_isFalse_5 rfl
theorem sX12_isFalse_8 : Wp mX12_isFalse d 8 (.ref r :: L) S M N P Q = Wp mX12_isFalse d 9 (.ref r :: L) (.ref r :: S) M N P Q := wp_aload_n rfl dX12_isFalse_8 rfl
theorem sX12_isFalse_9 (hs : shk r = (12, 0)) : Wp mX12_isFalse d 9 L (.ref r :: S) M N P Q = Wp mX12_isFalse d 12 L (.ref (P r 16) :: S) M N P Q := wp_getfield rfl dX12_isFalse_9 rfl rfl hs rfl
theorem sX12_isFalse_12 : Wp mX12_isFalse d 12 (a0 :: .int x :: L) S M N P Q = Wp mX12_isFalse d 13 (a0 :: .int x :: L) (.int x :: S) M N P Q := wp_iload_n rfl dX12_isFalse_12 rfl
theorem sX12_isFalse_13 (hs : (shk r).1 = 100) : Wp mX12_isFalse d 13 L (.int j :: .ref r :: S) M N P Q = (vp_in j (shk r).2 ∧ Wp mX12_isFalse d 14 L (.int (M r j.toNatClampNeg) :: S) M N P Q) := wp_iaload rfl dX12_isFalse_13 (kd hs)
theorem sX12_isFalse_14 : Wp mX12_isFalse d 14 L (.int x :: S) M N P Q = (if x < 0 then Wp mX12_isFalse d 19 L S M N P Q else Wp mX12_isFalse d 17 L S M N P Q) := wp_if_lt rfl dX12_isFalse_14 rfl
theorem sX12_isFalse_17 : Wp mX12_isFalse d 17 L S M N P Q = Wp mX12_isFalse d 18 L (.int 0 :: S) M N P Q := wp_iconst rfl dX12_isFalse_17 rfl
theorem sX12_isFalse_18 (hb : bit x) : Wp mX12_isFalse d 18 L [.int x] M N P Q = Q (some (.int x)) M N P := wp_iret rfl dX12_isFalse_18 rfl (bit_n hb)
theorem sX12_isFalse_19 : Wp mX12_isFalse d 19 (.ref r :: L) S M N P Q = Wp mX12_isFalse d 20 (.ref r :: L) (.ref r :: S) M N P Q := wp_aload_n rfl dX12_isFalse_19 rfl
theorem sX12_isFalse_20 (hs : shk r = (12, 0)) : Wp mX12_isFalse d 20 L (.ref r :: S) M N P Q = Wp mX12_isFalse d 23 L (.ref (P r 16) :: S) M N P Q := wp_getfield rfl dX12_isFalse_20 rfl rfl hs rfl
theorem sX12_isFalse_23 : Wp mX12_isFalse d 23 (a0 :: .int x :: L) S M N P Q = Wp mX12_isFalse d 24 (a0 :: .int x :: L) (.int x :: S) M N P Q := wp_iload_n rfl dX12_isFalse_23 rfl
theorem sX12_isFalse_24 : Wp mX12_isFalse d 24 (.ref r :: L) S M N P Q = Wp mX12_isFalse d 25 (.ref r :: L) (.ref r :: S) M N P Q := wp_aload_n rfl dX12_isFalse_24 rfl
theorem sX12_isFalse_25 (hs : shk r = (12, 0)) : Wp mX12_isFalse d 25 L (.ref r :: S) M N P Q = Wp mX12_isFalse d 28 L (.int (M r 8) :: S) M N P Q := wp_getfield rfl dX12_isFalse_25 rfl rfl hs rfl
theorem sX12_isFalse_28 (hs : (shk r).1 = 100) : Wp mX12_isFalse d 28 L (.int x :: .int j :: .ref r :: S) M N P Q = (vp_in j (shk r).2 ∧ Wp mX12_isFalse d 29 L S (up2 M r j.toNatClampNeg x) N P Q) := wp_iastore rfl dX12_isFalse_28 (kd hs)
theorem sX12_isFalse_29 : Wp mX12_isFalse d 29 L S M N P Q = Wp mX12_isFalse d 30 L (.int 1 :: S) M N P Q := wp_iconst rfl dX12_isFalse_29 rfl
theorem sX12_isFalse_30 (hb : bit x) : Wp mX12_isFalse d 30 L [.int x] M N P Q = Q (some (.int x)) M N P := wp_iret rfl dX12_isFalse_30 rfl (bit_n hb)
theorem sX12_later_0 : Wp mX12_later d 0 (a0 :: .int x :: L) S M N P Q = Wp mX12_later d 1 (a0 :: .int x :: L) (.int x :: S) M N P Q := wp_iload_n rfl dX12_later_0 rfl
theorem sX12_later_1 : Wp mX12_later d 1 L (.int x :: S) M N P Q = (if x < 0 then Wp mX12_later d 22 L S M N P Q else Wp mX12_later d 4 L S M N P Q) := wp_if_lt rfl dX12_later_1 rfl
theorem sX12_later_4 : Wp mX12_later d 4 (a0 :: .int x :: L) S M N P Q = Wp mX12_later d 5 (a0 :: .int x :: L) (.int x :: S) M N P Q := wp_iload_n rfl dX12_later_4 rfl
theorem sX12_later_5 : Wp mX12_later d 5 L S M N P Q = Wp mX12_later d 8 L (.int 1000 :: S) M N P Q := wp_sipush rfl dX12_later_5 rfl
theorem sX12_later_8 : Wp mX12_later d 8 L (.int z :: .int x :: S) M N P Q = (if z < x then Wp mX12_later d 22 L S M N P Q else Wp mX12_later d 11 L S M N P Q) := wp_icmp_gt rfl dX12_later_8 rfl
theorem sX12_later_11 : Wp mX12_later d 11 (.ref r :: L) S M N P Q = Wp mX12_later d 12 (.ref r :: L) (.ref r :: S) M N P Q := wp_aload_n rfl dX12_later_11 rfl
theorem sX12_later_12 (hs : shk r = (12, 0)) : Wp mX12_later d 12 L (.ref r :: S) M N P Q = Wp mX12_later d 15 L (.int (M r 8) :: S) M N P Q := wp_getfield rfl dX12_later_12 rfl rfl hs rfl
theorem sX12_later_15 : Wp mX12_later d 15 (a0 :: .int x :: L) S M N P Q = Wp mX12_later d 16 (a0 :: .int x :: L) (.int x :: S) M N P Q := wp_iload_n rfl dX12_later_15 rfl
theorem sX12_later_16 : Wp mX12_later d 16 L (.int z :: .int x :: S) M N P Q = Wp mX12_later d 17 L (.int (x + z) :: S) M N P Q := wp_iadd rfl dX12_later_16
theorem sX12_later_17 : Wp mX12_later d 17 L S M N P Q = Wp mX12_later d 19 L (.int (36499) :: S) M N P Q := wp_ldc rfl dX12_later_17 rfl rfl
theorem sX12_later_19 : Wp mX12_later d 19 L (.int z :: .int x :: S) M N P Q = (if x ≤ z then Wp mX12_later d 24 L S M N P Q else Wp mX12_later d 22 L S M N P Q) := wp_icmp_le rfl dX12_later_19 rfl
theorem sX12_later_22 : Wp mX12_later d 22 L S M N P Q = Wp mX12_later d 23 L (.int (-1) :: S) M N P Q := wp_iconst rfl dX12_later_22 rfl
theorem sX12_later_23 : Wp mX12_later d 23 L [.int x] M N P Q = Q (some (.int x)) M N P := wp_iret rfl dX12_later_23 rfl rfl
theorem sX12_later_24 : Wp mX12_later d 24 (.ref r :: L) S M N P Q = Wp mX12_later d 25 (.ref r :: L) (.ref r :: S) M N P Q := wp_aload_n rfl dX12_later_24 rfl
theorem sX12_later_25 (hv : a0.category = 1) : Wp mX12_later d 25 L (a0 :: S) M N P Q = Wp mX12_later d 26 L (a0 :: a0 :: S) M N P Q := wp_dup rfl dX12_later_25 hv
theorem sX12_later_26 (hs : shk r = (12, 0)) : Wp mX12_later d 26 L (.ref r :: S) M N P Q = Wp mX12_later d 29 L (.int (M r 8) :: S) M N P Q := wp_getfield rfl dX12_later_26 rfl rfl hs rfl
theorem sX12_later_29 : Wp mX12_later d 29 (a0 :: .int x :: L) S M N P Q = Wp mX12_later d 30 (a0 :: .int x :: L) (.int x :: S) M N P Q := wp_iload_n rfl dX12_later_29 rfl
theorem sX12_later_30 : Wp mX12_later d 30 L (.int z :: .int x :: S) M N P Q = Wp mX12_later d 31 L (.int (x + z) :: S) M N P Q := wp_iadd rfl dX12_later_30
theorem sX12_later_31 (hs : shk r = (12, 0)) : Wp mX12_later d 31 L (.int x :: .ref r :: S) M N P Q = Wp mX12_later d 34 L S (up2 M r 8 x) N P Q := wp_putI rfl dX12_later_31 rfl rfl hs rfl ⟨_, _, _, _, rfl, by decide, rfl, tyX12_ok 8 (by decide), rfl, rfl⟩
theorem sX12_later_34 : Wp mX12_later d 34 (.ref r :: L) S M N P Q = Wp mX12_later d 35 (.ref r :: L) (.ref r :: S) M N P Q := wp_aload_n rfl dX12_later_34 rfl
theorem sX12_later_35 (hs : shk r = (12, 0)) : Wp mX12_later d 35 L (.ref r :: S) M N P Q = Wp mX12_later d 38 L (.int (M r 8) :: S) M N P Q := wp_getfield rfl dX12_later_35 rfl rfl hs rfl
theorem sX12_later_38 : Wp mX12_later d 38 L [.int x] M N P Q = Q (some (.int x)) M N P := wp_iret rfl dX12_later_38 rfl rfl
theorem sX12_counts_0 : Wp mX12_counts d 0 (.ref r :: L) S M N P Q = Wp mX12_counts d 1 (.ref r :: L) (.ref r :: S) M N P Q := wp_aload_n rfl dX12_counts_0 rfl
theorem sX12_counts_1 (hs : shk r = (12, 0)) : Wp mX12_counts d 1 L (.ref r :: S) M N P Q = Wp mX12_counts d 4 L (.ref (P r 15) :: S) M N P Q := wp_getfield rfl dX12_counts_1 rfl rfl hs rfl
theorem sX12_counts_4 : Wp mX12_counts d 4 (a0 :: .int x :: L) S M N P Q = Wp mX12_counts d 5 (a0 :: .int x :: L) (.int x :: S) M N P Q := wp_iload_n rfl dX12_counts_4 rfl
theorem sX12_counts_5 (hs : (shk r).1 = 100) : Wp mX12_counts d 5 L (.int j :: .ref r :: S) M N P Q = (vp_in j (shk r).2 ∧ Wp mX12_counts d 6 L (.int (M r j.toNatClampNeg) :: S) M N P Q) := wp_iaload rfl dX12_counts_5 (kd hs)
theorem sX12_counts_6 : Wp mX12_counts d 6 (a0 :: a1 :: .int x :: L) S M N P Q = Wp mX12_counts d 7 (a0 :: a1 :: .int x :: L) (.int x :: S) M N P Q := wp_iload_n rfl dX12_counts_6 rfl
theorem sX12_counts_7 : Wp mX12_counts d 7 L (.int z :: .int x :: S) M N P Q = (if z < x then Wp mX12_counts d 33 L S M N P Q else Wp mX12_counts d 10 L S M N P Q) := wp_icmp_gt rfl dX12_counts_7 rfl
theorem sX12_counts_10 : Wp mX12_counts d 10 (.ref r :: L) S M N P Q = Wp mX12_counts d 11 (.ref r :: L) (.ref r :: S) M N P Q := wp_aload_n rfl dX12_counts_10 rfl
theorem sX12_counts_11 (hs : shk r = (12, 0)) : Wp mX12_counts d 11 L (.ref r :: S) M N P Q = Wp mX12_counts d 14 L (.ref (P r 16) :: S) M N P Q := wp_getfield rfl dX12_counts_11 rfl rfl hs rfl
theorem sX12_counts_14 : Wp mX12_counts d 14 (a0 :: .int x :: L) S M N P Q = Wp mX12_counts d 15 (a0 :: .int x :: L) (.int x :: S) M N P Q := wp_iload_n rfl dX12_counts_14 rfl
theorem sX12_counts_15 (hs : (shk r).1 = 100) : Wp mX12_counts d 15 L (.int j :: .ref r :: S) M N P Q = (vp_in j (shk r).2 ∧ Wp mX12_counts d 16 L (.int (M r j.toNatClampNeg) :: S) M N P Q) := wp_iaload rfl dX12_counts_15 (kd hs)
theorem sX12_counts_16 : Wp mX12_counts d 16 L (.int x :: S) M N P Q = (if x < 0 then Wp mX12_counts d 29 L S M N P Q else Wp mX12_counts d 19 L S M N P Q) := wp_if_lt rfl dX12_counts_16 rfl
theorem sX12_counts_19 : Wp mX12_counts d 19 (.ref r :: L) S M N P Q = Wp mX12_counts d 20 (.ref r :: L) (.ref r :: S) M N P Q := wp_aload_n rfl dX12_counts_19 rfl
theorem sX12_counts_20 (hs : shk r = (12, 0)) : Wp mX12_counts d 20 L (.ref r :: S) M N P Q = Wp mX12_counts d 23 L (.ref (P r 16) :: S) M N P Q := wp_getfield rfl dX12_counts_20 rfl rfl hs rfl
theorem sX12_counts_23 : Wp mX12_counts d 23 (a0 :: .int x :: L) S M N P Q = Wp mX12_counts d 24 (a0 :: .int x :: L) (.int x :: S) M N P Q := wp_iload_n rfl dX12_counts_23 rfl
theorem sX12_counts_24 (hs : (shk r).1 = 100) : Wp mX12_counts d 24 L (.int j :: .ref r :: S) M N P Q = (vp_in j (shk r).2 ∧ Wp mX12_counts d 25 L (.int (M r j.toNatClampNeg) :: S) M N P Q) := wp_iaload rfl dX12_counts_24 (kd hs)
theorem sX12_counts_25 : Wp mX12_counts d 25 (a0 :: a1 :: .int x :: L) S M N P Q = Wp mX12_counts d 26 (a0 :: a1 :: .int x :: L) (.int x :: S) M N P Q := wp_iload_n rfl dX12_counts_25 rfl
theorem sX12_counts_26 : Wp mX12_counts d 26 L (.int z :: .int x :: S) M N P Q = (if x ≤ z then Wp mX12_counts d 33 L S M N P Q else Wp mX12_counts d 29 L S M N P Q) := wp_icmp_le rfl dX12_counts_26 rfl
theorem sX12_counts_29 : Wp mX12_counts d 29 L S M N P Q = Wp mX12_counts d 30 L (.int 1 :: S) M N P Q := wp_iconst rfl dX12_counts_29 rfl
theorem sX12_counts_30 : Wp mX12_counts d 30 L S M N P Q = Wp mX12_counts d 34 L S M N P Q := wp_goto rfl dX12_counts_30 rfl
theorem sX12_counts_33 : Wp mX12_counts d 33 L S M N P Q = Wp mX12_counts d 34 L (.int 0 :: S) M N P Q := wp_iconst rfl dX12_counts_33 rfl
theorem sX12_counts_34 (hb : bit x) : Wp mX12_counts d 34 L [.int x] M N P Q = Q (some (.int x)) M N P := wp_iret rfl dX12_counts_34 rfl (bit_n hb)
theorem sX12_follow_0 : Wp mX12_follow d 0 (.ref r :: L) S M N P Q = Wp mX12_follow d 1 (.ref r :: L) (.ref r :: S) M N P Q := wp_aload_n rfl dX12_follow_0 rfl
theorem sX12_follow_1 : Wp mX12_follow d 1 L S M N P Q = Wp mX12_follow d 2 L (.int 0 :: S) M N P Q := wp_iconst rfl dX12_follow_1 rfl
theorem sX12_follow_2 (hs : shk r = (12, 0)) : Wp mX12_follow d 2 L (.int x :: .ref r :: S) M N P Q = Wp mX12_follow d 5 L S (up2 M r 20 x) N P Q := wp_putI rfl dX12_follow_2 rfl rfl hs rfl ⟨_, _, _, _, rfl, by decide, rfl, tyX12_ok 20 (by decide), rfl, rfl⟩
theorem sX12_follow_5 : Wp mX12_follow d 5 L S M N P Q = Wp mX12_follow d 6 L (.int 0 :: S) M N P Q := wp_iconst rfl dX12_follow_5 rfl
theorem sX12_follow_6 (hn : nl a3 = true) : Wp mX12_follow d 6 (a0 :: a1 :: a2 :: a3 :: a4 :: L) (.int x :: S) M N P Q = Wp mX12_follow d 8 (a0 :: a1 :: a2 :: a3 :: .int x :: L) S M N P Q := wp_istore rfl dX12_follow_6 (lenGt4 ..) (okst4 hn) rfl
theorem sX12_follow_8 : Wp mX12_follow d 8 (a0 :: a1 :: a2 :: a3 :: .int x :: L) S M N P Q = Wp mX12_follow d 10 (a0 :: a1 :: a2 :: a3 :: .int x :: L) (.int x :: S) M N P Q := wp_iload rfl dX12_follow_8 rfl
theorem sX12_follow_10 : Wp mX12_follow d 10 (.ref r :: L) S M N P Q = Wp mX12_follow d 11 (.ref r :: L) (.ref r :: S) M N P Q := wp_aload_n rfl dX12_follow_10 rfl
theorem sX12_follow_11 (hs : shk r = (12, 0)) : Wp mX12_follow d 11 L (.ref r :: S) M N P Q = Wp mX12_follow d 14 L (.int (M r 19) :: S) M N P Q := wp_getfield rfl dX12_follow_11 rfl rfl hs rfl
theorem sX12_follow_14 : Wp mX12_follow d 14 L (.int z :: .int x :: S) M N P Q = (if z ≤ x then Wp mX12_follow d 123 L S M N P Q else Wp mX12_follow d 17 L S M N P Q) := wp_icmp_ge rfl dX12_follow_14 rfl
theorem sX12_follow_17 : Wp mX12_follow d 17 (.ref r :: L) S M N P Q = Wp mX12_follow d 18 (.ref r :: L) (.ref r :: S) M N P Q := wp_aload_n rfl dX12_follow_17 rfl
theorem sX12_follow_18 (hs : shk r = (12, 0)) : Wp mX12_follow d 18 L (.ref r :: S) M N P Q = Wp mX12_follow d 21 L (.ref (P r 9) :: S) M N P Q := wp_getfield rfl dX12_follow_18 rfl rfl hs rfl
theorem sX12_follow_21 : Wp mX12_follow d 21 (a0 :: a1 :: a2 :: a3 :: .int x :: L) S M N P Q = Wp mX12_follow d 23 (a0 :: a1 :: a2 :: a3 :: .int x :: L) (.int x :: S) M N P Q := wp_iload rfl dX12_follow_21 rfl
theorem sX12_follow_23 (hs : (shk r).1 = 100) : Wp mX12_follow d 23 L (.int j :: .ref r :: S) M N P Q = (vp_in j (shk r).2 ∧ Wp mX12_follow d 24 L (.int (M r j.toNatClampNeg) :: S) M N P Q) := wp_iaload rfl dX12_follow_23 (kd hs)
theorem sX12_follow_24 : Wp mX12_follow d 24 (a0 :: .int x :: L) S M N P Q = Wp mX12_follow d 25 (a0 :: .int x :: L) (.int x :: S) M N P Q := wp_iload_n rfl dX12_follow_24 rfl
theorem sX12_follow_25 : Wp mX12_follow d 25 L (.int z :: .int x :: S) M N P Q = (if x = z then Wp mX12_follow d 28 L S M N P Q else Wp mX12_follow d 117 L S M N P Q) := wp_icmp_ne rfl dX12_follow_25 rfl
theorem sX12_follow_28 : Wp mX12_follow d 28 (.ref r :: L) S M N P Q = Wp mX12_follow d 29 (.ref r :: L) (.ref r :: S) M N P Q := wp_aload_n rfl dX12_follow_28 rfl
theorem sX12_follow_29 : Wp mX12_follow d 29 (a0 :: a1 :: a2 :: a3 :: .int x :: L) S M N P Q = Wp mX12_follow d 31 (a0 :: a1 :: a2 :: a3 :: .int x :: L) (.int x :: S) M N P Q := wp_iload rfl dX12_follow_29 rfl
theorem sX12_follow_31 : Wp mX12_follow d 31 (a0 :: a1 :: a2 :: .int x :: L) S M N P Q = Wp mX12_follow d 32 (a0 :: a1 :: a2 :: .int x :: L) (.int x :: S) M N P Q := wp_iload_n rfl dX12_follow_31 rfl
theorem sX12_follow_32 {x0 : Int32} {x1 : Int32} (hs : shk r = (12, 0)) (hS : stk S ≤ 8) : Wp mX12_follow (d + 1) 32 L (.int x1 :: .int x0 :: .ref r :: S) M N P Q = Wp mX12_counts d 0 [.ref r, .int x0, .int x1] [] M N P (fun v M' N' P' => Wp mX12_follow (d + 1) 35 L (v.toList ++ S) M' N' P' Q) := wp_callV (As := [.int x0, .int x1]) rfl dX12_follow_32 rfl rfl (Or.inl ⟨_, _, _, hs, rfl⟩) rfl ⟨rfl, Nat.le_of_ble_eq_true rfl, Nat.le_of_ble_eq_true rfl⟩ rfl hS
theorem sX12_follow_35 : Wp mX12_follow d 35 L (.int x :: S) M N P Q = (if x = 0 then Wp mX12_follow d 38 L S M N P Q else Wp mX12_follow d 41 L S M N P Q) := wp_if_ne rfl dX12_follow_35 rfl
theorem sX12_follow_38 : Wp mX12_follow d 38 L S M N P Q = Wp mX12_follow d 117 L S M N P Q := wp_goto rfl dX12_follow_38 rfl
theorem sX12_follow_41 : Wp mX12_follow d 41 (.ref r :: L) S M N P Q = Wp mX12_follow d 42 (.ref r :: L) (.ref r :: S) M N P Q := wp_aload_n rfl dX12_follow_41 rfl
theorem sX12_follow_42 (hs : shk r = (12, 0)) : Wp mX12_follow d 42 L (.ref r :: S) M N P Q = Wp mX12_follow d 45 L (.int (M r 20) :: S) M N P Q := wp_getfield rfl dX12_follow_42 rfl rfl hs rfl
theorem sX12_follow_45 (hn : nl a4 = true) : Wp mX12_follow d 45 (a0 :: a1 :: a2 :: a3 :: a4 :: a5 :: L) (.int x :: S) M N P Q = Wp mX12_follow d 47 (a0 :: a1 :: a2 :: a3 :: a4 :: .int x :: L) S M N P Q := wp_istore rfl dX12_follow_45 (lenGt5 ..) (okst5 hn) rfl
theorem sX12_follow_47 : Wp mX12_follow d 47 (a0 :: a1 :: a2 :: a3 :: a4 :: .int x :: L) S M N P Q = Wp mX12_follow d 49 (a0 :: a1 :: a2 :: a3 :: a4 :: .int x :: L) (.int x :: S) M N P Q := wp_iload rfl dX12_follow_47 rfl
theorem sX12_follow_49 : Wp mX12_follow d 49 L (.int x :: S) M N P Q = (if x ≤ 0 then Wp mX12_follow d 98 L S M N P Q else Wp mX12_follow d 52 L S M N P Q) := wp_if_le rfl dX12_follow_49 rfl
theorem sX12_follow_52 : Wp mX12_follow d 52 (.ref r :: L) S M N P Q = Wp mX12_follow d 53 (.ref r :: L) (.ref r :: S) M N P Q := wp_aload_n rfl dX12_follow_52 rfl
theorem sX12_follow_53 (hs : shk r = (12, 0)) : Wp mX12_follow d 53 L (.ref r :: S) M N P Q = Wp mX12_follow d 56 L (.ref (P r 12) :: S) M N P Q := wp_getfield rfl dX12_follow_53 rfl rfl hs rfl
theorem sX12_follow_56 : Wp mX12_follow d 56 (.ref r :: L) S M N P Q = Wp mX12_follow d 57 (.ref r :: L) (.ref r :: S) M N P Q := wp_aload_n rfl dX12_follow_56 rfl
theorem sX12_follow_57 (hs : shk r = (12, 0)) : Wp mX12_follow d 57 L (.ref r :: S) M N P Q = Wp mX12_follow d 60 L (.ref (P r 17) :: S) M N P Q := wp_getfield rfl dX12_follow_57 rfl rfl hs rfl
theorem sX12_follow_60 : Wp mX12_follow d 60 (a0 :: a1 :: a2 :: a3 :: a4 :: .int x :: L) S M N P Q = Wp mX12_follow d 62 (a0 :: a1 :: a2 :: a3 :: a4 :: .int x :: L) (.int x :: S) M N P Q := wp_iload rfl dX12_follow_60 rfl
theorem sX12_follow_62 : Wp mX12_follow d 62 L S M N P Q = Wp mX12_follow d 63 L (.int 1 :: S) M N P Q := wp_iconst rfl dX12_follow_62 rfl
theorem sX12_follow_63 : Wp mX12_follow d 63 L (.int z :: .int x :: S) M N P Q = Wp mX12_follow d 64 L (.int (x - z) :: S) M N P Q := wp_isub rfl dX12_follow_63
theorem sX12_follow_64 (hs : (shk r).1 = 100) : Wp mX12_follow d 64 L (.int j :: .ref r :: S) M N P Q = (vp_in j (shk r).2 ∧ Wp mX12_follow d 65 L (.int (M r j.toNatClampNeg) :: S) M N P Q) := wp_iaload rfl dX12_follow_64 (kd hs)
theorem sX12_follow_65 (hs : (shk r).1 = 100) : Wp mX12_follow d 65 L (.int j :: .ref r :: S) M N P Q = (vp_in j (shk r).2 ∧ Wp mX12_follow d 66 L (.int (M r j.toNatClampNeg) :: S) M N P Q) := wp_iaload rfl dX12_follow_65 (kd hs)
theorem sX12_follow_66 : Wp mX12_follow d 66 (.ref r :: L) S M N P Q = Wp mX12_follow d 67 (.ref r :: L) (.ref r :: S) M N P Q := wp_aload_n rfl dX12_follow_66 rfl
theorem sX12_follow_67 (hs : shk r = (12, 0)) : Wp mX12_follow d 67 L (.ref r :: S) M N P Q = Wp mX12_follow d 70 L (.ref (P r 12) :: S) M N P Q := wp_getfield rfl dX12_follow_67 rfl rfl hs rfl
theorem sX12_follow_70 : Wp mX12_follow d 70 (a0 :: a1 :: a2 :: a3 :: .int x :: L) S M N P Q = Wp mX12_follow d 72 (a0 :: a1 :: a2 :: a3 :: .int x :: L) (.int x :: S) M N P Q := wp_iload rfl dX12_follow_70 rfl
theorem sX12_follow_72 (hs : (shk r).1 = 100) : Wp mX12_follow d 72 L (.int j :: .ref r :: S) M N P Q = (vp_in j (shk r).2 ∧ Wp mX12_follow d 73 L (.int (M r j.toNatClampNeg) :: S) M N P Q) := wp_iaload rfl dX12_follow_72 (kd hs)
theorem sX12_follow_73 : Wp mX12_follow d 73 L (.int z :: .int x :: S) M N P Q = (if x ≤ z then Wp mX12_follow d 98 L S M N P Q else Wp mX12_follow d 76 L S M N P Q) := wp_icmp_le rfl dX12_follow_73 rfl
theorem sX12_follow_76 : Wp mX12_follow d 76 (.ref r :: L) S M N P Q = Wp mX12_follow d 77 (.ref r :: L) (.ref r :: S) M N P Q := wp_aload_n rfl dX12_follow_76 rfl
theorem sX12_follow_77 (hs : shk r = (12, 0)) : Wp mX12_follow d 77 L (.ref r :: S) M N P Q = Wp mX12_follow d 80 L (.ref (P r 17) :: S) M N P Q := wp_getfield rfl dX12_follow_77 rfl rfl hs rfl
theorem sX12_follow_80 : Wp mX12_follow d 80 (a0 :: a1 :: a2 :: a3 :: a4 :: .int x :: L) S M N P Q = Wp mX12_follow d 82 (a0 :: a1 :: a2 :: a3 :: a4 :: .int x :: L) (.int x :: S) M N P Q := wp_iload rfl dX12_follow_80 rfl
theorem sX12_follow_82 : Wp mX12_follow d 82 (.ref r :: L) S M N P Q = Wp mX12_follow d 83 (.ref r :: L) (.ref r :: S) M N P Q := wp_aload_n rfl dX12_follow_82 rfl
theorem sX12_follow_83 (hs : shk r = (12, 0)) : Wp mX12_follow d 83 L (.ref r :: S) M N P Q = Wp mX12_follow d 86 L (.ref (P r 17) :: S) M N P Q := wp_getfield rfl dX12_follow_83 rfl rfl hs rfl
theorem sX12_follow_86 : Wp mX12_follow d 86 (a0 :: a1 :: a2 :: a3 :: a4 :: .int x :: L) S M N P Q = Wp mX12_follow d 88 (a0 :: a1 :: a2 :: a3 :: a4 :: .int x :: L) (.int x :: S) M N P Q := wp_iload rfl dX12_follow_86 rfl
theorem sX12_follow_88 : Wp mX12_follow d 88 L S M N P Q = Wp mX12_follow d 89 L (.int 1 :: S) M N P Q := wp_iconst rfl dX12_follow_88 rfl
theorem sX12_follow_89 : Wp mX12_follow d 89 L (.int z :: .int x :: S) M N P Q = Wp mX12_follow d 90 L (.int (x - z) :: S) M N P Q := wp_isub rfl dX12_follow_89
theorem sX12_follow_90 (hs : (shk r).1 = 100) : Wp mX12_follow d 90 L (.int j :: .ref r :: S) M N P Q = (vp_in j (shk r).2 ∧ Wp mX12_follow d 91 L (.int (M r j.toNatClampNeg) :: S) M N P Q) := wp_iaload rfl dX12_follow_90 (kd hs)
theorem sX12_follow_91 (hs : (shk r).1 = 100) : Wp mX12_follow d 91 L (.int x :: .int j :: .ref r :: S) M N P Q = (vp_in j (shk r).2 ∧ Wp mX12_follow d 92 L S (up2 M r j.toNatClampNeg x) N P Q) := wp_iastore rfl dX12_follow_91 (kd hs)
theorem sX12_follow_92 (hn : nl a4 = true) : Wp mX12_follow d 92 (a0 :: a1 :: a2 :: a3 :: a4 :: .int x :: L) S M N P Q = Wp mX12_follow d 95 (a0 :: a1 :: a2 :: a3 :: a4 :: .int (x + (-1)) :: L) S M N P Q := wp_iinc rfl dX12_follow_92 rfl rfl (okst5 hn) rfl
theorem sX12_follow_95 : Wp mX12_follow d 95 L S M N P Q = Wp mX12_follow d 47 L S M N P Q := wp_goto rfl dX12_follow_95 rfl
theorem sX12_follow_98 : Wp mX12_follow d 98 (.ref r :: L) S M N P Q = Wp mX12_follow d 99 (.ref r :: L) (.ref r :: S) M N P Q := wp_aload_n rfl dX12_follow_98 rfl
theorem sX12_follow_99 (hs : shk r = (12, 0)) : Wp mX12_follow d 99 L (.ref r :: S) M N P Q = Wp mX12_follow d 102 L (.ref (P r 17) :: S) M N P Q := wp_getfield rfl dX12_follow_99 rfl rfl hs rfl
theorem sX12_follow_102 : Wp mX12_follow d 102 (a0 :: a1 :: a2 :: a3 :: a4 :: .int x :: L) S M N P Q = Wp mX12_follow d 104 (a0 :: a1 :: a2 :: a3 :: a4 :: .int x :: L) (.int x :: S) M N P Q := wp_iload rfl dX12_follow_102 rfl
theorem sX12_follow_104 : Wp mX12_follow d 104 (a0 :: a1 :: a2 :: a3 :: .int x :: L) S M N P Q = Wp mX12_follow d 106 (a0 :: a1 :: a2 :: a3 :: .int x :: L) (.int x :: S) M N P Q := wp_iload rfl dX12_follow_104 rfl
theorem sX12_follow_106 (hs : (shk r).1 = 100) : Wp mX12_follow d 106 L (.int x :: .int j :: .ref r :: S) M N P Q = (vp_in j (shk r).2 ∧ Wp mX12_follow d 107 L S (up2 M r j.toNatClampNeg x) N P Q) := wp_iastore rfl dX12_follow_106 (kd hs)
theorem sX12_follow_107 : Wp mX12_follow d 107 (.ref r :: L) S M N P Q = Wp mX12_follow d 108 (.ref r :: L) (.ref r :: S) M N P Q := wp_aload_n rfl dX12_follow_107 rfl
theorem sX12_follow_108 (hv : a0.category = 1) : Wp mX12_follow d 108 L (a0 :: S) M N P Q = Wp mX12_follow d 109 L (a0 :: a0 :: S) M N P Q := wp_dup rfl dX12_follow_108 hv
theorem sX12_follow_109 (hs : shk r = (12, 0)) : Wp mX12_follow d 109 L (.ref r :: S) M N P Q = Wp mX12_follow d 112 L (.int (M r 20) :: S) M N P Q := wp_getfield rfl dX12_follow_109 rfl rfl hs rfl
theorem sX12_follow_112 : Wp mX12_follow d 112 L S M N P Q = Wp mX12_follow d 113 L (.int 1 :: S) M N P Q := wp_iconst rfl dX12_follow_112 rfl
theorem sX12_follow_113 : Wp mX12_follow d 113 L (.int z :: .int x :: S) M N P Q = Wp mX12_follow d 114 L (.int (x + z) :: S) M N P Q := wp_iadd rfl dX12_follow_113
theorem sX12_follow_114 (hs : shk r = (12, 0)) : Wp mX12_follow d 114 L (.int x :: .ref r :: S) M N P Q = Wp mX12_follow d 117 L S (up2 M r 20 x) N P Q := wp_putI rfl dX12_follow_114 rfl rfl hs rfl ⟨_, _, _, _, rfl, by decide, rfl, tyX12_ok 20 (by decide), rfl, rfl⟩
theorem sX12_follow_117 (hn : nl a3 = true) : Wp mX12_follow d 117 (a0 :: a1 :: a2 :: a3 :: .int x :: L) S M N P Q = Wp mX12_follow d 120 (a0 :: a1 :: a2 :: a3 :: .int (x + 1) :: L) S M N P Q := wp_iinc rfl dX12_follow_117 rfl rfl (okst4 hn) rfl
theorem sX12_follow_120 : Wp mX12_follow d 120 L S M N P Q = Wp mX12_follow d 8 L S M N P Q := wp_goto rfl dX12_follow_120 rfl
theorem sX12_follow_123 : Wp mX12_follow d 123 (.ref r :: L) S M N P Q = Wp mX12_follow d 124 (.ref r :: L) (.ref r :: S) M N P Q := wp_aload_n rfl dX12_follow_123 rfl
theorem sX12_follow_124 (hs : shk r = (12, 0)) : Wp mX12_follow d 124 L (.ref r :: S) M N P Q = Wp mX12_follow d 127 L (.ref (P r 3) :: S) M N P Q := wp_getfield rfl dX12_follow_124 rfl rfl hs rfl
theorem sX12_follow_127 : Wp mX12_follow d 127 (a0 :: .int x :: L) S M N P Q = Wp mX12_follow d 128 (a0 :: .int x :: L) (.int x :: S) M N P Q := wp_iload_n rfl dX12_follow_127 rfl
theorem sX12_follow_128 (hs : (shk r).1 = 100) : Wp mX12_follow d 128 L (.int j :: .ref r :: S) M N P Q = (vp_in j (shk r).2 ∧ Wp mX12_follow d 129 L (.int (M r j.toNatClampNeg) :: S) M N P Q) := wp_iaload rfl dX12_follow_128 (kd hs)
theorem sX12_follow_129 (hn : nl a3 = true) : Wp mX12_follow d 129 (a0 :: a1 :: a2 :: a3 :: a4 :: L) (.int x :: S) M N P Q = Wp mX12_follow d 131 (a0 :: a1 :: a2 :: a3 :: .int x :: L) S M N P Q := wp_istore rfl dX12_follow_129 (lenGt4 ..) (okst4 hn) rfl
theorem sX12_follow_131 : Wp mX12_follow d 131 (a0 :: a1 :: a2 :: a3 :: .int x :: L) S M N P Q = Wp mX12_follow d 133 (a0 :: a1 :: a2 :: a3 :: .int x :: L) (.int x :: S) M N P Q := wp_iload rfl dX12_follow_131 rfl
theorem sX12_follow_133 (hn : nl a4 = true) : Wp mX12_follow d 133 (a0 :: a1 :: a2 :: a3 :: a4 :: a5 :: L) (.int x :: S) M N P Q = Wp mX12_follow d 135 (a0 :: a1 :: a2 :: a3 :: a4 :: .int x :: L) S M N P Q := wp_istore rfl dX12_follow_133 (lenGt5 ..) (okst5 hn) rfl
theorem sX12_follow_135 : Wp mX12_follow d 135 L S M N P Q = Wp mX12_follow d 136 L (.int 0 :: S) M N P Q := wp_iconst rfl dX12_follow_135 rfl
theorem sX12_follow_136 (hn : nl a5 = true) : Wp mX12_follow d 136 (a0 :: a1 :: a2 :: a3 :: a4 :: a5 :: a6 :: L) (.int x :: S) M N P Q = Wp mX12_follow d 138 (a0 :: a1 :: a2 :: a3 :: a4 :: a5 :: .int x :: L) S M N P Q := wp_istore rfl dX12_follow_136 (lenGt6 ..) (okst6 hn) rfl
theorem sX12_follow_138 : Wp mX12_follow d 138 (a0 :: a1 :: a2 :: a3 :: a4 :: a5 :: .int x :: L) S M N P Q = Wp mX12_follow d 140 (a0 :: a1 :: a2 :: a3 :: a4 :: a5 :: .int x :: L) (.int x :: S) M N P Q := wp_iload rfl dX12_follow_138 rfl
theorem sX12_follow_140 : Wp mX12_follow d 140 (.ref r :: L) S M N P Q = Wp mX12_follow d 141 (.ref r :: L) (.ref r :: S) M N P Q := wp_aload_n rfl dX12_follow_140 rfl
theorem sX12_follow_141 (hs : shk r = (12, 0)) : Wp mX12_follow d 141 L (.ref r :: S) M N P Q = Wp mX12_follow d 144 L (.int (M r 20) :: S) M N P Q := wp_getfield rfl dX12_follow_141 rfl rfl hs rfl
theorem sX12_follow_144 : Wp mX12_follow d 144 L (.int z :: .int x :: S) M N P Q = (if z ≤ x then Wp mX12_follow d 220 L S M N P Q else Wp mX12_follow d 147 L S M N P Q) := wp_icmp_ge rfl dX12_follow_144 rfl
theorem sX12_follow_147 : Wp mX12_follow d 147 (.ref r :: L) S M N P Q = Wp mX12_follow d 148 (.ref r :: L) (.ref r :: S) M N P Q := wp_aload_n rfl dX12_follow_147 rfl
theorem sX12_follow_148 (hs : shk r = (12, 0)) : Wp mX12_follow d 148 L (.ref r :: S) M N P Q = Wp mX12_follow d 151 L (.ref (P r 17) :: S) M N P Q := wp_getfield rfl dX12_follow_148 rfl rfl hs rfl
theorem sX12_follow_151 : Wp mX12_follow d 151 (a0 :: a1 :: a2 :: a3 :: a4 :: a5 :: .int x :: L) S M N P Q = Wp mX12_follow d 153 (a0 :: a1 :: a2 :: a3 :: a4 :: a5 :: .int x :: L) (.int x :: S) M N P Q := wp_iload rfl dX12_follow_151 rfl
theorem sX12_follow_153 (hs : (shk r).1 = 100) : Wp mX12_follow d 153 L (.int j :: .ref r :: S) M N P Q = (vp_in j (shk r).2 ∧ Wp mX12_follow d 154 L (.int (M r j.toNatClampNeg) :: S) M N P Q) := wp_iaload rfl dX12_follow_153 (kd hs)
theorem sX12_follow_154 (hn : nl a6 = true) : Wp mX12_follow d 154 (a0 :: a1 :: a2 :: a3 :: a4 :: a5 :: a6 :: a7 :: L) (.int x :: S) M N P Q = Wp mX12_follow d 156 (a0 :: a1 :: a2 :: a3 :: a4 :: a5 :: a6 :: .int x :: L) S M N P Q := wp_istore rfl dX12_follow_154 (lenGt7 ..) (okst7 hn) rfl
theorem sX12_follow_156 : Wp mX12_follow d 156 (.ref r :: L) S M N P Q = Wp mX12_follow d 157 (.ref r :: L) (.ref r :: S) M N P Q := wp_aload_n rfl dX12_follow_156 rfl
theorem sX12_follow_157 (hs : shk r = (12, 0)) : Wp mX12_follow d 157 L (.ref r :: S) M N P Q = Wp mX12_follow d 160 L (.ref (P r 18) :: S) M N P Q := wp_getfield rfl dX12_follow_157 rfl rfl hs rfl
theorem sX12_follow_160 : Wp mX12_follow d 160 (a0 :: a1 :: a2 :: a3 :: a4 :: a5 :: a6 :: .int x :: L) S M N P Q = Wp mX12_follow d 162 (a0 :: a1 :: a2 :: a3 :: a4 :: a5 :: a6 :: .int x :: L) (.int x :: S) M N P Q := wp_iload rfl dX12_follow_160 rfl
theorem sX12_follow_162 : Wp mX12_follow d 162 (.ref r :: L) S M N P Q = Wp mX12_follow d 163 (.ref r :: L) (.ref r :: S) M N P Q := wp_aload_n rfl dX12_follow_162 rfl
theorem sX12_follow_163 (hs : shk r = (12, 0)) : Wp mX12_follow d 163 L (.ref r :: S) M N P Q = Wp mX12_follow d 166 L (.ref (P r 10) :: S) M N P Q := wp_getfield rfl dX12_follow_163 rfl rfl hs rfl
theorem sX12_follow_166 : Wp mX12_follow d 166 (a0 :: a1 :: a2 :: a3 :: a4 :: a5 :: a6 :: .int x :: L) S M N P Q = Wp mX12_follow d 168 (a0 :: a1 :: a2 :: a3 :: a4 :: a5 :: a6 :: .int x :: L) (.int x :: S) M N P Q := wp_iload rfl dX12_follow_166 rfl
theorem sX12_follow_168 (hs : (shk r).1 = 100) : Wp mX12_follow d 168 L (.int j :: .ref r :: S) M N P Q = (vp_in j (shk r).2 ∧ Wp mX12_follow d 169 L (.int (M r j.toNatClampNeg) :: S) M N P Q) := wp_iaload rfl dX12_follow_168 (kd hs)
theorem sX12_follow_169 : Wp mX12_follow d 169 (a0 :: a1 :: a2 :: a3 :: .int x :: L) S M N P Q = Wp mX12_follow d 171 (a0 :: a1 :: a2 :: a3 :: .int x :: L) (.int x :: S) M N P Q := wp_iload rfl dX12_follow_169 rfl
theorem sX12_follow_171 : Wp mX12_follow d 171 L (.int z :: .int x :: S) M N P Q = (if x = z then Wp mX12_follow d 178 L S M N P Q else Wp mX12_follow d 174 L S M N P Q) := wp_icmp_eq rfl dX12_follow_171 rfl
theorem sX12_follow_174 : Wp mX12_follow d 174 L S M N P Q = Wp mX12_follow d 175 L (.int 1 :: S) M N P Q := wp_iconst rfl dX12_follow_174 rfl
theorem sX12_follow_175 : Wp mX12_follow d 175 L S M N P Q = Wp mX12_follow d 179 L S M N P Q := wp_goto rfl dX12_follow_175 rfl
theorem sX12_follow_178 : Wp mX12_follow d 178 L S M N P Q = Wp mX12_follow d 179 L (.int 0 :: S) M N P Q := wp_iconst rfl dX12_follow_178 rfl
theorem sX12_follow_179 (hs : (shk r).1 = 102) : Wp mX12_follow d 179 L (.int x :: .int j :: .ref r :: S) M N P Q = (vp_in j (shk r).2 ∧ Wp mX12_follow d 180 L S (up2 M r j.toNatClampNeg (x &&& 1)) N P Q) := wp_bastoreZ rfl dX12_follow_179 (kd hs)
theorem sX12_follow_180 : Wp mX12_follow d 180 (.ref r :: L) S M N P Q = Wp mX12_follow d 181 (.ref r :: L) (.ref r :: S) M N P Q := wp_aload_n rfl dX12_follow_180 rfl
theorem sX12_follow_181 (hs : shk r = (12, 0)) : Wp mX12_follow d 181 L (.ref r :: S) M N P Q = Wp mX12_follow d 184 L (.ref (P r 18) :: S) M N P Q := wp_getfield rfl dX12_follow_181 rfl rfl hs rfl
theorem sX12_follow_184 : Wp mX12_follow d 184 (a0 :: a1 :: a2 :: a3 :: a4 :: a5 :: a6 :: .int x :: L) S M N P Q = Wp mX12_follow d 186 (a0 :: a1 :: a2 :: a3 :: a4 :: a5 :: a6 :: .int x :: L) (.int x :: S) M N P Q := wp_iload rfl dX12_follow_184 rfl
theorem sX12_follow_186 (hc : isB (shk r).1 = true) : Wp mX12_follow d 186 L (.int j :: .ref r :: S) M N P Q = (vp_in j (shk r).2 ∧ Wp mX12_follow d 187 L (.int (M r j.toNatClampNeg) :: S) M N P Q) := wp_baload rfl dX12_follow_186 (isB_or hc) (kd rfl)
theorem sX12_follow_187 : Wp mX12_follow d 187 L (.int x :: S) M N P Q = (if x = 0 then Wp mX12_follow d 190 L S M N P Q else Wp mX12_follow d 199 L S M N P Q) := wp_if_ne rfl dX12_follow_187 rfl
theorem sX12_follow_190 : Wp mX12_follow d 190 (.ref r :: L) S M N P Q = Wp mX12_follow d 191 (.ref r :: L) (.ref r :: S) M N P Q := wp_aload_n rfl dX12_follow_190 rfl
theorem sX12_follow_191 (hs : shk r = (12, 0)) : Wp mX12_follow d 191 L (.ref r :: S) M N P Q = Wp mX12_follow d 194 L (.ref (P r 11) :: S) M N P Q := wp_getfield rfl dX12_follow_191 rfl rfl hs rfl
theorem sX12_follow_194 : Wp mX12_follow d 194 (a0 :: a1 :: a2 :: a3 :: a4 :: a5 :: a6 :: .int x :: L) S M N P Q = Wp mX12_follow d 196 (a0 :: a1 :: a2 :: a3 :: a4 :: a5 :: a6 :: .int x :: L) (.int x :: S) M N P Q := wp_iload rfl dX12_follow_194 rfl
theorem sX12_follow_196 (hs : (shk r).1 = 100) : Wp mX12_follow d 196 L (.int j :: .ref r :: S) M N P Q = (vp_in j (shk r).2 ∧ Wp mX12_follow d 197 L (.int (M r j.toNatClampNeg) :: S) M N P Q) := wp_iaload rfl dX12_follow_196 (kd hs)
theorem sX12_follow_197 (hn : nl a3 = true) : Wp mX12_follow d 197 (a0 :: a1 :: a2 :: a3 :: a4 :: L) (.int x :: S) M N P Q = Wp mX12_follow d 199 (a0 :: a1 :: a2 :: a3 :: .int x :: L) S M N P Q := wp_istore rfl dX12_follow_197 (lenGt4 ..) (okst4 hn) rfl
theorem sX12_follow_199 : Wp mX12_follow d 199 (.ref r :: L) S M N P Q = Wp mX12_follow d 200 (.ref r :: L) (.ref r :: S) M N P Q := wp_aload_n rfl dX12_follow_199 rfl
theorem sX12_follow_200 (hs : shk r = (12, 0)) : Wp mX12_follow d 200 L (.ref r :: S) M N P Q = Wp mX12_follow d 203 L (.ref (P r 12) :: S) M N P Q := wp_getfield rfl dX12_follow_200 rfl rfl hs rfl
theorem sX12_follow_203 : Wp mX12_follow d 203 (a0 :: a1 :: a2 :: a3 :: a4 :: a5 :: a6 :: .int x :: L) S M N P Q = Wp mX12_follow d 205 (a0 :: a1 :: a2 :: a3 :: a4 :: a5 :: a6 :: .int x :: L) (.int x :: S) M N P Q := wp_iload rfl dX12_follow_203 rfl
theorem sX12_follow_205 (hs : (shk r).1 = 100) : Wp mX12_follow d 205 L (.int j :: .ref r :: S) M N P Q = (vp_in j (shk r).2 ∧ Wp mX12_follow d 206 L (.int (M r j.toNatClampNeg) :: S) M N P Q) := wp_iaload rfl dX12_follow_205 (kd hs)
theorem sX12_follow_206 : Wp mX12_follow d 206 (a0 :: a1 :: .int x :: L) S M N P Q = Wp mX12_follow d 207 (a0 :: a1 :: .int x :: L) (.int x :: S) M N P Q := wp_iload_n rfl dX12_follow_206 rfl
theorem sX12_follow_207 : Wp mX12_follow d 207 L (.int z :: .int x :: S) M N P Q = (if z < x then Wp mX12_follow d 214 L S M N P Q else Wp mX12_follow d 210 L S M N P Q) := wp_icmp_gt rfl dX12_follow_207 rfl
theorem sX12_follow_210 : Wp mX12_follow d 210 (a0 :: a1 :: a2 :: a3 :: .int x :: L) S M N P Q = Wp mX12_follow d 212 (a0 :: a1 :: a2 :: a3 :: .int x :: L) (.int x :: S) M N P Q := wp_iload rfl dX12_follow_210 rfl
theorem sX12_follow_212 (hn : nl a4 = true) : Wp mX12_follow d 212 (a0 :: a1 :: a2 :: a3 :: a4 :: a5 :: L) (.int x :: S) M N P Q = Wp mX12_follow d 214 (a0 :: a1 :: a2 :: a3 :: a4 :: .int x :: L) S M N P Q := wp_istore rfl dX12_follow_212 (lenGt5 ..) (okst5 hn) rfl
theorem sX12_follow_214 (hn : nl a5 = true) : Wp mX12_follow d 214 (a0 :: a1 :: a2 :: a3 :: a4 :: a5 :: .int x :: L) S M N P Q = Wp mX12_follow d 217 (a0 :: a1 :: a2 :: a3 :: a4 :: a5 :: .int (x + 1) :: L) S M N P Q := wp_iinc rfl dX12_follow_214 rfl rfl (okst6 hn) rfl
theorem sX12_follow_217 : Wp mX12_follow d 217 L S M N P Q = Wp mX12_follow d 138 L S M N P Q := wp_goto rfl dX12_follow_217 rfl
theorem sX12_follow_220 : Wp mX12_follow d 220 (a0 :: a1 :: a2 :: a3 :: a4 :: .int x :: L) S M N P Q = Wp mX12_follow d 222 (a0 :: a1 :: a2 :: a3 :: a4 :: .int x :: L) (.int x :: S) M N P Q := wp_iload rfl dX12_follow_220 rfl
theorem sX12_follow_222 : Wp mX12_follow d 222 L [.int x] M N P Q = Q (some (.int x)) M N P := wp_iret rfl dX12_follow_222 rfl rfl
theorem sX12_holder_0 : Wp mX12_holder d 0 (.ref r :: L) S M N P Q = Wp mX12_holder d 1 (.ref r :: L) (.ref r :: S) M N P Q := wp_aload_n rfl dX12_holder_0 rfl
theorem sX12_holder_1 : Wp mX12_holder d 1 (a0 :: .int x :: L) S M N P Q = Wp mX12_holder d 2 (a0 :: .int x :: L) (.int x :: S) M N P Q := wp_iload_n rfl dX12_holder_1 rfl
theorem sX12_holder_2 {x0 : Int32} (hs : shk r = (12, 0)) (hS : stk S ≤ 8) : Wp mX12_holder (d + 1) 2 L (.int x0 :: .ref r :: S) M N P Q = Wp mX12_isHouse d 0 [.ref r, .int x0] [] M N P (fun v M' N' P' => Wp mX12_holder (d + 1) 5 L (v.toList ++ S) M' N' P' Q) := wp_callV (As := [.int x0]) rfl dX12_holder_2 rfl rfl (Or.inl ⟨_, _, _, hs, rfl⟩) rfl ⟨rfl, Nat.le_of_ble_eq_true rfl, Nat.le_of_ble_eq_true rfl⟩ rfl hS
theorem sX12_holder_5 : Wp mX12_holder d 5 L (.int x :: S) M N P Q = (if x = 0 then Wp mX12_holder d 18 L S M N P Q else Wp mX12_holder d 8 L S M N P Q) := wp_if_eq rfl dX12_holder_5 rfl
theorem sX12_holder_8 : Wp mX12_holder d 8 (.ref r :: L) S M N P Q = Wp mX12_holder d 9 (.ref r :: L) (.ref r :: S) M N P Q := wp_aload_n rfl dX12_holder_8 rfl
theorem sX12_holder_9 : Wp mX12_holder d 9 (a0 :: .int x :: L) S M N P Q = Wp mX12_holder d 10 (a0 :: .int x :: L) (.int x :: S) M N P Q := wp_iload_n rfl dX12_holder_9 rfl
theorem sX12_holder_10 : Wp mX12_holder d 10 (a0 :: a1 :: .int x :: L) S M N P Q = Wp mX12_holder d 11 (a0 :: a1 :: .int x :: L) (.int x :: S) M N P Q := wp_iload_n rfl dX12_holder_10 rfl
theorem sX12_holder_11 : Wp mX12_holder d 11 (a0 :: a1 :: a2 :: .int x :: L) S M N P Q = Wp mX12_holder d 12 (a0 :: a1 :: a2 :: .int x :: L) (.int x :: S) M N P Q := wp_iload_n rfl dX12_holder_11 rfl
theorem sX12_holder_12 {x0 : Int32} {x1 : Int32} {x2 : Int32} (hs : shk r = (12, 0)) (hS : stk S ≤ 8) : Wp mX12_holder (d + 1) 12 L (.int x2 :: .int x1 :: .int x0 :: .ref r :: S) M N P Q = Wp mX12_follow d 0 [.ref r, .int x0, .int x1, .int x2, .float 0, .float 0, .float 0, .float 0] [] M N P (fun v M' N' P' => Wp mX12_holder (d + 1) 15 L (v.toList ++ S) M' N' P' Q) := wp_callV (As := [.int x0, .int x1, .int x2]) rfl dX12_holder_12 rfl rfl (Or.inl ⟨_, _, _, hs, rfl⟩) rfl ⟨rfl, Nat.le_of_ble_eq_true rfl, Nat.le_of_ble_eq_true rfl⟩ rfl hS
theorem sX12_holder_15 : Wp mX12_holder d 15 L S M N P Q = Wp mX12_holder d 19 L S M N P Q := wp_goto rfl dX12_holder_15 rfl
theorem sX12_holder_18 : Wp mX12_holder d 18 L S M N P Q = Wp mX12_holder d 19 L (.int (-1) :: S) M N P Q := wp_iconst rfl dX12_holder_18 rfl
theorem sX12_holder_19 : Wp mX12_holder d 19 L [.int x] M N P Q = Q (some (.int x)) M N P := wp_iret rfl dX12_holder_19 rfl rfl
theorem sX12_loose_0 : Wp mX12_loose d 0 (.ref r :: L) S M N P Q = Wp mX12_loose d 1 (.ref r :: L) (.ref r :: S) M N P Q := wp_aload_n rfl dX12_loose_0 rfl
theorem sX12_loose_1 : Wp mX12_loose d 1 (a0 :: .int x :: L) S M N P Q = Wp mX12_loose d 2 (a0 :: .int x :: L) (.int x :: S) M N P Q := wp_iload_n rfl dX12_loose_1 rfl
theorem sX12_loose_2 {x0 : Int32} (hs : shk r = (12, 0)) (hS : stk S ≤ 8) : Wp mX12_loose (d + 1) 2 L (.int x0 :: .ref r :: S) M N P Q = Wp mX12_isPaper d 0 [.ref r, .int x0] [] M N P (fun v M' N' P' => Wp mX12_loose (d + 1) 5 L (v.toList ++ S) M' N' P' Q) := wp_callV (As := [.int x0]) rfl dX12_loose_2 rfl rfl (Or.inl ⟨_, _, _, hs, rfl⟩) rfl ⟨rfl, Nat.le_of_ble_eq_true rfl, Nat.le_of_ble_eq_true rfl⟩ rfl hS
theorem sX12_loose_5 : Wp mX12_loose d 5 L (.int x :: S) M N P Q = (if x = 0 then Wp mX12_loose d 17 L S M N P Q else Wp mX12_loose d 8 L S M N P Q) := wp_if_eq rfl dX12_loose_5 rfl
theorem sX12_loose_8 : Wp mX12_loose d 8 (.ref r :: L) S M N P Q = Wp mX12_loose d 9 (.ref r :: L) (.ref r :: S) M N P Q := wp_aload_n rfl dX12_loose_8 rfl
theorem sX12_loose_9 : Wp mX12_loose d 9 (a0 :: .int x :: L) S M N P Q = Wp mX12_loose d 10 (a0 :: .int x :: L) (.int x :: S) M N P Q := wp_iload_n rfl dX12_loose_9 rfl
theorem sX12_loose_10 : Wp mX12_loose d 10 (a0 :: a1 :: .int x :: L) S M N P Q = Wp mX12_loose d 11 (a0 :: a1 :: .int x :: L) (.int x :: S) M N P Q := wp_iload_n rfl dX12_loose_10 rfl
theorem sX12_loose_11 {x0 : Int32} {x1 : Int32} (hs : shk r = (12, 0)) (hS : stk S ≤ 8) : Wp mX12_loose (d + 1) 11 L (.int x1 :: .int x0 :: .ref r :: S) M N P Q = Wp mX12_counts d 0 [.ref r, .int x0, .int x1] [] M N P (fun v M' N' P' => Wp mX12_loose (d + 1) 14 L (v.toList ++ S) M' N' P' Q) := wp_callV (As := [.int x0, .int x1]) rfl dX12_loose_11 rfl rfl (Or.inl ⟨_, _, _, hs, rfl⟩) rfl ⟨rfl, Nat.le_of_ble_eq_true rfl, Nat.le_of_ble_eq_true rfl⟩ rfl hS
theorem sX12_loose_14 : Wp mX12_loose d 14 L (.int x :: S) M N P Q = (if x = 0 then Wp mX12_loose d 17 L S M N P Q else Wp mX12_loose d 19 L S M N P Q) := wp_if_ne rfl dX12_loose_14 rfl
theorem sX12_loose_17 : Wp mX12_loose d 17 L S M N P Q = Wp mX12_loose d 18 L (.int (-1) :: S) M N P Q := wp_iconst rfl dX12_loose_17 rfl
theorem sX12_loose_18 : Wp mX12_loose d 18 L [.int x] M N P Q = Q (some (.int x)) M N P := wp_iret rfl dX12_loose_18 rfl rfl
theorem sX12_loose_19 : Wp mX12_loose d 19 (.ref r :: L) S M N P Q = Wp mX12_loose d 20 (.ref r :: L) (.ref r :: S) M N P Q := wp_aload_n rfl dX12_loose_19 rfl
theorem sX12_loose_20 : Wp mX12_loose d 20 (.ref r :: L) S M N P Q = Wp mX12_loose d 21 (.ref r :: L) (.ref r :: S) M N P Q := wp_aload_n rfl dX12_loose_20 rfl
theorem sX12_loose_21 (hs : shk r = (12, 0)) : Wp mX12_loose d 21 L (.ref r :: S) M N P Q = Wp mX12_loose d 24 L (.ref (P r 9) :: S) M N P Q := wp_getfield rfl dX12_loose_21 rfl rfl hs rfl
theorem sX12_loose_24 : Wp mX12_loose d 24 (a0 :: .int x :: L) S M N P Q = Wp mX12_loose d 25 (a0 :: .int x :: L) (.int x :: S) M N P Q := wp_iload_n rfl dX12_loose_24 rfl
theorem sX12_loose_25 (hs : (shk r).1 = 100) : Wp mX12_loose d 25 L (.int j :: .ref r :: S) M N P Q = (vp_in j (shk r).2 ∧ Wp mX12_loose d 26 L (.int (M r j.toNatClampNeg) :: S) M N P Q) := wp_iaload rfl dX12_loose_25 (kd hs)
theorem sX12_loose_26 : Wp mX12_loose d 26 L S M N P Q = Wp mX12_loose d 27 L (.int 0 :: S) M N P Q := wp_iconst rfl dX12_loose_26 rfl
theorem sX12_loose_27 : Wp mX12_loose d 27 (a0 :: a1 :: .int x :: L) S M N P Q = Wp mX12_loose d 28 (a0 :: a1 :: .int x :: L) (.int x :: S) M N P Q := wp_iload_n rfl dX12_loose_27 rfl
theorem sX12_loose_28 {x0 : Int32} {x1 : Int32} {x2 : Int32} (hs : shk r = (12, 0)) (hS : stk S ≤ 8) : Wp mX12_loose (d + 1) 28 L (.int x2 :: .int x1 :: .int x0 :: .ref r :: S) M N P Q = Wp mX12_follow d 0 [.ref r, .int x0, .int x1, .int x2, .float 0, .float 0, .float 0, .float 0] [] M N P (fun v M' N' P' => Wp mX12_loose (d + 1) 31 L (v.toList ++ S) M' N' P' Q) := wp_callV (As := [.int x0, .int x1, .int x2]) rfl dX12_loose_28 rfl rfl (Or.inl ⟨_, _, _, hs, rfl⟩) rfl ⟨rfl, Nat.le_of_ble_eq_true rfl, Nat.le_of_ble_eq_true rfl⟩ rfl hS
theorem sX12_loose_31 (hv : a0.category = 1) : Wp mX12_loose d 31 L (a0 :: S) M N P Q = Wp mX12_loose d 32 L S M N P Q := wp_pop rfl dX12_loose_31 hv
theorem sX12_loose_32 : Wp mX12_loose d 32 (.ref r :: L) S M N P Q = Wp mX12_loose d 33 (.ref r :: L) (.ref r :: S) M N P Q := wp_aload_n rfl dX12_loose_32 rfl
theorem sX12_loose_33 (hs : shk r = (12, 0)) : Wp mX12_loose d 33 L (.ref r :: S) M N P Q = Wp mX12_loose d 36 L (.ref (P r 18) :: S) M N P Q := wp_getfield rfl dX12_loose_33 rfl rfl hs rfl
theorem sX12_loose_36 : Wp mX12_loose d 36 (a0 :: .int x :: L) S M N P Q = Wp mX12_loose d 37 (a0 :: .int x :: L) (.int x :: S) M N P Q := wp_iload_n rfl dX12_loose_36 rfl
theorem sX12_loose_37 (hc : isB (shk r).1 = true) : Wp mX12_loose d 37 L (.int j :: .ref r :: S) M N P Q = (vp_in j (shk r).2 ∧ Wp mX12_loose d 38 L (.int (M r j.toNatClampNeg) :: S) M N P Q) := wp_baload rfl dX12_loose_37 (isB_or hc) (kd rfl)
theorem sX12_loose_38 : Wp mX12_loose d 38 L (.int x :: S) M N P Q = (if x = 0 then Wp mX12_loose d 45 L S M N P Q else Wp mX12_loose d 41 L S M N P Q) := wp_if_eq rfl dX12_loose_38 rfl
theorem sX12_loose_41 : Wp mX12_loose d 41 L S M N P Q = Wp mX12_loose d 42 L (.int 1 :: S) M N P Q := wp_iconst rfl dX12_loose_41 rfl
theorem sX12_loose_42 : Wp mX12_loose d 42 L S M N P Q = Wp mX12_loose d 46 L S M N P Q := wp_goto rfl dX12_loose_42 rfl
theorem sX12_loose_45 : Wp mX12_loose d 45 L S M N P Q = Wp mX12_loose d 46 L (.int 0 :: S) M N P Q := wp_iconst rfl dX12_loose_45 rfl
theorem sX12_loose_46 : Wp mX12_loose d 46 L [.int x] M N P Q = Q (some (.int x)) M N P := wp_iret rfl dX12_loose_46 rfl rfl
theorem sX12_sign_0 : Wp mX12_sign d 0 (a0 :: .int x :: L) S M N P Q = Wp mX12_sign d 1 (a0 :: .int x :: L) (.int x :: S) M N P Q := wp_iload_n rfl dX12_sign_0 rfl
theorem sX12_sign_1 : Wp mX12_sign d 1 (.ref r :: L) S M N P Q = Wp mX12_sign d 2 (.ref r :: L) (.ref r :: S) M N P Q := wp_aload_n rfl dX12_sign_1 rfl
theorem sX12_sign_2 (hs : shk r = (12, 0)) : Wp mX12_sign d 2 L (.ref r :: S) M N P Q = Wp mX12_sign d 5 L (.int (M r 24) :: S) M N P Q := wp_getfield rfl dX12_sign_2 rfl rfl hs rfl
theorem sX12_sign_5 : Wp mX12_sign d 5 L (.int z :: .int x :: S) M N P Q = (if z ≤ x then Wp mX12_sign d 21 L S M N P Q else Wp mX12_sign d 8 L S M N P Q) := wp_icmp_ge rfl dX12_sign_5 rfl
theorem sX12_sign_8 : Wp mX12_sign d 8 (.ref r :: L) S M N P Q = Wp mX12_sign d 9 (.ref r :: L) (.ref r :: S) M N P Q := wp_aload_n rfl dX12_sign_8 rfl
theorem sX12_sign_9 (hs : shk r = (12, 0)) : Wp mX12_sign d 9 L (.ref r :: S) M N P Q = Wp mX12_sign d 12 L (.ref (P r 22) :: S) M N P Q := wp_getfield rfl dX12_sign_9 rfl rfl hs rfl
theorem sX12_sign_12 : Wp mX12_sign d 12 (a0 :: .int x :: L) S M N P Q = Wp mX12_sign d 13 (a0 :: .int x :: L) (.int x :: S) M N P Q := wp_iload_n rfl dX12_sign_12 rfl
theorem sX12_sign_13 (hc : isB (shk r).1 = true) : Wp mX12_sign d 13 L (.int j :: .ref r :: S) M N P Q = (vp_in j (shk r).2 ∧ Wp mX12_sign d 14 L (.int (M r j.toNatClampNeg) :: S) M N P Q) := wp_baload rfl dX12_sign_13 (isB_or hc) (kd rfl)
theorem sX12_sign_14 : Wp mX12_sign d 14 L S M N P Q = Wp mX12_sign d 17 L (.int 255 :: S) M N P Q := wp_sipush rfl dX12_sign_14 rfl
theorem sX12_sign_17 : Wp mX12_sign d 17 L (.int z :: .int x :: S) M N P Q = Wp mX12_sign d 18 L (.int (x &&& z) :: S) M N P Q := wp_iand rfl dX12_sign_17
theorem sX12_sign_18 : Wp mX12_sign d 18 L S M N P Q = Wp mX12_sign d 22 L S M N P Q := wp_goto rfl dX12_sign_18 rfl
theorem sX12_sign_21 : Wp mX12_sign d 21 L S M N P Q = Wp mX12_sign d 22 L (.int 0 :: S) M N P Q := wp_iconst rfl dX12_sign_21 rfl
theorem sX12_sign_22 : Wp mX12_sign d 22 L [.int x] M N P Q = Q (some (.int x)) M N P := wp_iret rfl dX12_sign_22 rfl rfl
theorem sX12_isLetter_0 : Wp mX12_isLetter d 0 (.int x :: L) S M N P Q = Wp mX12_isLetter d 1 (.int x :: L) (.int x :: S) M N P Q := wp_iload_n rfl dX12_isLetter_0 rfl
theorem sX12_isLetter_1 : Wp mX12_isLetter d 1 L S M N P Q = Wp mX12_isLetter d 3 L (.int 97 :: S) M N P Q := wp_bipush rfl dX12_isLetter_1 rfl
theorem sX12_isLetter_3 : Wp mX12_isLetter d 3 L (.int z :: .int x :: S) M N P Q = (if x < z then Wp mX12_isLetter d 16 L S M N P Q else Wp mX12_isLetter d 6 L S M N P Q) := wp_icmp_lt rfl dX12_isLetter_3 rfl
theorem sX12_isLetter_6 : Wp mX12_isLetter d 6 (.int x :: L) S M N P Q = Wp mX12_isLetter d 7 (.int x :: L) (.int x :: S) M N P Q := wp_iload_n rfl dX12_isLetter_6 rfl
theorem sX12_isLetter_7 : Wp mX12_isLetter d 7 L S M N P Q = Wp mX12_isLetter d 9 L (.int 122 :: S) M N P Q := wp_bipush rfl dX12_isLetter_7 rfl
theorem sX12_isLetter_9 : Wp mX12_isLetter d 9 L (.int z :: .int x :: S) M N P Q = (if z < x then Wp mX12_isLetter d 16 L S M N P Q else Wp mX12_isLetter d 12 L S M N P Q) := wp_icmp_gt rfl dX12_isLetter_9 rfl
theorem sX12_isLetter_12 : Wp mX12_isLetter d 12 L S M N P Q = Wp mX12_isLetter d 13 L (.int 1 :: S) M N P Q := wp_iconst rfl dX12_isLetter_12 rfl
theorem sX12_isLetter_13 : Wp mX12_isLetter d 13 L S M N P Q = Wp mX12_isLetter d 17 L S M N P Q := wp_goto rfl dX12_isLetter_13 rfl
theorem sX12_isLetter_16 : Wp mX12_isLetter d 16 L S M N P Q = Wp mX12_isLetter d 17 L (.int 0 :: S) M N P Q := wp_iconst rfl dX12_isLetter_16 rfl
theorem sX12_isLetter_17 (hb : bit x) : Wp mX12_isLetter d 17 L [.int x] M N P Q = Q (some (.int x)) M N P := wp_iret rfl dX12_isLetter_17 rfl (bit_n hb)
theorem sX12_isDigit_0 : Wp mX12_isDigit d 0 (.int x :: L) S M N P Q = Wp mX12_isDigit d 1 (.int x :: L) (.int x :: S) M N P Q := wp_iload_n rfl dX12_isDigit_0 rfl
theorem sX12_isDigit_1 : Wp mX12_isDigit d 1 L S M N P Q = Wp mX12_isDigit d 3 L (.int 48 :: S) M N P Q := wp_bipush rfl dX12_isDigit_1 rfl
theorem sX12_isDigit_3 : Wp mX12_isDigit d 3 L (.int z :: .int x :: S) M N P Q = (if x < z then Wp mX12_isDigit d 16 L S M N P Q else Wp mX12_isDigit d 6 L S M N P Q) := wp_icmp_lt rfl dX12_isDigit_3 rfl
theorem sX12_isDigit_6 : Wp mX12_isDigit d 6 (.int x :: L) S M N P Q = Wp mX12_isDigit d 7 (.int x :: L) (.int x :: S) M N P Q := wp_iload_n rfl dX12_isDigit_6 rfl
theorem sX12_isDigit_7 : Wp mX12_isDigit d 7 L S M N P Q = Wp mX12_isDigit d 9 L (.int 57 :: S) M N P Q := wp_bipush rfl dX12_isDigit_7 rfl
theorem sX12_isDigit_9 : Wp mX12_isDigit d 9 L (.int z :: .int x :: S) M N P Q = (if z < x then Wp mX12_isDigit d 16 L S M N P Q else Wp mX12_isDigit d 12 L S M N P Q) := wp_icmp_gt rfl dX12_isDigit_9 rfl
theorem sX12_isDigit_12 : Wp mX12_isDigit d 12 L S M N P Q = Wp mX12_isDigit d 13 L (.int 1 :: S) M N P Q := wp_iconst rfl dX12_isDigit_12 rfl
theorem sX12_isDigit_13 : Wp mX12_isDigit d 13 L S M N P Q = Wp mX12_isDigit d 17 L S M N P Q := wp_goto rfl dX12_isDigit_13 rfl
theorem sX12_isDigit_16 : Wp mX12_isDigit d 16 L S M N P Q = Wp mX12_isDigit d 17 L (.int 0 :: S) M N P Q := wp_iconst rfl dX12_isDigit_16 rfl
theorem sX12_isDigit_17 (hb : bit x) : Wp mX12_isDigit d 17 L [.int x] M N P Q = Q (some (.int x)) M N P := wp_iret rfl dX12_isDigit_17 rfl (bit_n hb)
theorem sX12_fails_0 : Wp mX12_fails d 0 (.ref r :: L) S M N P Q = Wp mX12_fails d 1 (.ref r :: L) (.ref r :: S) M N P Q := wp_aload_n rfl dX12_fails_0 rfl
theorem sX12_fails_1 (hs : shk r = (12, 0)) : Wp mX12_fails d 1 L (.ref r :: S) M N P Q = Wp mX12_fails d 4 L (.int (M r 25) :: S) M N P Q := wp_getfield rfl dX12_fails_1 rfl rfl hs rfl
theorem sX12_fails_4 : Wp mX12_fails d 4 L (.int x :: S) M N P Q = (if x ≤ 0 then Wp mX12_fails d 8 L S M N P Q else Wp mX12_fails d 7 L S M N P Q) := wp_if_le rfl dX12_fails_4 rfl
theorem sX12_fails_7 : Wp mX12_fails d 7 L [] M N P Q = Q none M N P := wp_vret rfl dX12_fails_7 rfl
theorem sX12_fails_8 : Wp mX12_fails d 8 (.ref r :: L) S M N P Q = Wp mX12_fails d 9 (.ref r :: L) (.ref r :: S) M N P Q := wp_aload_n rfl dX12_fails_8 rfl
theorem sX12_fails_9 : Wp mX12_fails d 9 (a0 :: .int x :: L) S M N P Q = Wp mX12_fails d 10 (a0 :: .int x :: L) (.int x :: S) M N P Q := wp_iload_n rfl dX12_fails_9 rfl
theorem sX12_fails_10 (hs : shk r = (12, 0)) : Wp mX12_fails d 10 L (.int x :: .ref r :: S) M N P Q = Wp mX12_fails d 13 L S (up2 M r 25 x) N P Q := wp_putI rfl dX12_fails_10 rfl rfl hs rfl ⟨_, _, _, _, rfl, by decide, rfl, tyX12_ok 25 (by decide), rfl, rfl⟩
theorem sX12_fails_13 : Wp mX12_fails d 13 (.ref r :: L) S M N P Q = Wp mX12_fails d 14 (.ref r :: L) (.ref r :: S) M N P Q := wp_aload_n rfl dX12_fails_13 rfl
theorem sX12_fails_14 : Wp mX12_fails d 14 (a0 :: a1 :: .int x :: L) S M N P Q = Wp mX12_fails d 15 (a0 :: a1 :: .int x :: L) (.int x :: S) M N P Q := wp_iload_n rfl dX12_fails_14 rfl
theorem sX12_fails_15 (hs : shk r = (12, 0)) : Wp mX12_fails d 15 L (.int x :: .ref r :: S) M N P Q = Wp mX12_fails d 18 L S (up2 M r 26 x) N P Q := wp_putI rfl dX12_fails_15 rfl rfl hs rfl ⟨_, _, _, _, rfl, by decide, rfl, tyX12_ok 26 (by decide), rfl, rfl⟩
theorem sX12_fails_18 : Wp mX12_fails d 18 L [] M N P Q = Q none M N P := wp_vret rfl dX12_fails_18 rfl
theorem sX12_isGood_0 : Wp mX12_isGood d 0 (.ref r :: L) S M N P Q = Wp mX12_isGood d 1 (.ref r :: L) (.ref r :: S) M N P Q := wp_aload_n rfl dX12_isGood_0 rfl
theorem sX12_isGood_1 (hs : shk r = (12, 0)) : Wp mX12_isGood d 1 L (.ref r :: S) M N P Q = Wp mX12_isGood d 4 L (.int (M r 25) :: S) M N P Q := wp_getfield rfl dX12_isGood_1 rfl rfl hs rfl
theorem sX12_isGood_4 : Wp mX12_isGood d 4 L (.int x :: S) M N P Q = (if x = 0 then Wp mX12_isGood d 7 L S M N P Q else Wp mX12_isGood d 11 L S M N P Q) := wp_if_ne rfl dX12_isGood_4 rfl
theorem sX12_isGood_7 : Wp mX12_isGood d 7 L S M N P Q = Wp mX12_isGood d 8 L (.int 1 :: S) M N P Q := wp_iconst rfl dX12_isGood_7 rfl
theorem sX12_isGood_8 : Wp mX12_isGood d 8 L S M N P Q = Wp mX12_isGood d 12 L S M N P Q := wp_goto rfl dX12_isGood_8 rfl
theorem sX12_isGood_11 : Wp mX12_isGood d 11 L S M N P Q = Wp mX12_isGood d 12 L (.int 0 :: S) M N P Q := wp_iconst rfl dX12_isGood_11 rfl
theorem sX12_isGood_12 (hb : bit x) : Wp mX12_isGood d 12 L [.int x] M N P Q = Q (some (.int x)) M N P := wp_iret rfl dX12_isGood_12 rfl (bit_n hb)
theorem sX12_next_0 : Wp mX12_next d 0 (.ref r :: L) S M N P Q = Wp mX12_next d 1 (.ref r :: L) (.ref r :: S) M N P Q := wp_aload_n rfl dX12_next_0 rfl
theorem sX12_next_1 : Wp mX12_next d 1 (.ref r :: L) S M N P Q = Wp mX12_next d 2 (.ref r :: L) (.ref r :: S) M N P Q := wp_aload_n rfl dX12_next_1 rfl
theorem sX12_next_2 (hs : shk r = (12, 0)) : Wp mX12_next d 2 L (.ref r :: S) M N P Q = Wp mX12_next d 5 L (.int (M r 28) :: S) M N P Q := wp_getfield rfl dX12_next_2 rfl rfl hs rfl
theorem sX12_next_5 (hs : shk r = (12, 0)) : Wp mX12_next d 5 L (.int x :: .ref r :: S) M N P Q = Wp mX12_next d 8 L S (up2 M r 27 x) N P Q := wp_putI rfl dX12_next_5 rfl rfl hs rfl ⟨_, _, _, _, rfl, by decide, rfl, tyX12_ok 27 (by decide), rfl, rfl⟩
theorem sX12_next_8 : Wp mX12_next d 8 (.ref r :: L) S M N P Q = Wp mX12_next d 9 (.ref r :: L) (.ref r :: S) M N P Q := wp_aload_n rfl dX12_next_8 rfl
theorem sX12_next_9 (hs : shk r = (12, 0)) : Wp mX12_next d 9 L (.ref r :: S) M N P Q = Wp mX12_next d 12 L (.int (M r 27) :: S) M N P Q := wp_getfield rfl dX12_next_9 rfl rfl hs rfl
theorem sX12_next_12 : Wp mX12_next d 12 (.ref r :: L) S M N P Q = Wp mX12_next d 13 (.ref r :: L) (.ref r :: S) M N P Q := wp_aload_n rfl dX12_next_12 rfl
theorem sX12_next_13 (hs : shk r = (12, 0)) : Wp mX12_next d 13 L (.ref r :: S) M N P Q = Wp mX12_next d 16 L (.int (M r 24) :: S) M N P Q := wp_getfield rfl dX12_next_13 rfl rfl hs rfl
theorem sX12_next_16 : Wp mX12_next d 16 L (.int z :: .int x :: S) M N P Q = (if z ≤ x then Wp mX12_next d 58 L S M N P Q else Wp mX12_next d 19 L S M N P Q) := wp_icmp_ge rfl dX12_next_16 rfl
theorem sX12_next_19 : Wp mX12_next d 19 (.ref r :: L) S M N P Q = Wp mX12_next d 20 (.ref r :: L) (.ref r :: S) M N P Q := wp_aload_n rfl dX12_next_19 rfl
theorem sX12_next_20 : Wp mX12_next d 20 (.ref r :: L) S M N P Q = Wp mX12_next d 21 (.ref r :: L) (.ref r :: S) M N P Q := wp_aload_n rfl dX12_next_20 rfl
theorem sX12_next_21 (hs : shk r = (12, 0)) : Wp mX12_next d 21 L (.ref r :: S) M N P Q = Wp mX12_next d 24 L (.int (M r 27) :: S) M N P Q := wp_getfield rfl dX12_next_21 rfl rfl hs rfl
theorem sX12_next_24 {x0 : Int32} (hs : shk r = (12, 0)) (hS : stk S ≤ 8) : Wp mX12_next (d + 1) 24 L (.int x0 :: .ref r :: S) M N P Q = Wp mX12_sign d 0 [.ref r, .int x0] [] M N P (fun v M' N' P' => Wp mX12_next (d + 1) 27 L (v.toList ++ S) M' N' P' Q) := wp_callV (As := [.int x0]) rfl dX12_next_24 rfl rfl (Or.inl ⟨_, _, _, hs, rfl⟩) rfl ⟨rfl, Nat.le_of_ble_eq_true rfl, Nat.le_of_ble_eq_true rfl⟩ rfl hS
theorem sX12_next_27 : Wp mX12_next d 27 L S M N P Q = Wp mX12_next d 29 L (.int 32 :: S) M N P Q := wp_bipush rfl dX12_next_27 rfl
theorem sX12_next_29 : Wp mX12_next d 29 L (.int z :: .int x :: S) M N P Q = (if x = z then Wp mX12_next d 45 L S M N P Q else Wp mX12_next d 32 L S M N P Q) := wp_icmp_eq rfl dX12_next_29 rfl
theorem sX12_next_32 : Wp mX12_next d 32 (.ref r :: L) S M N P Q = Wp mX12_next d 33 (.ref r :: L) (.ref r :: S) M N P Q := wp_aload_n rfl dX12_next_32 rfl
theorem sX12_next_33 : Wp mX12_next d 33 (.ref r :: L) S M N P Q = Wp mX12_next d 34 (.ref r :: L) (.ref r :: S) M N P Q := wp_aload_n rfl dX12_next_33 rfl
theorem sX12_next_34 (hs : shk r = (12, 0)) : Wp mX12_next d 34 L (.ref r :: S) M N P Q = Wp mX12_next d 37 L (.int (M r 27) :: S) M N P Q := wp_getfield rfl dX12_next_34 rfl rfl hs rfl
theorem sX12_next_37 {x0 : Int32} (hs : shk r = (12, 0)) (hS : stk S ≤ 8) : Wp mX12_next (d + 1) 37 L (.int x0 :: .ref r :: S) M N P Q = Wp mX12_sign d 0 [.ref r, .int x0] [] M N P (fun v M' N' P' => Wp mX12_next (d + 1) 40 L (v.toList ++ S) M' N' P' Q) := wp_callV (As := [.int x0]) rfl dX12_next_37 rfl rfl (Or.inl ⟨_, _, _, hs, rfl⟩) rfl ⟨rfl, Nat.le_of_ble_eq_true rfl, Nat.le_of_ble_eq_true rfl⟩ rfl hS
theorem sX12_next_40 : Wp mX12_next d 40 L S M N P Q = Wp mX12_next d 42 L (.int 10 :: S) M N P Q := wp_bipush rfl dX12_next_40 rfl
theorem sX12_next_42 : Wp mX12_next d 42 L (.int z :: .int x :: S) M N P Q = (if x = z then Wp mX12_next d 45 L S M N P Q else Wp mX12_next d 58 L S M N P Q) := wp_icmp_ne rfl dX12_next_42 rfl
theorem sX12_next_45 : Wp mX12_next d 45 (.ref r :: L) S M N P Q = Wp mX12_next d 46 (.ref r :: L) (.ref r :: S) M N P Q := wp_aload_n rfl dX12_next_45 rfl
theorem sX12_next_46 (hv : a0.category = 1) : Wp mX12_next d 46 L (a0 :: S) M N P Q = Wp mX12_next d 47 L (a0 :: a0 :: S) M N P Q := wp_dup rfl dX12_next_46 hv
theorem sX12_next_47 (hs : shk r = (12, 0)) : Wp mX12_next d 47 L (.ref r :: S) M N P Q = Wp mX12_next d 50 L (.int (M r 27) :: S) M N P Q := wp_getfield rfl dX12_next_47 rfl rfl hs rfl
theorem sX12_next_50 : Wp mX12_next d 50 L S M N P Q = Wp mX12_next d 51 L (.int 1 :: S) M N P Q := wp_iconst rfl dX12_next_50 rfl
theorem sX12_next_51 : Wp mX12_next d 51 L (.int z :: .int x :: S) M N P Q = Wp mX12_next d 52 L (.int (x + z) :: S) M N P Q := wp_iadd rfl dX12_next_51
theorem sX12_next_52 (hs : shk r = (12, 0)) : Wp mX12_next d 52 L (.int x :: .ref r :: S) M N P Q = Wp mX12_next d 55 L S (up2 M r 27 x) N P Q := wp_putI rfl dX12_next_52 rfl rfl hs rfl ⟨_, _, _, _, rfl, by decide, rfl, tyX12_ok 27 (by decide), rfl, rfl⟩
theorem sX12_next_55 : Wp mX12_next d 55 L S M N P Q = Wp mX12_next d 8 L S M N P Q := wp_goto rfl dX12_next_55 rfl
theorem sX12_next_58 : Wp mX12_next d 58 (.ref r :: L) S M N P Q = Wp mX12_next d 59 (.ref r :: L) (.ref r :: S) M N P Q := wp_aload_n rfl dX12_next_58 rfl
theorem sX12_next_59 : Wp mX12_next d 59 (.ref r :: L) S M N P Q = Wp mX12_next d 60 (.ref r :: L) (.ref r :: S) M N P Q := wp_aload_n rfl dX12_next_59 rfl
theorem sX12_next_60 (hs : shk r = (12, 0)) : Wp mX12_next d 60 L (.ref r :: S) M N P Q = Wp mX12_next d 63 L (.int (M r 27) :: S) M N P Q := wp_getfield rfl dX12_next_60 rfl rfl hs rfl
theorem sX12_next_63 {x0 : Int32} (hs : shk r = (12, 0)) (hS : stk S ≤ 8) : Wp mX12_next (d + 1) 63 L (.int x0 :: .ref r :: S) M N P Q = Wp mX12_sign d 0 [.ref r, .int x0] [] M N P (fun v M' N' P' => Wp mX12_next (d + 1) 66 L (v.toList ++ S) M' N' P' Q) := wp_callV (As := [.int x0]) rfl dX12_next_63 rfl rfl (Or.inl ⟨_, _, _, hs, rfl⟩) rfl ⟨rfl, Nat.le_of_ble_eq_true rfl, Nat.le_of_ble_eq_true rfl⟩ rfl hS
theorem sX12_next_66 (hn : nl a0 = true) : Wp mX12_next d 66 (a0 :: a1 :: L) (.int x :: S) M N P Q = Wp mX12_next d 67 (a0 :: .int x :: L) S M N P Q := wp_istore_n rfl dX12_next_66 (lenGt1 ..) (okst1 hn) rfl
theorem sX12_next_67 : Wp mX12_next d 67 (.ref r :: L) S M N P Q = Wp mX12_next d 68 (.ref r :: L) (.ref r :: S) M N P Q := wp_aload_n rfl dX12_next_67 rfl
theorem sX12_next_68 : Wp mX12_next d 68 (.ref r :: L) S M N P Q = Wp mX12_next d 69 (.ref r :: L) (.ref r :: S) M N P Q := wp_aload_n rfl dX12_next_68 rfl
theorem sX12_next_69 (hs : shk r = (12, 0)) : Wp mX12_next d 69 L (.ref r :: S) M N P Q = Wp mX12_next d 72 L (.int (M r 27) :: S) M N P Q := wp_getfield rfl dX12_next_69 rfl rfl hs rfl
theorem sX12_next_72 : Wp mX12_next d 72 L S M N P Q = Wp mX12_next d 73 L (.int 1 :: S) M N P Q := wp_iconst rfl dX12_next_72 rfl
theorem sX12_next_73 : Wp mX12_next d 73 L (.int z :: .int x :: S) M N P Q = Wp mX12_next d 74 L (.int (x + z) :: S) M N P Q := wp_iadd rfl dX12_next_73
theorem sX12_next_74 (hs : shk r = (12, 0)) : Wp mX12_next d 74 L (.int x :: .ref r :: S) M N P Q = Wp mX12_next d 77 L S (up2 M r 28 x) N P Q := wp_putI rfl dX12_next_74 rfl rfl hs rfl ⟨_, _, _, _, rfl, by decide, rfl, tyX12_ok 28 (by decide), rfl, rfl⟩
theorem sX12_next_77 : Wp mX12_next d 77 (.ref r :: L) S M N P Q = Wp mX12_next d 78 (.ref r :: L) (.ref r :: S) M N P Q := wp_aload_n rfl dX12_next_77 rfl
theorem sX12_next_78 (hs : shk r = (12, 0)) : Wp mX12_next d 78 L (.ref r :: S) M N P Q = Wp mX12_next d 81 L (.int (M r 27) :: S) M N P Q := wp_getfield rfl dX12_next_78 rfl rfl hs rfl
theorem sX12_next_81 : Wp mX12_next d 81 (.ref r :: L) S M N P Q = Wp mX12_next d 82 (.ref r :: L) (.ref r :: S) M N P Q := wp_aload_n rfl dX12_next_81 rfl
theorem sX12_next_82 (hs : shk r = (12, 0)) : Wp mX12_next d 82 L (.ref r :: S) M N P Q = Wp mX12_next d 85 L (.int (M r 24) :: S) M N P Q := wp_getfield rfl dX12_next_82 rfl rfl hs rfl
theorem sX12_next_85 : Wp mX12_next d 85 L (.int z :: .int x :: S) M N P Q = (if x < z then Wp mX12_next d 112 L S M N P Q else Wp mX12_next d 88 L S M N P Q) := wp_icmp_lt rfl dX12_next_85 rfl
theorem sX12_next_88 : Wp mX12_next d 88 (.ref r :: L) S M N P Q = Wp mX12_next d 89 (.ref r :: L) (.ref r :: S) M N P Q := wp_aload_n rfl dX12_next_88 rfl
theorem sX12_next_89 : Wp mX12_next d 89 L S M N P Q = Wp mX12_next d 90 L (.int 0 :: S) M N P Q := wp_iconst rfl dX12_next_89 rfl
theorem sX12_next_90 (hs : shk r = (12, 0)) : Wp mX12_next d 90 L (.int x :: .ref r :: S) M N P Q = Wp mX12_next d 93 L S (up2 M r 29 x) N P Q := wp_putI rfl dX12_next_90 rfl rfl hs rfl ⟨_, _, _, _, rfl, by decide, rfl, tyX12_ok 29 (by decide), rfl, rfl⟩
theorem sX12_next_93 : Wp mX12_next d 93 (.ref r :: L) S M N P Q = Wp mX12_next d 94 (.ref r :: L) (.ref r :: S) M N P Q := wp_aload_n rfl dX12_next_93 rfl
theorem sX12_next_94 : Wp mX12_next d 94 (.ref r :: L) S M N P Q = Wp mX12_next d 95 (.ref r :: L) (.ref r :: S) M N P Q := wp_aload_n rfl dX12_next_94 rfl
theorem sX12_next_95 (hs : shk r = (12, 0)) : Wp mX12_next d 95 L (.ref r :: S) M N P Q = Wp mX12_next d 98 L (.int (M r 24) :: S) M N P Q := wp_getfield rfl dX12_next_95 rfl rfl hs rfl
theorem sX12_next_98 (hs : shk r = (12, 0)) : Wp mX12_next d 98 L (.int x :: .ref r :: S) M N P Q = Wp mX12_next d 101 L S (up2 M r 27 x) N P Q := wp_putI rfl dX12_next_98 rfl rfl hs rfl ⟨_, _, _, _, rfl, by decide, rfl, tyX12_ok 27 (by decide), rfl, rfl⟩
theorem sX12_next_101 : Wp mX12_next d 101 (.ref r :: L) S M N P Q = Wp mX12_next d 102 (.ref r :: L) (.ref r :: S) M N P Q := wp_aload_n rfl dX12_next_101 rfl
theorem sX12_next_102 : Wp mX12_next d 102 (.ref r :: L) S M N P Q = Wp mX12_next d 103 (.ref r :: L) (.ref r :: S) M N P Q := wp_aload_n rfl dX12_next_102 rfl
theorem sX12_next_103 (hs : shk r = (12, 0)) : Wp mX12_next d 103 L (.ref r :: S) M N P Q = Wp mX12_next d 106 L (.int (M r 24) :: S) M N P Q := wp_getfield rfl dX12_next_103 rfl rfl hs rfl
theorem sX12_next_106 (hs : shk r = (12, 0)) : Wp mX12_next d 106 L (.int x :: .ref r :: S) M N P Q = Wp mX12_next d 109 L S (up2 M r 28 x) N P Q := wp_putI rfl dX12_next_106 rfl rfl hs rfl ⟨_, _, _, _, rfl, by decide, rfl, tyX12_ok 28 (by decide), rfl, rfl⟩
theorem sX12_next_109 : Wp mX12_next d 109 L S M N P Q = Wp mX12_next d 406 L S M N P Q := wp_goto rfl dX12_next_109 rfl
theorem sX12_next_112 : Wp mX12_next d 112 (a0 :: .int x :: L) S M N P Q = Wp mX12_next d 113 (a0 :: .int x :: L) (.int x :: S) M N P Q := wp_iload_n rfl dX12_next_112 rfl
theorem sX12_next_113 {x0 : Int32} (hS : stk S ≤ 8) : Wp mX12_next (d + 1) 113 L (.int x0 :: S) M N P Q = Wp mX12_isLetter d 0 [.int x0] [] M N P (fun v M' N' P' => Wp mX12_next (d + 1) 116 L (v.toList ++ S) M' N' P' Q) := wp_callS (As := [.int x0]) rfl dX12_next_113 rfl rfl rfl ⟨rfl, Nat.le_of_ble_eq_true rfl, Nat.le_of_ble_eq_true rfl⟩ rfl hS
theorem sX12_next_116 : Wp mX12_next d 116 L (.int x :: S) M N P Q = (if x = 0 then Wp mX12_next d 225 L S M N P Q else Wp mX12_next d 119 L S M N P Q) := wp_if_eq rfl dX12_next_116 rfl
theorem sX12_next_119 : Wp mX12_next d 119 (.ref r :: L) S M N P Q = Wp mX12_next d 120 (.ref r :: L) (.ref r :: S) M N P Q := wp_aload_n rfl dX12_next_119 rfl
theorem sX12_next_120 : Wp mX12_next d 120 (.ref r :: L) S M N P Q = Wp mX12_next d 121 (.ref r :: L) (.ref r :: S) M N P Q := wp_aload_n rfl dX12_next_120 rfl
theorem sX12_next_121 (hs : shk r = (12, 0)) : Wp mX12_next d 121 L (.ref r :: S) M N P Q = Wp mX12_next d 124 L (.int (M r 28) :: S) M N P Q := wp_getfield rfl dX12_next_121 rfl rfl hs rfl
theorem sX12_next_124 {x0 : Int32} (hs : shk r = (12, 0)) (hS : stk S ≤ 8) : Wp mX12_next (d + 1) 124 L (.int x0 :: .ref r :: S) M N P Q = Wp mX12_sign d 0 [.ref r, .int x0] [] M N P (fun v M' N' P' => Wp mX12_next (d + 1) 127 L (v.toList ++ S) M' N' P' Q) := wp_callV (As := [.int x0]) rfl dX12_next_124 rfl rfl (Or.inl ⟨_, _, _, hs, rfl⟩) rfl ⟨rfl, Nat.le_of_ble_eq_true rfl, Nat.le_of_ble_eq_true rfl⟩ rfl hS
theorem sX12_next_127 {x0 : Int32} (hS : stk S ≤ 8) : Wp mX12_next (d + 1) 127 L (.int x0 :: S) M N P Q = Wp mX12_isLetter d 0 [.int x0] [] M N P (fun v M' N' P' => Wp mX12_next (d + 1) 130 L (v.toList ++ S) M' N' P' Q) := wp_callS (As := [.int x0]) rfl dX12_next_127 rfl rfl rfl ⟨rfl, Nat.le_of_ble_eq_true rfl, Nat.le_of_ble_eq_true rfl⟩ rfl hS
theorem sX12_next_130 : Wp mX12_next d 130 L (.int x :: S) M N P Q = (if x = 0 then Wp mX12_next d 146 L S M N P Q else Wp mX12_next d 133 L S M N P Q) := wp_if_eq rfl dX12_next_130 rfl
theorem sX12_next_133 : Wp mX12_next d 133 (.ref r :: L) S M N P Q = Wp mX12_next d 134 (.ref r :: L) (.ref r :: S) M N P Q := wp_aload_n rfl dX12_next_133 rfl
theorem sX12_next_134 (hv : a0.category = 1) : Wp mX12_next d 134 L (a0 :: S) M N P Q = Wp mX12_next d 135 L (a0 :: a0 :: S) M N P Q := wp_dup rfl dX12_next_134 hv
theorem sX12_next_135 (hs : shk r = (12, 0)) : Wp mX12_next d 135 L (.ref r :: S) M N P Q = Wp mX12_next d 138 L (.int (M r 28) :: S) M N P Q := wp_getfield rfl dX12_next_135 rfl rfl hs rfl
theorem sX12_next_138 : Wp mX12_next d 138 L S M N P Q = Wp mX12_next d 139 L (.int 1 :: S) M N P Q := wp_iconst rfl dX12_next_138 rfl
theorem sX12_next_139 : Wp mX12_next d 139 L (.int z :: .int x :: S) M N P Q = Wp mX12_next d 140 L (.int (x + z) :: S) M N P Q := wp_iadd rfl dX12_next_139
theorem sX12_next_140 (hs : shk r = (12, 0)) : Wp mX12_next d 140 L (.int x :: .ref r :: S) M N P Q = Wp mX12_next d 143 L S (up2 M r 28 x) N P Q := wp_putI rfl dX12_next_140 rfl rfl hs rfl ⟨_, _, _, _, rfl, by decide, rfl, tyX12_ok 28 (by decide), rfl, rfl⟩
theorem sX12_next_143 : Wp mX12_next d 143 L S M N P Q = Wp mX12_next d 119 L S M N P Q := wp_goto rfl dX12_next_143 rfl
theorem sX12_next_146 : Wp mX12_next d 146 (.ref r :: L) S M N P Q = Wp mX12_next d 147 (.ref r :: L) (.ref r :: S) M N P Q := wp_aload_n rfl dX12_next_146 rfl
theorem sX12_next_147 : Wp mX12_next d 147 L S M N P Q = Wp mX12_next d 148 L (.long 0 :: S) M N P Q := wp_lconst rfl dX12_next_147 rfl
theorem sX12_next_148 (hs : shk r = (12, 0)) : Wp mX12_next d 148 L (.long lx :: .ref r :: S) M N P Q = Wp mX12_next d 151 L S M (up2 N r 31 lx) P Q := wp_putL rfl dX12_next_148 rfl rfl hs rfl ⟨_, _, _, _, rfl, by decide, rfl, tyX12_ok 31 (by decide), rfl, rfl⟩
theorem sX12_next_151 : Wp mX12_next d 151 (.ref r :: L) S M N P Q = Wp mX12_next d 152 (.ref r :: L) (.ref r :: S) M N P Q := wp_aload_n rfl dX12_next_151 rfl
theorem sX12_next_152 (hs : shk r = (12, 0)) : Wp mX12_next d 152 L (.ref r :: S) M N P Q = Wp mX12_next d 155 L (.int (M r 27) :: S) M N P Q := wp_getfield rfl dX12_next_152 rfl rfl hs rfl
theorem sX12_next_155 (hn : nl a1 = true) : Wp mX12_next d 155 (a0 :: a1 :: a2 :: L) (.int x :: S) M N P Q = Wp mX12_next d 156 (a0 :: a1 :: .int x :: L) S M N P Q := wp_istore_n rfl dX12_next_155 (lenGt2 ..) (okst2 hn) rfl
theorem sX12_next_156 : Wp mX12_next d 156 (a0 :: a1 :: .int x :: L) S M N P Q = Wp mX12_next d 157 (a0 :: a1 :: .int x :: L) (.int x :: S) M N P Q := wp_iload_n rfl dX12_next_156 rfl
theorem sX12_next_157 : Wp mX12_next d 157 (.ref r :: L) S M N P Q = Wp mX12_next d 158 (.ref r :: L) (.ref r :: S) M N P Q := wp_aload_n rfl dX12_next_157 rfl
theorem sX12_next_158 (hs : shk r = (12, 0)) : Wp mX12_next d 158 L (.ref r :: S) M N P Q = Wp mX12_next d 161 L (.int (M r 28) :: S) M N P Q := wp_getfield rfl dX12_next_158 rfl rfl hs rfl
theorem sX12_next_161 : Wp mX12_next d 161 L (.int z :: .int x :: S) M N P Q = (if z ≤ x then Wp mX12_next d 199 L S M N P Q else Wp mX12_next d 164 L S M N P Q) := wp_icmp_ge rfl dX12_next_161 rfl
theorem sX12_next_164 : Wp mX12_next d 164 (a0 :: a1 :: .int x :: L) S M N P Q = Wp mX12_next d 165 (a0 :: a1 :: .int x :: L) (.int x :: S) M N P Q := wp_iload_n rfl dX12_next_164 rfl
theorem sX12_next_165 : Wp mX12_next d 165 (.ref r :: L) S M N P Q = Wp mX12_next d 166 (.ref r :: L) (.ref r :: S) M N P Q := wp_aload_n rfl dX12_next_165 rfl
theorem sX12_next_166 (hs : shk r = (12, 0)) : Wp mX12_next d 166 L (.ref r :: S) M N P Q = Wp mX12_next d 169 L (.int (M r 27) :: S) M N P Q := wp_getfield rfl dX12_next_166 rfl rfl hs rfl
theorem sX12_next_169 : Wp mX12_next d 169 L S M N P Q = Wp mX12_next d 171 L (.int 8 :: S) M N P Q := wp_bipush rfl dX12_next_169 rfl
theorem sX12_next_171 : Wp mX12_next d 171 L (.int z :: .int x :: S) M N P Q = Wp mX12_next d 172 L (.int (x + z) :: S) M N P Q := wp_iadd rfl dX12_next_171
theorem sX12_next_172 : Wp mX12_next d 172 L (.int z :: .int x :: S) M N P Q = (if z ≤ x then Wp mX12_next d 199 L S M N P Q else Wp mX12_next d 175 L S M N P Q) := wp_icmp_ge rfl dX12_next_172 rfl
theorem sX12_next_175 : Wp mX12_next d 175 (.ref r :: L) S M N P Q = Wp mX12_next d 176 (.ref r :: L) (.ref r :: S) M N P Q := wp_aload_n rfl dX12_next_175 rfl
theorem sX12_next_176 : Wp mX12_next d 176 (.ref r :: L) S M N P Q = Wp mX12_next d 177 (.ref r :: L) (.ref r :: S) M N P Q := wp_aload_n rfl dX12_next_176 rfl
theorem sX12_next_177 (hs : shk r = (12, 0)) : Wp mX12_next d 177 L (.ref r :: S) M N P Q = Wp mX12_next d 180 L (.long (N r 31) :: S) M N P Q := wp_getfield rfl dX12_next_177 rfl rfl hs rfl
theorem sX12_next_180 : Wp mX12_next d 180 L S M N P Q = Wp mX12_next d 182 L (.int 8 :: S) M N P Q := wp_bipush rfl dX12_next_180 rfl
theorem sX12_next_182 : Wp mX12_next d 182 L (.int z :: .long lx :: S) M N P Q = Wp mX12_next d 183 L (.long (lx <<< (z.toInt64 &&& 63)) :: S) M N P Q := wp_lshl rfl dX12_next_182
theorem sX12_next_183 : Wp mX12_next d 183 (.ref r :: L) S M N P Q = Wp mX12_next d 184 (.ref r :: L) (.ref r :: S) M N P Q := wp_aload_n rfl dX12_next_183 rfl
theorem sX12_next_184 : Wp mX12_next d 184 (a0 :: a1 :: .int x :: L) S M N P Q = Wp mX12_next d 185 (a0 :: a1 :: .int x :: L) (.int x :: S) M N P Q := wp_iload_n rfl dX12_next_184 rfl
theorem sX12_next_185 {x0 : Int32} (hs : shk r = (12, 0)) (hS : stk S ≤ 8) : Wp mX12_next (d + 1) 185 L (.int x0 :: .ref r :: S) M N P Q = Wp mX12_sign d 0 [.ref r, .int x0] [] M N P (fun v M' N' P' => Wp mX12_next (d + 1) 188 L (v.toList ++ S) M' N' P' Q) := wp_callV (As := [.int x0]) rfl dX12_next_185 rfl rfl (Or.inl ⟨_, _, _, hs, rfl⟩) rfl ⟨rfl, Nat.le_of_ble_eq_true rfl, Nat.le_of_ble_eq_true rfl⟩ rfl hS
theorem sX12_next_188 : Wp mX12_next d 188 L (.int x :: S) M N P Q = Wp mX12_next d 189 L (.long x.toInt64 :: S) M N P Q := wp_i2l rfl dX12_next_188
theorem sX12_next_189 : Wp mX12_next d 189 L (.long lz :: .long lx :: S) M N P Q = Wp mX12_next d 190 L (.long (lx ||| lz) :: S) M N P Q := wp_lor rfl dX12_next_189
theorem sX12_next_190 (hs : shk r = (12, 0)) : Wp mX12_next d 190 L (.long lx :: .ref r :: S) M N P Q = Wp mX12_next d 193 L S M (up2 N r 31 lx) P Q := wp_putL rfl dX12_next_190 rfl rfl hs rfl ⟨_, _, _, _, rfl, by decide, rfl, tyX12_ok 31 (by decide), rfl, rfl⟩
theorem sX12_next_193 (hn : nl a1 = true) : Wp mX12_next d 193 (a0 :: a1 :: .int x :: L) S M N P Q = Wp mX12_next d 196 (a0 :: a1 :: .int (x + 1) :: L) S M N P Q := wp_iinc rfl dX12_next_193 rfl rfl (okst2 hn) rfl
theorem sX12_next_196 : Wp mX12_next d 196 L S M N P Q = Wp mX12_next d 156 L S M N P Q := wp_goto rfl dX12_next_196 rfl
theorem sX12_next_199 : Wp mX12_next d 199 (.ref r :: L) S M N P Q = Wp mX12_next d 200 (.ref r :: L) (.ref r :: S) M N P Q := wp_aload_n rfl dX12_next_199 rfl
theorem sX12_next_200 : Wp mX12_next d 200 (.ref r :: L) S M N P Q = Wp mX12_next d 201 (.ref r :: L) (.ref r :: S) M N P Q := wp_aload_n rfl dX12_next_200 rfl
theorem sX12_next_201 (hs : shk r = (12, 0)) : Wp mX12_next d 201 L (.ref r :: S) M N P Q = Wp mX12_next d 204 L (.int (M r 28) :: S) M N P Q := wp_getfield rfl dX12_next_201 rfl rfl hs rfl
theorem sX12_next_204 : Wp mX12_next d 204 (.ref r :: L) S M N P Q = Wp mX12_next d 205 (.ref r :: L) (.ref r :: S) M N P Q := wp_aload_n rfl dX12_next_204 rfl
theorem sX12_next_205 (hs : shk r = (12, 0)) : Wp mX12_next d 205 L (.ref r :: S) M N P Q = Wp mX12_next d 208 L (.int (M r 27) :: S) M N P Q := wp_getfield rfl dX12_next_205 rfl rfl hs rfl
theorem sX12_next_208 : Wp mX12_next d 208 L (.int z :: .int x :: S) M N P Q = Wp mX12_next d 209 L (.int (x - z) :: S) M N P Q := wp_isub rfl dX12_next_208
theorem sX12_next_209 : Wp mX12_next d 209 L S M N P Q = Wp mX12_next d 211 L (.int 8 :: S) M N P Q := wp_bipush rfl dX12_next_209 rfl
theorem sX12_next_211 : Wp mX12_next d 211 L (.int z :: .int x :: S) M N P Q = (if x ≤ z then Wp mX12_next d 218 L S M N P Q else Wp mX12_next d 214 L S M N P Q) := wp_icmp_le rfl dX12_next_211 rfl
theorem sX12_next_214 : Wp mX12_next d 214 L S M N P Q = Wp mX12_next d 215 L (.int 1 :: S) M N P Q := wp_iconst rfl dX12_next_214 rfl
theorem sX12_next_215 : Wp mX12_next d 215 L S M N P Q = Wp mX12_next d 219 L S M N P Q := wp_goto rfl dX12_next_215 rfl
theorem sX12_next_218 : Wp mX12_next d 218 L S M N P Q = Wp mX12_next d 219 L (.int 2 :: S) M N P Q := wp_iconst rfl dX12_next_218 rfl
theorem sX12_next_219 (hs : shk r = (12, 0)) : Wp mX12_next d 219 L (.int x :: .ref r :: S) M N P Q = Wp mX12_next d 222 L S (up2 M r 29 x) N P Q := wp_putI rfl dX12_next_219 rfl rfl hs rfl ⟨_, _, _, _, rfl, by decide, rfl, tyX12_ok 29 (by decide), rfl, rfl⟩
theorem sX12_next_222 : Wp mX12_next d 222 L S M N P Q = Wp mX12_next d 406 L S M N P Q := wp_goto rfl dX12_next_222 rfl
theorem sX12_next_225 : Wp mX12_next d 225 (a0 :: .int x :: L) S M N P Q = Wp mX12_next d 226 (a0 :: .int x :: L) (.int x :: S) M N P Q := wp_iload_n rfl dX12_next_225 rfl
theorem sX12_next_226 {x0 : Int32} (hS : stk S ≤ 8) : Wp mX12_next (d + 1) 226 L (.int x0 :: S) M N P Q = Wp mX12_isDigit d 0 [.int x0] [] M N P (fun v M' N' P' => Wp mX12_next (d + 1) 229 L (v.toList ++ S) M' N' P' Q) := wp_callS (As := [.int x0]) rfl dX12_next_226 rfl rfl rfl ⟨rfl, Nat.le_of_ble_eq_true rfl, Nat.le_of_ble_eq_true rfl⟩ rfl hS
theorem sX12_next_229 : Wp mX12_next d 229 L (.int x :: S) M N P Q = (if x = 0 then Wp mX12_next d 349 L S M N P Q else Wp mX12_next d 232 L S M N P Q) := wp_if_eq rfl dX12_next_229 rfl
theorem sX12_next_232 : Wp mX12_next d 232 (.ref r :: L) S M N P Q = Wp mX12_next d 233 (.ref r :: L) (.ref r :: S) M N P Q := wp_aload_n rfl dX12_next_232 rfl
theorem sX12_next_233 : Wp mX12_next d 233 L S M N P Q = Wp mX12_next d 234 L (.int 0 :: S) M N P Q := wp_iconst rfl dX12_next_233 rfl
theorem sX12_next_234 (hs : shk r = (12, 0)) : Wp mX12_next d 234 L (.int x :: .ref r :: S) M N P Q = Wp mX12_next d 237 L S (up2 M r 30 x) N P Q := wp_putI rfl dX12_next_234 rfl rfl hs rfl ⟨_, _, _, _, rfl, by decide, rfl, tyX12_ok 30 (by decide), rfl, rfl⟩
theorem sX12_next_237 : Wp mX12_next d 237 (.ref r :: L) S M N P Q = Wp mX12_next d 238 (.ref r :: L) (.ref r :: S) M N P Q := wp_aload_n rfl dX12_next_237 rfl
theorem sX12_next_238 : Wp mX12_next d 238 (.ref r :: L) S M N P Q = Wp mX12_next d 239 (.ref r :: L) (.ref r :: S) M N P Q := wp_aload_n rfl dX12_next_238 rfl
theorem sX12_next_239 (hs : shk r = (12, 0)) : Wp mX12_next d 239 L (.ref r :: S) M N P Q = Wp mX12_next d 242 L (.int (M r 27) :: S) M N P Q := wp_getfield rfl dX12_next_239 rfl rfl hs rfl
theorem sX12_next_242 (hs : shk r = (12, 0)) : Wp mX12_next d 242 L (.int x :: .ref r :: S) M N P Q = Wp mX12_next d 245 L S (up2 M r 28 x) N P Q := wp_putI rfl dX12_next_242 rfl rfl hs rfl ⟨_, _, _, _, rfl, by decide, rfl, tyX12_ok 28 (by decide), rfl, rfl⟩
theorem sX12_next_245 : Wp mX12_next d 245 (.ref r :: L) S M N P Q = Wp mX12_next d 246 (.ref r :: L) (.ref r :: S) M N P Q := wp_aload_n rfl dX12_next_245 rfl
theorem sX12_next_246 : Wp mX12_next d 246 (.ref r :: L) S M N P Q = Wp mX12_next d 247 (.ref r :: L) (.ref r :: S) M N P Q := wp_aload_n rfl dX12_next_246 rfl
theorem sX12_next_247 (hs : shk r = (12, 0)) : Wp mX12_next d 247 L (.ref r :: S) M N P Q = Wp mX12_next d 250 L (.int (M r 28) :: S) M N P Q := wp_getfield rfl dX12_next_247 rfl rfl hs rfl
theorem sX12_next_250 {x0 : Int32} (hs : shk r = (12, 0)) (hS : stk S ≤ 8) : Wp mX12_next (d + 1) 250 L (.int x0 :: .ref r :: S) M N P Q = Wp mX12_sign d 0 [.ref r, .int x0] [] M N P (fun v M' N' P' => Wp mX12_next (d + 1) 253 L (v.toList ++ S) M' N' P' Q) := wp_callV (As := [.int x0]) rfl dX12_next_250 rfl rfl (Or.inl ⟨_, _, _, hs, rfl⟩) rfl ⟨rfl, Nat.le_of_ble_eq_true rfl, Nat.le_of_ble_eq_true rfl⟩ rfl hS
theorem sX12_next_253 {x0 : Int32} (hS : stk S ≤ 8) : Wp mX12_next (d + 1) 253 L (.int x0 :: S) M N P Q = Wp mX12_isDigit d 0 [.int x0] [] M N P (fun v M' N' P' => Wp mX12_next (d + 1) 256 L (v.toList ++ S) M' N' P' Q) := wp_callS (As := [.int x0]) rfl dX12_next_253 rfl rfl rfl ⟨rfl, Nat.le_of_ble_eq_true rfl, Nat.le_of_ble_eq_true rfl⟩ rfl hS
theorem sX12_next_256 : Wp mX12_next d 256 L (.int x :: S) M N P Q = (if x = 0 then Wp mX12_next d 309 L S M N P Q else Wp mX12_next d 259 L S M N P Q) := wp_if_eq rfl dX12_next_256 rfl
theorem sX12_next_259 : Wp mX12_next d 259 (.ref r :: L) S M N P Q = Wp mX12_next d 260 (.ref r :: L) (.ref r :: S) M N P Q := wp_aload_n rfl dX12_next_259 rfl
theorem sX12_next_260 (hs : shk r = (12, 0)) : Wp mX12_next d 260 L (.ref r :: S) M N P Q = Wp mX12_next d 263 L (.int (M r 28) :: S) M N P Q := wp_getfield rfl dX12_next_260 rfl rfl hs rfl
theorem sX12_next_263 : Wp mX12_next d 263 (.ref r :: L) S M N P Q = Wp mX12_next d 264 (.ref r :: L) (.ref r :: S) M N P Q := wp_aload_n rfl dX12_next_263 rfl
theorem sX12_next_264 (hs : shk r = (12, 0)) : Wp mX12_next d 264 L (.ref r :: S) M N P Q = Wp mX12_next d 267 L (.int (M r 27) :: S) M N P Q := wp_getfield rfl dX12_next_264 rfl rfl hs rfl
theorem sX12_next_267 : Wp mX12_next d 267 L (.int z :: .int x :: S) M N P Q = Wp mX12_next d 268 L (.int (x - z) :: S) M N P Q := wp_isub rfl dX12_next_267
theorem sX12_next_268 : Wp mX12_next d 268 L S M N P Q = Wp mX12_next d 270 L (.int 7 :: S) M N P Q := wp_bipush rfl dX12_next_268 rfl
theorem sX12_next_270 : Wp mX12_next d 270 L (.int z :: .int x :: S) M N P Q = (if z ≤ x then Wp mX12_next d 296 L S M N P Q else Wp mX12_next d 273 L S M N P Q) := wp_icmp_ge rfl dX12_next_270 rfl
theorem sX12_next_273 : Wp mX12_next d 273 (.ref r :: L) S M N P Q = Wp mX12_next d 274 (.ref r :: L) (.ref r :: S) M N P Q := wp_aload_n rfl dX12_next_273 rfl
theorem sX12_next_274 : Wp mX12_next d 274 L S M N P Q = Wp mX12_next d 276 L (.int 10 :: S) M N P Q := wp_bipush rfl dX12_next_274 rfl
theorem sX12_next_276 : Wp mX12_next d 276 (.ref r :: L) S M N P Q = Wp mX12_next d 277 (.ref r :: L) (.ref r :: S) M N P Q := wp_aload_n rfl dX12_next_276 rfl
theorem sX12_next_277 (hs : shk r = (12, 0)) : Wp mX12_next d 277 L (.ref r :: S) M N P Q = Wp mX12_next d 280 L (.int (M r 30) :: S) M N P Q := wp_getfield rfl dX12_next_277 rfl rfl hs rfl
theorem sX12_next_280 : Wp mX12_next d 280 L (.int z :: .int x :: S) M N P Q = Wp mX12_next d 281 L (.int (x * z) :: S) M N P Q := wp_imul rfl dX12_next_280
theorem sX12_next_281 : Wp mX12_next d 281 (.ref r :: L) S M N P Q = Wp mX12_next d 282 (.ref r :: L) (.ref r :: S) M N P Q := wp_aload_n rfl dX12_next_281 rfl
theorem sX12_next_282 : Wp mX12_next d 282 (.ref r :: L) S M N P Q = Wp mX12_next d 283 (.ref r :: L) (.ref r :: S) M N P Q := wp_aload_n rfl dX12_next_282 rfl
theorem sX12_next_283 (hs : shk r = (12, 0)) : Wp mX12_next d 283 L (.ref r :: S) M N P Q = Wp mX12_next d 286 L (.int (M r 28) :: S) M N P Q := wp_getfield rfl dX12_next_283 rfl rfl hs rfl
theorem sX12_next_286 {x0 : Int32} (hs : shk r = (12, 0)) (hS : stk S ≤ 8) : Wp mX12_next (d + 1) 286 L (.int x0 :: .ref r :: S) M N P Q = Wp mX12_sign d 0 [.ref r, .int x0] [] M N P (fun v M' N' P' => Wp mX12_next (d + 1) 289 L (v.toList ++ S) M' N' P' Q) := wp_callV (As := [.int x0]) rfl dX12_next_286 rfl rfl (Or.inl ⟨_, _, _, hs, rfl⟩) rfl ⟨rfl, Nat.le_of_ble_eq_true rfl, Nat.le_of_ble_eq_true rfl⟩ rfl hS
theorem sX12_next_289 : Wp mX12_next d 289 L (.int z :: .int x :: S) M N P Q = Wp mX12_next d 290 L (.int (x + z) :: S) M N P Q := wp_iadd rfl dX12_next_289
theorem sX12_next_290 : Wp mX12_next d 290 L S M N P Q = Wp mX12_next d 292 L (.int 48 :: S) M N P Q := wp_bipush rfl dX12_next_290 rfl
theorem sX12_next_292 : Wp mX12_next d 292 L (.int z :: .int x :: S) M N P Q = Wp mX12_next d 293 L (.int (x - z) :: S) M N P Q := wp_isub rfl dX12_next_292
theorem sX12_next_293 (hs : shk r = (12, 0)) : Wp mX12_next d 293 L (.int x :: .ref r :: S) M N P Q = Wp mX12_next d 296 L S (up2 M r 30 x) N P Q := wp_putI rfl dX12_next_293 rfl rfl hs rfl ⟨_, _, _, _, rfl, by decide, rfl, tyX12_ok 30 (by decide), rfl, rfl⟩
theorem sX12_next_296 : Wp mX12_next d 296 (.ref r :: L) S M N P Q = Wp mX12_next d 297 (.ref r :: L) (.ref r :: S) M N P Q := wp_aload_n rfl dX12_next_296 rfl
theorem sX12_next_297 (hv : a0.category = 1) : Wp mX12_next d 297 L (a0 :: S) M N P Q = Wp mX12_next d 298 L (a0 :: a0 :: S) M N P Q := wp_dup rfl dX12_next_297 hv
theorem sX12_next_298 (hs : shk r = (12, 0)) : Wp mX12_next d 298 L (.ref r :: S) M N P Q = Wp mX12_next d 301 L (.int (M r 28) :: S) M N P Q := wp_getfield rfl dX12_next_298 rfl rfl hs rfl
theorem sX12_next_301 : Wp mX12_next d 301 L S M N P Q = Wp mX12_next d 302 L (.int 1 :: S) M N P Q := wp_iconst rfl dX12_next_301 rfl
theorem sX12_next_302 : Wp mX12_next d 302 L (.int z :: .int x :: S) M N P Q = Wp mX12_next d 303 L (.int (x + z) :: S) M N P Q := wp_iadd rfl dX12_next_302
theorem sX12_next_303 (hs : shk r = (12, 0)) : Wp mX12_next d 303 L (.int x :: .ref r :: S) M N P Q = Wp mX12_next d 306 L S (up2 M r 28 x) N P Q := wp_putI rfl dX12_next_303 rfl rfl hs rfl ⟨_, _, _, _, rfl, by decide, rfl, tyX12_ok 28 (by decide), rfl, rfl⟩
theorem sX12_next_306 : Wp mX12_next d 306 L S M N P Q = Wp mX12_next d 245 L S M N P Q := wp_goto rfl dX12_next_306 rfl
theorem sX12_next_309 : Wp mX12_next d 309 (.ref r :: L) S M N P Q = Wp mX12_next d 310 (.ref r :: L) (.ref r :: S) M N P Q := wp_aload_n rfl dX12_next_309 rfl
theorem sX12_next_310 : Wp mX12_next d 310 (.ref r :: L) S M N P Q = Wp mX12_next d 311 (.ref r :: L) (.ref r :: S) M N P Q := wp_aload_n rfl dX12_next_310 rfl
theorem sX12_next_311 (hs : shk r = (12, 0)) : Wp mX12_next d 311 L (.ref r :: S) M N P Q = Wp mX12_next d 314 L (.int (M r 28) :: S) M N P Q := wp_getfield rfl dX12_next_311 rfl rfl hs rfl
theorem sX12_next_314 : Wp mX12_next d 314 (.ref r :: L) S M N P Q = Wp mX12_next d 315 (.ref r :: L) (.ref r :: S) M N P Q := wp_aload_n rfl dX12_next_314 rfl
theorem sX12_next_315 (hs : shk r = (12, 0)) : Wp mX12_next d 315 L (.ref r :: S) M N P Q = Wp mX12_next d 318 L (.int (M r 27) :: S) M N P Q := wp_getfield rfl dX12_next_315 rfl rfl hs rfl
theorem sX12_next_318 : Wp mX12_next d 318 L (.int z :: .int x :: S) M N P Q = Wp mX12_next d 319 L (.int (x - z) :: S) M N P Q := wp_isub rfl dX12_next_318
theorem sX12_next_319 : Wp mX12_next d 319 L S M N P Q = Wp mX12_next d 321 L (.int 7 :: S) M N P Q := wp_bipush rfl dX12_next_319 rfl
theorem sX12_next_321 : Wp mX12_next d 321 L (.int z :: .int x :: S) M N P Q = (if z < x then Wp mX12_next d 338 L S M N P Q else Wp mX12_next d 324 L S M N P Q) := wp_icmp_gt rfl dX12_next_321 rfl
theorem sX12_next_324 : Wp mX12_next d 324 (.ref r :: L) S M N P Q = Wp mX12_next d 325 (.ref r :: L) (.ref r :: S) M N P Q := wp_aload_n rfl dX12_next_324 rfl
theorem sX12_next_325 : Wp mX12_next d 325 (.ref r :: L) S M N P Q = Wp mX12_next d 326 (.ref r :: L) (.ref r :: S) M N P Q := wp_aload_n rfl dX12_next_325 rfl
theorem sX12_next_326 (hs : shk r = (12, 0)) : Wp mX12_next d 326 L (.ref r :: S) M N P Q = Wp mX12_next d 329 L (.int (M r 28) :: S) M N P Q := wp_getfield rfl dX12_next_326 rfl rfl hs rfl
theorem sX12_next_329 {x0 : Int32} (hs : shk r = (12, 0)) (hS : stk S ≤ 8) : Wp mX12_next (d + 1) 329 L (.int x0 :: .ref r :: S) M N P Q = Wp mX12_sign d 0 [.ref r, .int x0] [] M N P (fun v M' N' P' => Wp mX12_next (d + 1) 332 L (v.toList ++ S) M' N' P' Q) := wp_callV (As := [.int x0]) rfl dX12_next_329 rfl rfl (Or.inl ⟨_, _, _, hs, rfl⟩) rfl ⟨rfl, Nat.le_of_ble_eq_true rfl, Nat.le_of_ble_eq_true rfl⟩ rfl hS
theorem sX12_next_332 {x0 : Int32} (hS : stk S ≤ 8) : Wp mX12_next (d + 1) 332 L (.int x0 :: S) M N P Q = Wp mX12_isLetter d 0 [.int x0] [] M N P (fun v M' N' P' => Wp mX12_next (d + 1) 335 L (v.toList ++ S) M' N' P' Q) := wp_callS (As := [.int x0]) rfl dX12_next_332 rfl rfl rfl ⟨rfl, Nat.le_of_ble_eq_true rfl, Nat.le_of_ble_eq_true rfl⟩ rfl hS
theorem sX12_next_335 : Wp mX12_next d 335 L (.int x :: S) M N P Q = (if x = 0 then Wp mX12_next d 342 L S M N P Q else Wp mX12_next d 338 L S M N P Q) := wp_if_eq rfl dX12_next_335 rfl
theorem sX12_next_338 : Wp mX12_next d 338 L S M N P Q = Wp mX12_next d 339 L (.int 1 :: S) M N P Q := wp_iconst rfl dX12_next_338 rfl
theorem sX12_next_339 : Wp mX12_next d 339 L S M N P Q = Wp mX12_next d 343 L S M N P Q := wp_goto rfl dX12_next_339 rfl
theorem sX12_next_342 : Wp mX12_next d 342 L S M N P Q = Wp mX12_next d 343 L (.int 3 :: S) M N P Q := wp_iconst rfl dX12_next_342 rfl
theorem sX12_next_343 (hs : shk r = (12, 0)) : Wp mX12_next d 343 L (.int x :: .ref r :: S) M N P Q = Wp mX12_next d 346 L S (up2 M r 29 x) N P Q := wp_putI rfl dX12_next_343 rfl rfl hs rfl ⟨_, _, _, _, rfl, by decide, rfl, tyX12_ok 29 (by decide), rfl, rfl⟩
theorem sX12_next_346 : Wp mX12_next d 346 L S M N P Q = Wp mX12_next d 406 L S M N P Q := wp_goto rfl dX12_next_346 rfl
theorem sX12_next_349 : Wp mX12_next d 349 (.ref r :: L) S M N P Q = Wp mX12_next d 350 (.ref r :: L) (.ref r :: S) M N P Q := wp_aload_n rfl dX12_next_349 rfl
theorem sX12_next_350 : Wp mX12_next d 350 (a0 :: .int x :: L) S M N P Q = Wp mX12_next d 351 (a0 :: .int x :: L) (.int x :: S) M N P Q := wp_iload_n rfl dX12_next_350 rfl
theorem sX12_next_351 : Wp mX12_next d 351 L S M N P Q = Wp mX12_next d 353 L (.int 59 :: S) M N P Q := wp_bipush rfl dX12_next_351 rfl
theorem sX12_next_353 : Wp mX12_next d 353 L (.int z :: .int x :: S) M N P Q = (if x = z then Wp mX12_next d 398 L S M N P Q else Wp mX12_next d 356 L S M N P Q) := wp_icmp_eq rfl dX12_next_353 rfl
theorem sX12_next_356 : Wp mX12_next d 356 (a0 :: .int x :: L) S M N P Q = Wp mX12_next d 357 (a0 :: .int x :: L) (.int x :: S) M N P Q := wp_iload_n rfl dX12_next_356 rfl
theorem sX12_next_357 : Wp mX12_next d 357 L S M N P Q = Wp mX12_next d 359 L (.int 40 :: S) M N P Q := wp_bipush rfl dX12_next_357 rfl
theorem sX12_next_359 : Wp mX12_next d 359 L (.int z :: .int x :: S) M N P Q = (if x = z then Wp mX12_next d 398 L S M N P Q else Wp mX12_next d 362 L S M N P Q) := wp_icmp_eq rfl dX12_next_359 rfl
theorem sX12_next_362 : Wp mX12_next d 362 (a0 :: .int x :: L) S M N P Q = Wp mX12_next d 363 (a0 :: .int x :: L) (.int x :: S) M N P Q := wp_iload_n rfl dX12_next_362 rfl
theorem sX12_next_363 : Wp mX12_next d 363 L S M N P Q = Wp mX12_next d 365 L (.int 41 :: S) M N P Q := wp_bipush rfl dX12_next_363 rfl
theorem sX12_next_365 : Wp mX12_next d 365 L (.int z :: .int x :: S) M N P Q = (if x = z then Wp mX12_next d 398 L S M N P Q else Wp mX12_next d 368 L S M N P Q) := wp_icmp_eq rfl dX12_next_365 rfl
theorem sX12_next_368 : Wp mX12_next d 368 (a0 :: .int x :: L) S M N P Q = Wp mX12_next d 369 (a0 :: .int x :: L) (.int x :: S) M N P Q := wp_iload_n rfl dX12_next_368 rfl
theorem sX12_next_369 : Wp mX12_next d 369 L S M N P Q = Wp mX12_next d 371 L (.int 60 :: S) M N P Q := wp_bipush rfl dX12_next_369 rfl
theorem sX12_next_371 : Wp mX12_next d 371 L (.int z :: .int x :: S) M N P Q = (if x = z then Wp mX12_next d 398 L S M N P Q else Wp mX12_next d 374 L S M N P Q) := wp_icmp_eq rfl dX12_next_371 rfl
theorem sX12_next_374 : Wp mX12_next d 374 (a0 :: .int x :: L) S M N P Q = Wp mX12_next d 375 (a0 :: .int x :: L) (.int x :: S) M N P Q := wp_iload_n rfl dX12_next_374 rfl
theorem sX12_next_375 : Wp mX12_next d 375 L S M N P Q = Wp mX12_next d 377 L (.int 62 :: S) M N P Q := wp_bipush rfl dX12_next_375 rfl
theorem sX12_next_377 : Wp mX12_next d 377 L (.int z :: .int x :: S) M N P Q = (if x = z then Wp mX12_next d 398 L S M N P Q else Wp mX12_next d 380 L S M N P Q) := wp_icmp_eq rfl dX12_next_377 rfl
theorem sX12_next_380 : Wp mX12_next d 380 (a0 :: .int x :: L) S M N P Q = Wp mX12_next d 381 (a0 :: .int x :: L) (.int x :: S) M N P Q := wp_iload_n rfl dX12_next_380 rfl
theorem sX12_next_381 : Wp mX12_next d 381 L S M N P Q = Wp mX12_next d 383 L (.int 61 :: S) M N P Q := wp_bipush rfl dX12_next_381 rfl
theorem sX12_next_383 : Wp mX12_next d 383 L (.int z :: .int x :: S) M N P Q = (if x = z then Wp mX12_next d 398 L S M N P Q else Wp mX12_next d 386 L S M N P Q) := wp_icmp_eq rfl dX12_next_383 rfl
theorem sX12_next_386 : Wp mX12_next d 386 (a0 :: .int x :: L) S M N P Q = Wp mX12_next d 387 (a0 :: .int x :: L) (.int x :: S) M N P Q := wp_iload_n rfl dX12_next_386 rfl
theorem sX12_next_387 : Wp mX12_next d 387 L S M N P Q = Wp mX12_next d 389 L (.int 43 :: S) M N P Q := wp_bipush rfl dX12_next_387 rfl
theorem sX12_next_389 : Wp mX12_next d 389 L (.int z :: .int x :: S) M N P Q = (if x = z then Wp mX12_next d 398 L S M N P Q else Wp mX12_next d 392 L S M N P Q) := wp_icmp_eq rfl dX12_next_389 rfl
theorem sX12_next_392 : Wp mX12_next d 392 (a0 :: .int x :: L) S M N P Q = Wp mX12_next d 393 (a0 :: .int x :: L) (.int x :: S) M N P Q := wp_iload_n rfl dX12_next_392 rfl
theorem sX12_next_393 : Wp mX12_next d 393 L S M N P Q = Wp mX12_next d 395 L (.int 45 :: S) M N P Q := wp_bipush rfl dX12_next_393 rfl
theorem sX12_next_395 : Wp mX12_next d 395 L (.int z :: .int x :: S) M N P Q = (if x = z then Wp mX12_next d 398 L S M N P Q else Wp mX12_next d 402 L S M N P Q) := wp_icmp_ne rfl dX12_next_395 rfl
theorem sX12_next_398 : Wp mX12_next d 398 L S M N P Q = Wp mX12_next d 399 L (.int 4 :: S) M N P Q := wp_iconst rfl dX12_next_398 rfl
theorem sX12_next_399 : Wp mX12_next d 399 L S M N P Q = Wp mX12_next d 403 L S M N P Q := wp_goto rfl dX12_next_399 rfl
theorem sX12_next_402 : Wp mX12_next d 402 L S M N P Q = Wp mX12_next d 403 L (.int 1 :: S) M N P Q := wp_iconst rfl dX12_next_402 rfl
theorem sX12_next_403 (hs : shk r = (12, 0)) : Wp mX12_next d 403 L (.int x :: .ref r :: S) M N P Q = Wp mX12_next d 406 L S (up2 M r 29 x) N P Q := wp_putI rfl dX12_next_403 rfl rfl hs rfl ⟨_, _, _, _, rfl, by decide, rfl, tyX12_ok 29 (by decide), rfl, rfl⟩
theorem sX12_next_406 : Wp mX12_next d 406 L [] M N P Q = Q none M N P := wp_vret rfl dX12_next_406 rfl
theorem sX12_is_0 : Wp mX12_is d 0 (.ref r :: L) S M N P Q = Wp mX12_is d 1 (.ref r :: L) (.ref r :: S) M N P Q := wp_aload_n rfl dX12_is_0 rfl
theorem sX12_is_1 (hs : shk r = (12, 0)) : Wp mX12_is d 1 L (.ref r :: S) M N P Q = Wp mX12_is d 4 L (.int (M r 29) :: S) M N P Q := wp_getfield rfl dX12_is_1 rfl rfl hs rfl
theorem sX12_is_4 : Wp mX12_is d 4 L S M N P Q = Wp mX12_is d 5 L (.int 4 :: S) M N P Q := wp_iconst rfl dX12_is_4 rfl
theorem sX12_is_5 : Wp mX12_is d 5 L (.int z :: .int x :: S) M N P Q = (if x = z then Wp mX12_is d 8 L S M N P Q else Wp mX12_is d 24 L S M N P Q) := wp_icmp_ne rfl dX12_is_5 rfl
theorem sX12_is_8 : Wp mX12_is d 8 (.ref r :: L) S M N P Q = Wp mX12_is d 9 (.ref r :: L) (.ref r :: S) M N P Q := wp_aload_n rfl dX12_is_8 rfl
theorem sX12_is_9 : Wp mX12_is d 9 (.ref r :: L) S M N P Q = Wp mX12_is d 10 (.ref r :: L) (.ref r :: S) M N P Q := wp_aload_n rfl dX12_is_9 rfl
theorem sX12_is_10 (hs : shk r = (12, 0)) : Wp mX12_is d 10 L (.ref r :: S) M N P Q = Wp mX12_is d 13 L (.int (M r 27) :: S) M N P Q := wp_getfield rfl dX12_is_10 rfl rfl hs rfl
theorem sX12_is_13 {x0 : Int32} (hs : shk r = (12, 0)) (hS : stk S ≤ 8) : Wp mX12_is (d + 1) 13 L (.int x0 :: .ref r :: S) M N P Q = Wp mX12_sign d 0 [.ref r, .int x0] [] M N P (fun v M' N' P' => Wp mX12_is (d + 1) 16 L (v.toList ++ S) M' N' P' Q) := wp_callV (As := [.int x0]) rfl dX12_is_13 rfl rfl (Or.inl ⟨_, _, _, hs, rfl⟩) rfl ⟨rfl, Nat.le_of_ble_eq_true rfl, Nat.le_of_ble_eq_true rfl⟩ rfl hS
theorem sX12_is_16 : Wp mX12_is d 16 (a0 :: .int x :: L) S M N P Q = Wp mX12_is d 17 (a0 :: .int x :: L) (.int x :: S) M N P Q := wp_iload_n rfl dX12_is_16 rfl
theorem sX12_is_17 : Wp mX12_is d 17 L (.int z :: .int x :: S) M N P Q = (if x = z then Wp mX12_is d 20 L S M N P Q else Wp mX12_is d 24 L S M N P Q) := wp_icmp_ne rfl dX12_is_17 rfl
theorem sX12_is_20 : Wp mX12_is d 20 L S M N P Q = Wp mX12_is d 21 L (.int 1 :: S) M N P Q := wp_iconst rfl dX12_is_20 rfl
theorem sX12_is_21 : Wp mX12_is d 21 L S M N P Q = Wp mX12_is d 25 L S M N P Q := wp_goto rfl dX12_is_21 rfl
theorem sX12_is_24 : Wp mX12_is d 24 L S M N P Q = Wp mX12_is d 25 L (.int 0 :: S) M N P Q := wp_iconst rfl dX12_is_24 rfl
theorem sX12_is_25 (hb : bit x) : Wp mX12_is d 25 L [.int x] M N P Q = Q (some (.int x)) M N P := wp_iret rfl dX12_is_25 rfl (bit_n hb)
theorem sX12_isWord_0 : Wp mX12_isWord d 0 (.ref r :: L) S M N P Q = Wp mX12_isWord d 1 (.ref r :: L) (.ref r :: S) M N P Q := wp_aload_n rfl dX12_isWord_0 rfl
theorem sX12_isWord_1 (hs : shk r = (12, 0)) : Wp mX12_isWord d 1 L (.ref r :: S) M N P Q = Wp mX12_isWord d 4 L (.int (M r 29) :: S) M N P Q := wp_getfield rfl dX12_isWord_1 rfl rfl hs rfl
theorem sX12_isWord_4 : Wp mX12_isWord d 4 L S M N P Q = Wp mX12_isWord d 5 L (.int 2 :: S) M N P Q := wp_iconst rfl dX12_isWord_4 rfl
theorem sX12_isWord_5 : Wp mX12_isWord d 5 L (.int z :: .int x :: S) M N P Q = (if x = z then Wp mX12_isWord d 8 L S M N P Q else Wp mX12_isWord d 21 L S M N P Q) := wp_icmp_ne rfl dX12_isWord_5 rfl
theorem sX12_isWord_8 : Wp mX12_isWord d 8 (.ref r :: L) S M N P Q = Wp mX12_isWord d 9 (.ref r :: L) (.ref r :: S) M N P Q := wp_aload_n rfl dX12_isWord_8 rfl
theorem sX12_isWord_9 (hs : shk r = (12, 0)) : Wp mX12_isWord d 9 L (.ref r :: S) M N P Q = Wp mX12_isWord d 12 L (.long (N r 31) :: S) M N P Q := wp_getfield rfl dX12_isWord_9 rfl rfl hs rfl
theorem sX12_isWord_12 : Wp mX12_isWord d 12 (a0 :: .long lx :: L) S M N P Q = Wp mX12_isWord d 13 (a0 :: .long lx :: L) (.long lx :: S) M N P Q := wp_lload_n rfl dX12_isWord_12 rfl
theorem sX12_isWord_13 : Wp mX12_isWord d 13 L (.long lz :: .long lx :: S) M N P Q = Wp mX12_isWord d 14 L (.int (lg_cmp lx lz) :: S) M N P Q := wp_lcmp rfl dX12_isWord_13
theorem sX12_isWord_14 : Wp mX12_isWord d 14 L (.int x :: S) M N P Q = (if x = 0 then Wp mX12_isWord d 17 L S M N P Q else Wp mX12_isWord d 21 L S M N P Q) := wp_if_ne rfl dX12_isWord_14 rfl
theorem sX12_isWord_17 : Wp mX12_isWord d 17 L S M N P Q = Wp mX12_isWord d 18 L (.int 1 :: S) M N P Q := wp_iconst rfl dX12_isWord_17 rfl
theorem sX12_isWord_18 : Wp mX12_isWord d 18 L S M N P Q = Wp mX12_isWord d 22 L S M N P Q := wp_goto rfl dX12_isWord_18 rfl
theorem sX12_isWord_21 : Wp mX12_isWord d 21 L S M N P Q = Wp mX12_isWord d 22 L (.int 0 :: S) M N P Q := wp_iconst rfl dX12_isWord_21 rfl
theorem sX12_isWord_22 (hb : bit x) : Wp mX12_isWord d 22 L [.int x] M N P Q = Q (some (.int x)) M N P := wp_iret rfl dX12_isWord_22 rfl (bit_n hb)
theorem sX12_wrong_0 : Wp mX12_wrong d 0 (.ref r :: L) S M N P Q = Wp mX12_wrong d 1 (.ref r :: L) (.ref r :: S) M N P Q := wp_aload_n rfl dX12_wrong_0 rfl
theorem sX12_wrong_1 : Wp mX12_wrong d 1 (.ref r :: L) S M N P Q = Wp mX12_wrong d 2 (.ref r :: L) (.ref r :: S) M N P Q := wp_aload_n rfl dX12_wrong_1 rfl
theorem sX12_wrong_2 (hs : shk r = (12, 0)) : Wp mX12_wrong d 2 L (.ref r :: S) M N P Q = Wp mX12_wrong d 5 L (.int (M r 29) :: S) M N P Q := wp_getfield rfl dX12_wrong_2 rfl rfl hs rfl
theorem sX12_wrong_5 : Wp mX12_wrong d 5 L S M N P Q = Wp mX12_wrong d 6 L (.int 1 :: S) M N P Q := wp_iconst rfl dX12_wrong_5 rfl
theorem sX12_wrong_6 : Wp mX12_wrong d 6 L (.int z :: .int x :: S) M N P Q = (if x = z then Wp mX12_wrong d 9 L S M N P Q else Wp mX12_wrong d 13 L S M N P Q) := wp_icmp_ne rfl dX12_wrong_6 rfl
theorem sX12_wrong_9 : Wp mX12_wrong d 9 L S M N P Q = Wp mX12_wrong d 10 L (.int 1 :: S) M N P Q := wp_iconst rfl dX12_wrong_9 rfl
theorem sX12_wrong_10 : Wp mX12_wrong d 10 L S M N P Q = Wp mX12_wrong d 14 L S M N P Q := wp_goto rfl dX12_wrong_10 rfl
theorem sX12_wrong_13 : Wp mX12_wrong d 13 L S M N P Q = Wp mX12_wrong d 14 L (.int 2 :: S) M N P Q := wp_iconst rfl dX12_wrong_13 rfl
theorem sX12_wrong_14 : Wp mX12_wrong d 14 (.ref r :: L) S M N P Q = Wp mX12_wrong d 15 (.ref r :: L) (.ref r :: S) M N P Q := wp_aload_n rfl dX12_wrong_14 rfl
theorem sX12_wrong_15 (hs : shk r = (12, 0)) : Wp mX12_wrong d 15 L (.ref r :: S) M N P Q = Wp mX12_wrong d 18 L (.int (M r 27) :: S) M N P Q := wp_getfield rfl dX12_wrong_15 rfl rfl hs rfl
theorem sX12_wrong_18 {x0 : Int32} {x1 : Int32} (hs : shk r = (12, 0)) (hS : stk S ≤ 8) : Wp mX12_wrong (d + 1) 18 L (.int x1 :: .int x0 :: .ref r :: S) M N P Q = Wp mX12_fails d 0 [.ref r, .int x0, .int x1] [] M N P (fun v M' N' P' => Wp mX12_wrong (d + 1) 21 L (v.toList ++ S) M' N' P' Q) := wp_callV (As := [.int x0, .int x1]) rfl dX12_wrong_18 rfl rfl (Or.inl ⟨_, _, _, hs, rfl⟩) rfl ⟨rfl, Nat.le_of_ble_eq_true rfl, Nat.le_of_ble_eq_true rfl⟩ rfl hS
theorem sX12_wrong_21 : Wp mX12_wrong d 21 L [] M N P Q = Q none M N P := wp_vret rfl dX12_wrong_21 rfl
theorem sX12_must_0 : Wp mX12_must d 0 (.ref r :: L) S M N P Q = Wp mX12_must d 1 (.ref r :: L) (.ref r :: S) M N P Q := wp_aload_n rfl dX12_must_0 rfl
theorem sX12_must_1 (hs : shk r = (12, 0)) (hS : stk S ≤ 8) : Wp mX12_must (d + 1) 1 L (.ref r :: S) M N P Q = Wp mX12_isGood d 0 [.ref r] [] M N P (fun v M' N' P' => Wp mX12_must (d + 1) 4 L (v.toList ++ S) M' N' P' Q) := wp_callV (As := []) rfl dX12_must_1 rfl rfl (Or.inl ⟨_, _, _, hs, rfl⟩) rfl ⟨rfl, Nat.le_of_ble_eq_true rfl, Nat.le_of_ble_eq_true rfl⟩ rfl hS
theorem sX12_must_4 : Wp mX12_must d 4 L (.int x :: S) M N P Q = (if x = 0 then Wp mX12_must d 7 L S M N P Q else Wp mX12_must d 8 L S M N P Q) := wp_if_ne rfl dX12_must_4 rfl
theorem sX12_must_7 : Wp mX12_must d 7 L [] M N P Q = Q none M N P := wp_vret rfl dX12_must_7 rfl
theorem sX12_must_8 : Wp mX12_must d 8 (a0 :: .int x :: L) S M N P Q = Wp mX12_must d 9 (a0 :: .int x :: L) (.int x :: S) M N P Q := wp_iload_n rfl dX12_must_8 rfl
theorem sX12_must_9 : Wp mX12_must d 9 L (.int x :: S) M N P Q = (if x = 0 then Wp mX12_must d 19 L S M N P Q else Wp mX12_must d 12 L S M N P Q) := wp_if_eq rfl dX12_must_9 rfl
theorem sX12_must_12 : Wp mX12_must d 12 (.ref r :: L) S M N P Q = Wp mX12_must d 13 (.ref r :: L) (.ref r :: S) M N P Q := wp_aload_n rfl dX12_must_12 rfl
theorem sX12_must_13 (hs : shk r = (12, 0)) (hS : stk S ≤ 8) : Wp mX12_must (d + 1) 13 L (.ref r :: S) M N P Q = Wp mX12_next d 0 [.ref r, .float 0, .float 0] [] M N P (fun v M' N' P' => Wp mX12_must (d + 1) 16 L (v.toList ++ S) M' N' P' Q) := wp_callV (As := []) rfl dX12_must_13 rfl rfl (Or.inl ⟨_, _, _, hs, rfl⟩) rfl ⟨rfl, Nat.le_of_ble_eq_true rfl, Nat.le_of_ble_eq_true rfl⟩ rfl hS
theorem sX12_must_16 : Wp mX12_must d 16 L S M N P Q = Wp mX12_must d 23 L S M N P Q := wp_goto rfl dX12_must_16 rfl
theorem sX12_must_19 : Wp mX12_must d 19 (.ref r :: L) S M N P Q = Wp mX12_must d 20 (.ref r :: L) (.ref r :: S) M N P Q := wp_aload_n rfl dX12_must_19 rfl
theorem sX12_must_20 (hs : shk r = (12, 0)) (hS : stk S ≤ 8) : Wp mX12_must (d + 1) 20 L (.ref r :: S) M N P Q = Wp mX12_wrong d 0 [.ref r] [] M N P (fun v M' N' P' => Wp mX12_must (d + 1) 23 L (v.toList ++ S) M' N' P' Q) := wp_callV (As := []) rfl dX12_must_20 rfl rfl (Or.inl ⟨_, _, _, hs, rfl⟩) rfl ⟨rfl, Nat.le_of_ble_eq_true rfl, Nat.le_of_ble_eq_true rfl⟩ rfl hS
theorem sX12_must_23 : Wp mX12_must d 23 L [] M N P Q = Q none M N P := wp_vret rfl dX12_must_23 rfl
theorem sX12_termHere_0 : Wp mX12_termHere d 0 (.ref r :: L) S M N P Q = Wp mX12_termHere d 1 (.ref r :: L) (.ref r :: S) M N P Q := wp_aload_n rfl dX12_termHere_0 rfl
theorem sX12_termHere_1 (hs : shk r = (12, 0)) : Wp mX12_termHere d 1 L (.ref r :: S) M N P Q = Wp mX12_termHere d 4 L (.int (M r 29) :: S) M N P Q := wp_getfield rfl dX12_termHere_1 rfl rfl hs rfl
theorem sX12_termHere_4 : Wp mX12_termHere d 4 L S M N P Q = Wp mX12_termHere d 5 L (.int 2 :: S) M N P Q := wp_iconst rfl dX12_termHere_4 rfl
theorem sX12_termHere_5 : Wp mX12_termHere d 5 L (.int z :: .int x :: S) M N P Q = (if x = z then Wp mX12_termHere d 10 L S M N P Q else Wp mX12_termHere d 8 L S M N P Q) := wp_icmp_eq rfl dX12_termHere_5 rfl
theorem sX12_termHere_8 : Wp mX12_termHere d 8 L S M N P Q = Wp mX12_termHere d 9 L (.int (-1) :: S) M N P Q := wp_iconst rfl dX12_termHere_8 rfl
theorem sX12_termHere_9 : Wp mX12_termHere d 9 L [.int x] M N P Q = Q (some (.int x)) M N P := wp_iret rfl dX12_termHere_9 rfl rfl
theorem sX12_termHere_10 : Wp mX12_termHere d 10 (.ref r :: L) S M N P Q = Wp mX12_termHere d 11 (.ref r :: L) (.ref r :: S) M N P Q := wp_aload_n rfl dX12_termHere_10 rfl
theorem sX12_termHere_11 (hs : shk r = (12, 0)) : Wp mX12_termHere d 11 L (.ref r :: S) M N P Q = Wp mX12_termHere d 14 L (.long (N r 31) :: S) M N P Q := wp_getfield rfl dX12_termHere_11 rfl rfl hs rfl
theorem sX12_termHere_14 : Wp mX12_termHere d 14 L S M N P Q = Wp mX12_termHere d 17 L (.long (112628846519652) :: S) M N P Q := wp_ldc2_w rfl dX12_termHere_14 rfl rfl
theorem sX12_termHere_17 : Wp mX12_termHere d 17 L (.long lz :: .long lx :: S) M N P Q = Wp mX12_termHere d 18 L (.int (lg_cmp lx lz) :: S) M N P Q := wp_lcmp rfl dX12_termHere_17
theorem sX12_termHere_18 : Wp mX12_termHere d 18 L (.int x :: S) M N P Q = (if x = 0 then Wp mX12_termHere d 21 L S M N P Q else Wp mX12_termHere d 25 L S M N P Q) := wp_if_ne rfl dX12_termHere_18 rfl
theorem sX12_termHere_21 : Wp mX12_termHere d 21 L S M N P Q = Wp mX12_termHere d 22 L (.int 0 :: S) M N P Q := wp_iconst rfl dX12_termHere_21 rfl
theorem sX12_termHere_22 : Wp mX12_termHere d 22 L S M N P Q = Wp mX12_termHere d 86 L S M N P Q := wp_goto rfl dX12_termHere_22 rfl
theorem sX12_termHere_25 : Wp mX12_termHere d 25 (.ref r :: L) S M N P Q = Wp mX12_termHere d 26 (.ref r :: L) (.ref r :: S) M N P Q := wp_aload_n rfl dX12_termHere_25 rfl
theorem sX12_termHere_26 (hs : shk r = (12, 0)) : Wp mX12_termHere d 26 L (.ref r :: S) M N P Q = Wp mX12_termHere d 29 L (.long (N r 31) :: S) M N P Q := wp_getfield rfl dX12_termHere_26 rfl rfl hs rfl
theorem sX12_termHere_29 : Wp mX12_termHere d 29 L S M N P Q = Wp mX12_termHere d 32 L (.long (444150998382) :: S) M N P Q := wp_ldc2_w rfl dX12_termHere_29 rfl rfl
theorem sX12_termHere_32 : Wp mX12_termHere d 32 L (.long lz :: .long lx :: S) M N P Q = Wp mX12_termHere d 33 L (.int (lg_cmp lx lz) :: S) M N P Q := wp_lcmp rfl dX12_termHere_32
theorem sX12_termHere_33 : Wp mX12_termHere d 33 L (.int x :: S) M N P Q = (if x = 0 then Wp mX12_termHere d 36 L S M N P Q else Wp mX12_termHere d 40 L S M N P Q) := wp_if_ne rfl dX12_termHere_33 rfl
theorem sX12_termHere_36 : Wp mX12_termHere d 36 L S M N P Q = Wp mX12_termHere d 37 L (.int 1 :: S) M N P Q := wp_iconst rfl dX12_termHere_36 rfl
theorem sX12_termHere_37 : Wp mX12_termHere d 37 L S M N P Q = Wp mX12_termHere d 86 L S M N P Q := wp_goto rfl dX12_termHere_37 rfl
theorem sX12_termHere_40 : Wp mX12_termHere d 40 (.ref r :: L) S M N P Q = Wp mX12_termHere d 41 (.ref r :: L) (.ref r :: S) M N P Q := wp_aload_n rfl dX12_termHere_40 rfl
theorem sX12_termHere_41 (hs : shk r = (12, 0)) : Wp mX12_termHere d 41 L (.ref r :: S) M N P Q = Wp mX12_termHere d 44 L (.long (N r 31) :: S) M N P Q := wp_getfield rfl dX12_termHere_41 rfl rfl hs rfl
theorem sX12_termHere_44 : Wp mX12_termHere d 44 L S M N P Q = Wp mX12_termHere d 47 L (.long (482955846501) :: S) M N P Q := wp_ldc2_w rfl dX12_termHere_44 rfl rfl
theorem sX12_termHere_47 : Wp mX12_termHere d 47 L (.long lz :: .long lx :: S) M N P Q = Wp mX12_termHere d 48 L (.int (lg_cmp lx lz) :: S) M N P Q := wp_lcmp rfl dX12_termHere_47
theorem sX12_termHere_48 : Wp mX12_termHere d 48 L (.int x :: S) M N P Q = (if x = 0 then Wp mX12_termHere d 51 L S M N P Q else Wp mX12_termHere d 55 L S M N P Q) := wp_if_ne rfl dX12_termHere_48 rfl
theorem sX12_termHere_51 : Wp mX12_termHere d 51 L S M N P Q = Wp mX12_termHere d 52 L (.int 2 :: S) M N P Q := wp_iconst rfl dX12_termHere_51 rfl
theorem sX12_termHere_52 : Wp mX12_termHere d 52 L S M N P Q = Wp mX12_termHere d 86 L S M N P Q := wp_goto rfl dX12_termHere_52 rfl
theorem sX12_termHere_55 : Wp mX12_termHere d 55 (.ref r :: L) S M N P Q = Wp mX12_termHere d 56 (.ref r :: L) (.ref r :: S) M N P Q := wp_aload_n rfl dX12_termHere_55 rfl
theorem sX12_termHere_56 (hs : shk r = (12, 0)) : Wp mX12_termHere d 56 L (.ref r :: S) M N P Q = Wp mX12_termHere d 59 L (.long (N r 31) :: S) M N P Q := wp_getfield rfl dX12_termHere_56 rfl rfl hs rfl
theorem sX12_termHere_59 : Wp mX12_termHere d 59 L S M N P Q = Wp mX12_termHere d 62 L (.long (512970880104) :: S) M N P Q := wp_ldc2_w rfl dX12_termHere_59 rfl rfl
theorem sX12_termHere_62 : Wp mX12_termHere d 62 L (.long lz :: .long lx :: S) M N P Q = Wp mX12_termHere d 63 L (.int (lg_cmp lx lz) :: S) M N P Q := wp_lcmp rfl dX12_termHere_62
theorem sX12_termHere_63 : Wp mX12_termHere d 63 L (.int x :: S) M N P Q = (if x = 0 then Wp mX12_termHere d 66 L S M N P Q else Wp mX12_termHere d 70 L S M N P Q) := wp_if_ne rfl dX12_termHere_63 rfl
theorem sX12_termHere_66 : Wp mX12_termHere d 66 L S M N P Q = Wp mX12_termHere d 67 L (.int 3 :: S) M N P Q := wp_iconst rfl dX12_termHere_66 rfl
theorem sX12_termHere_67 : Wp mX12_termHere d 67 L S M N P Q = Wp mX12_termHere d 86 L S M N P Q := wp_goto rfl dX12_termHere_67 rfl
theorem sX12_termHere_70 : Wp mX12_termHere d 70 (.ref r :: L) S M N P Q = Wp mX12_termHere d 71 (.ref r :: L) (.ref r :: S) M N P Q := wp_aload_n rfl dX12_termHere_70 rfl
theorem sX12_termHere_71 (hs : shk r = (12, 0)) : Wp mX12_termHere d 71 L (.ref r :: S) M N P Q = Wp mX12_termHere d 74 L (.long (N r 31) :: S) M N P Q := wp_getfield rfl dX12_termHere_71 rfl rfl hs rfl
theorem sX12_termHere_74 : Wp mX12_termHere d 74 L S M N P Q = Wp mX12_termHere d 77 L (.long (2036687218) :: S) M N P Q := wp_ldc2_w rfl dX12_termHere_74 rfl rfl
theorem sX12_termHere_77 : Wp mX12_termHere d 77 L (.long lz :: .long lx :: S) M N P Q = Wp mX12_termHere d 78 L (.int (lg_cmp lx lz) :: S) M N P Q := wp_lcmp rfl dX12_termHere_77
theorem sX12_termHere_78 : Wp mX12_termHere d 78 L (.int x :: S) M N P Q = (if x = 0 then Wp mX12_termHere d 81 L S M N P Q else Wp mX12_termHere d 85 L S M N P Q) := wp_if_ne rfl dX12_termHere_78 rfl
theorem sX12_termHere_81 : Wp mX12_termHere d 81 L S M N P Q = Wp mX12_termHere d 82 L (.int 4 :: S) M N P Q := wp_iconst rfl dX12_termHere_81 rfl
theorem sX12_termHere_82 : Wp mX12_termHere d 82 L S M N P Q = Wp mX12_termHere d 86 L S M N P Q := wp_goto rfl dX12_termHere_82 rfl
theorem sX12_termHere_85 : Wp mX12_termHere d 85 L S M N P Q = Wp mX12_termHere d 86 L (.int (-1) :: S) M N P Q := wp_iconst rfl dX12_termHere_85 rfl
theorem sX12_termHere_86 (hn : nl a0 = true) : Wp mX12_termHere d 86 (a0 :: a1 :: L) (.int x :: S) M N P Q = Wp mX12_termHere d 87 (a0 :: .int x :: L) S M N P Q := wp_istore_n rfl dX12_termHere_86 (lenGt1 ..) (okst1 hn) rfl
theorem sX12_termHere_87 : Wp mX12_termHere d 87 (a0 :: .int x :: L) S M N P Q = Wp mX12_termHere d 88 (a0 :: .int x :: L) (.int x :: S) M N P Q := wp_iload_n rfl dX12_termHere_87 rfl
theorem sX12_termHere_88 : Wp mX12_termHere d 88 L (.int x :: S) M N P Q = (if x < 0 then Wp mX12_termHere d 95 L S M N P Q else Wp mX12_termHere d 91 L S M N P Q) := wp_if_lt rfl dX12_termHere_88 rfl
theorem sX12_termHere_91 : Wp mX12_termHere d 91 (a0 :: .int x :: L) S M N P Q = Wp mX12_termHere d 92 (a0 :: .int x :: L) (.int x :: S) M N P Q := wp_iload_n rfl dX12_termHere_91 rfl
theorem sX12_termHere_92 : Wp mX12_termHere d 92 L S M N P Q = Wp mX12_termHere d 159 L S M N P Q := wp_goto rfl dX12_termHere_92 rfl
theorem sX12_termHere_95 : Wp mX12_termHere d 95 (.ref r :: L) S M N P Q = Wp mX12_termHere d 96 (.ref r :: L) (.ref r :: S) M N P Q := wp_aload_n rfl dX12_termHere_95 rfl
theorem sX12_termHere_96 (hs : shk r = (12, 0)) : Wp mX12_termHere d 96 L (.ref r :: S) M N P Q = Wp mX12_termHere d 99 L (.long (N r 31) :: S) M N P Q := wp_getfield rfl dX12_termHere_96 rfl rfl hs rfl
theorem sX12_termHere_99 : Wp mX12_termHere d 99 L S M N P Q = Wp mX12_termHere d 102 L (.long (1751477348) :: S) M N P Q := wp_ldc2_w rfl dX12_termHere_99 rfl rfl
theorem sX12_termHere_102 : Wp mX12_termHere d 102 L (.long lz :: .long lx :: S) M N P Q = Wp mX12_termHere d 103 L (.int (lg_cmp lx lz) :: S) M N P Q := wp_lcmp rfl dX12_termHere_102
theorem sX12_termHere_103 : Wp mX12_termHere d 103 L (.int x :: S) M N P Q = (if x = 0 then Wp mX12_termHere d 106 L S M N P Q else Wp mX12_termHere d 110 L S M N P Q) := wp_if_ne rfl dX12_termHere_103 rfl
theorem sX12_termHere_106 : Wp mX12_termHere d 106 L S M N P Q = Wp mX12_termHere d 107 L (.int 5 :: S) M N P Q := wp_iconst rfl dX12_termHere_106 rfl
theorem sX12_termHere_107 : Wp mX12_termHere d 107 L S M N P Q = Wp mX12_termHere d 159 L S M N P Q := wp_goto rfl dX12_termHere_107 rfl
theorem sX12_termHere_110 : Wp mX12_termHere d 110 (.ref r :: L) S M N P Q = Wp mX12_termHere d 111 (.ref r :: L) (.ref r :: S) M N P Q := wp_aload_n rfl dX12_termHere_110 rfl
theorem sX12_termHere_111 (hs : shk r = (12, 0)) : Wp mX12_termHere d 111 L (.ref r :: S) M N P Q = Wp mX12_termHere d 114 L (.long (N r 31) :: S) M N P Q := wp_getfield rfl dX12_termHere_111 rfl rfl hs rfl
theorem sX12_termHere_114 : Wp mX12_termHere d 114 L S M N P Q = Wp mX12_termHere d 117 L (.long (448311223411) :: S) M N P Q := wp_ldc2_w rfl dX12_termHere_114 rfl rfl
theorem sX12_termHere_117 : Wp mX12_termHere d 117 L (.long lz :: .long lx :: S) M N P Q = Wp mX12_termHere d 118 L (.int (lg_cmp lx lz) :: S) M N P Q := wp_lcmp rfl dX12_termHere_117
theorem sX12_termHere_118 : Wp mX12_termHere d 118 L (.int x :: S) M N P Q = (if x = 0 then Wp mX12_termHere d 121 L S M N P Q else Wp mX12_termHere d 126 L S M N P Q) := wp_if_ne rfl dX12_termHere_118 rfl
theorem sX12_termHere_121 : Wp mX12_termHere d 121 L S M N P Q = Wp mX12_termHere d 123 L (.int 6 :: S) M N P Q := wp_bipush rfl dX12_termHere_121 rfl
theorem sX12_termHere_123 : Wp mX12_termHere d 123 L S M N P Q = Wp mX12_termHere d 159 L S M N P Q := wp_goto rfl dX12_termHere_123 rfl
theorem sX12_termHere_126 : Wp mX12_termHere d 126 (.ref r :: L) S M N P Q = Wp mX12_termHere d 127 (.ref r :: L) (.ref r :: S) M N P Q := wp_aload_n rfl dX12_termHere_126 rfl
theorem sX12_termHere_127 (hs : shk r = (12, 0)) : Wp mX12_termHere d 127 L (.ref r :: S) M N P Q = Wp mX12_termHere d 130 L (.long (N r 31) :: S) M N P Q := wp_getfield rfl dX12_termHere_127 rfl rfl hs rfl
theorem sX12_termHere_130 : Wp mX12_termHere d 130 L S M N P Q = Wp mX12_termHere d 133 L (.long (465625834867) :: S) M N P Q := wp_ldc2_w rfl dX12_termHere_130 rfl rfl
theorem sX12_termHere_133 : Wp mX12_termHere d 133 L (.long lz :: .long lx :: S) M N P Q = Wp mX12_termHere d 134 L (.int (lg_cmp lx lz) :: S) M N P Q := wp_lcmp rfl dX12_termHere_133
theorem sX12_termHere_134 : Wp mX12_termHere d 134 L (.int x :: S) M N P Q = (if x = 0 then Wp mX12_termHere d 137 L S M N P Q else Wp mX12_termHere d 142 L S M N P Q) := wp_if_ne rfl dX12_termHere_134 rfl
theorem sX12_termHere_137 : Wp mX12_termHere d 137 L S M N P Q = Wp mX12_termHere d 139 L (.int 7 :: S) M N P Q := wp_bipush rfl dX12_termHere_137 rfl
theorem sX12_termHere_139 : Wp mX12_termHere d 139 L S M N P Q = Wp mX12_termHere d 159 L S M N P Q := wp_goto rfl dX12_termHere_139 rfl
theorem sX12_termHere_142 : Wp mX12_termHere d 142 (.ref r :: L) S M N P Q = Wp mX12_termHere d 143 (.ref r :: L) (.ref r :: S) M N P Q := wp_aload_n rfl dX12_termHere_142 rfl
theorem sX12_termHere_143 (hs : shk r = (12, 0)) : Wp mX12_termHere d 143 L (.ref r :: S) M N P Q = Wp mX12_termHere d 146 L (.long (N r 31) :: S) M N P Q := wp_getfield rfl dX12_termHere_143 rfl rfl hs rfl
theorem sX12_termHere_146 : Wp mX12_termHere d 146 L S M N P Q = Wp mX12_termHere d 149 L (.long (1684365668) :: S) M N P Q := wp_ldc2_w rfl dX12_termHere_146 rfl rfl
theorem sX12_termHere_149 : Wp mX12_termHere d 149 L (.long lz :: .long lx :: S) M N P Q = Wp mX12_termHere d 150 L (.int (lg_cmp lx lz) :: S) M N P Q := wp_lcmp rfl dX12_termHere_149
theorem sX12_termHere_150 : Wp mX12_termHere d 150 L (.int x :: S) M N P Q = (if x = 0 then Wp mX12_termHere d 153 L S M N P Q else Wp mX12_termHere d 158 L S M N P Q) := wp_if_ne rfl dX12_termHere_150 rfl
theorem sX12_termHere_153 : Wp mX12_termHere d 153 L S M N P Q = Wp mX12_termHere d 155 L (.int 8 :: S) M N P Q := wp_bipush rfl dX12_termHere_153 rfl
theorem sX12_termHere_155 : Wp mX12_termHere d 155 L S M N P Q = Wp mX12_termHere d 159 L S M N P Q := wp_goto rfl dX12_termHere_155 rfl
theorem sX12_termHere_158 : Wp mX12_termHere d 158 L S M N P Q = Wp mX12_termHere d 159 L (.int (-1) :: S) M N P Q := wp_iconst rfl dX12_termHere_158 rfl
theorem sX12_termHere_159 : Wp mX12_termHere d 159 L [.int x] M N P Q = Q (some (.int x)) M N P := wp_iret rfl dX12_termHere_159 rfl rfl
theorem sX12_law_0 : Wp mX12_law d 0 (.ref r :: L) S M N P Q = Wp mX12_law d 1 (.ref r :: L) (.ref r :: S) M N P Q := wp_aload_n rfl dX12_law_0 rfl
theorem sX12_law_1 : Wp mX12_law d 1 L S M N P Q = Wp mX12_law d 2 L (.int 0 :: S) M N P Q := wp_iconst rfl dX12_law_1 rfl
theorem sX12_law_2 (hs : shk r = (12, 0)) : Wp mX12_law d 2 L (.int x :: .ref r :: S) M N P Q = Wp mX12_law d 5 L S (up2 M r 25 x) N P Q := wp_putI rfl dX12_law_2 rfl rfl hs rfl ⟨_, _, _, _, rfl, by decide, rfl, tyX12_ok 25 (by decide), rfl, rfl⟩
theorem sX12_law_5 : Wp mX12_law d 5 (.ref r :: L) S M N P Q = Wp mX12_law d 6 (.ref r :: L) (.ref r :: S) M N P Q := wp_aload_n rfl dX12_law_5 rfl
theorem sX12_law_6 : Wp mX12_law d 6 L S M N P Q = Wp mX12_law d 7 L (.int (-1) :: S) M N P Q := wp_iconst rfl dX12_law_6 rfl
theorem sX12_law_7 (hs : shk r = (12, 0)) : Wp mX12_law d 7 L (.int x :: .ref r :: S) M N P Q = Wp mX12_law d 10 L S (up2 M r 26 x) N P Q := wp_putI rfl dX12_law_7 rfl rfl hs rfl ⟨_, _, _, _, rfl, by decide, rfl, tyX12_ok 26 (by decide), rfl, rfl⟩
theorem sX12_law_10 : Wp mX12_law d 10 (.ref r :: L) S M N P Q = Wp mX12_law d 11 (.ref r :: L) (.ref r :: S) M N P Q := wp_aload_n rfl dX12_law_10 rfl
theorem sX12_law_11 : Wp mX12_law d 11 (.ref r :: L) S M N P Q = Wp mX12_law d 12 (.ref r :: L) (.ref r :: S) M N P Q := wp_aload_n rfl dX12_law_11 rfl
theorem sX12_law_12 (hs : shk r = (12, 0)) : Wp mX12_law d 12 L (.ref r :: S) M N P Q = Wp mX12_law d 15 L (.int (M r 23) :: S) M N P Q := wp_getfield rfl dX12_law_12 rfl rfl hs rfl
theorem sX12_law_15 (hs : shk r = (12, 0)) : Wp mX12_law d 15 L (.int x :: .ref r :: S) M N P Q = Wp mX12_law d 18 L S (up2 M r 24 x) N P Q := wp_putI rfl dX12_law_15 rfl rfl hs rfl ⟨_, _, _, _, rfl, by decide, rfl, tyX12_ok 24 (by decide), rfl, rfl⟩
theorem sX12_law_18 : Wp mX12_law d 18 L S M N P Q = Wp mX12_law d 19 L (.int 0 :: S) M N P Q := wp_iconst rfl dX12_law_18 rfl
theorem sX12_law_19 (hn : nl a0 = true) : Wp mX12_law d 19 (a0 :: a1 :: L) (.int x :: S) M N P Q = Wp mX12_law d 20 (a0 :: .int x :: L) S M N P Q := wp_istore_n rfl dX12_law_19 (lenGt1 ..) (okst1 hn) rfl
theorem sX12_law_20 : Wp mX12_law d 20 (a0 :: .int x :: L) S M N P Q = Wp mX12_law d 21 (a0 :: .int x :: L) (.int x :: S) M N P Q := wp_iload_n rfl dX12_law_20 rfl
theorem sX12_law_21 : Wp mX12_law d 21 (.ref r :: L) S M N P Q = Wp mX12_law d 22 (.ref r :: L) (.ref r :: S) M N P Q := wp_aload_n rfl dX12_law_21 rfl
theorem sX12_law_22 (hs : shk r = (12, 0)) : Wp mX12_law d 22 L (.ref r :: S) M N P Q = Wp mX12_law d 25 L (.int (M r 24) :: S) M N P Q := wp_getfield rfl dX12_law_22 rfl rfl hs rfl
theorem sX12_law_25 : Wp mX12_law d 25 L (.int z :: .int x :: S) M N P Q = (if z ≤ x then Wp mX12_law d 46 L S M N P Q else Wp mX12_law d 28 L S M N P Q) := wp_icmp_ge rfl dX12_law_25 rfl
theorem sX12_law_28 : Wp mX12_law d 28 (.ref r :: L) S M N P Q = Wp mX12_law d 29 (.ref r :: L) (.ref r :: S) M N P Q := wp_aload_n rfl dX12_law_28 rfl
theorem sX12_law_29 (hs : shk r = (12, 0)) : Wp mX12_law d 29 L (.ref r :: S) M N P Q = Wp mX12_law d 32 L (.ref (P r 22) :: S) M N P Q := wp_getfield rfl dX12_law_29 rfl rfl hs rfl
theorem sX12_law_32 : Wp mX12_law d 32 (a0 :: .int x :: L) S M N P Q = Wp mX12_law d 33 (a0 :: .int x :: L) (.int x :: S) M N P Q := wp_iload_n rfl dX12_law_32 rfl
theorem sX12_law_33 : Wp mX12_law d 33 (.ref r :: L) S M N P Q = Wp mX12_law d 34 (.ref r :: L) (.ref r :: S) M N P Q := wp_aload_n rfl dX12_law_33 rfl
theorem sX12_law_34 (hs : shk r = (12, 0)) : Wp mX12_law d 34 L (.ref r :: S) M N P Q = Wp mX12_law d 37 L (.ref (P r 21) :: S) M N P Q := wp_getfield rfl dX12_law_34 rfl rfl hs rfl
theorem sX12_law_37 : Wp mX12_law d 37 (a0 :: .int x :: L) S M N P Q = Wp mX12_law d 38 (a0 :: .int x :: L) (.int x :: S) M N P Q := wp_iload_n rfl dX12_law_37 rfl
theorem sX12_law_38 (hc : isB (shk r).1 = true) : Wp mX12_law d 38 L (.int j :: .ref r :: S) M N P Q = (vp_in j (shk r).2 ∧ Wp mX12_law d 39 L (.int (M r j.toNatClampNeg) :: S) M N P Q) := wp_baload rfl dX12_law_38 (isB_or hc) (kd rfl)
theorem sX12_law_39 (hs : (shk r).1 = 101) : Wp mX12_law d 39 L (.int x :: .int j :: .ref r :: S) M N P Q = (vp_in j (shk r).2 ∧ Wp mX12_law d 40 L S (up2 M r j.toNatClampNeg x.toInt8.toInt32) N P Q) := wp_bastoreB rfl dX12_law_39 (kd hs)
theorem sX12_law_40 (hn : nl a0 = true) : Wp mX12_law d 40 (a0 :: .int x :: L) S M N P Q = Wp mX12_law d 43 (a0 :: .int (x + 1) :: L) S M N P Q := wp_iinc rfl dX12_law_40 rfl rfl (okst1 hn) rfl
theorem sX12_law_43 : Wp mX12_law d 43 L S M N P Q = Wp mX12_law d 20 L S M N P Q := wp_goto rfl dX12_law_43 rfl
theorem sX12_law_46 : Wp mX12_law d 46 (.ref r :: L) S M N P Q = Wp mX12_law d 47 (.ref r :: L) (.ref r :: S) M N P Q := wp_aload_n rfl dX12_law_46 rfl
theorem sX12_law_47 : Wp mX12_law d 47 L S M N P Q = Wp mX12_law d 48 L (.int 0 :: S) M N P Q := wp_iconst rfl dX12_law_47 rfl
theorem sX12_law_48 (hs : shk r = (12, 0)) : Wp mX12_law d 48 L (.int x :: .ref r :: S) M N P Q = Wp mX12_law d 51 L S (up2 M r 23 x) N P Q := wp_putI rfl dX12_law_48 rfl rfl hs rfl ⟨_, _, _, _, rfl, by decide, rfl, tyX12_ok 23 (by decide), rfl, rfl⟩
theorem sX12_law_51 : Wp mX12_law d 51 (.ref r :: L) S M N P Q = Wp mX12_law d 52 (.ref r :: L) (.ref r :: S) M N P Q := wp_aload_n rfl dX12_law_51 rfl
theorem sX12_law_52 : Wp mX12_law d 52 L S M N P Q = Wp mX12_law d 53 L (.int 0 :: S) M N P Q := wp_iconst rfl dX12_law_52 rfl
theorem sX12_law_53 (hs : shk r = (12, 0)) : Wp mX12_law d 53 L (.int x :: .ref r :: S) M N P Q = Wp mX12_law d 56 L S (up2 M r 28 x) N P Q := wp_putI rfl dX12_law_53 rfl rfl hs rfl ⟨_, _, _, _, rfl, by decide, rfl, tyX12_ok 28 (by decide), rfl, rfl⟩
theorem sX12_law_56 : Wp mX12_law d 56 (.ref r :: L) S M N P Q = Wp mX12_law d 57 (.ref r :: L) (.ref r :: S) M N P Q := wp_aload_n rfl dX12_law_56 rfl
theorem sX12_law_57 : Wp mX12_law d 57 L S M N P Q = Wp mX12_law d 58 L (.int 1 :: S) M N P Q := wp_iconst rfl dX12_law_57 rfl
theorem sX12_law_58 : Wp mX12_law d 58 (.ref r :: L) S M N P Q = Wp mX12_law d 59 (.ref r :: L) (.ref r :: S) M N P Q := wp_aload_n rfl dX12_law_58 rfl
theorem sX12_law_59 (hs : shk r = (12, 0)) : Wp mX12_law d 59 L (.ref r :: S) M N P Q = Wp mX12_law d 62 L (.int (M r 39) :: S) M N P Q := wp_getfield rfl dX12_law_59 rfl rfl hs rfl
theorem sX12_law_62 : Wp mX12_law d 62 L (.int z :: .int x :: S) M N P Q = Wp mX12_law d 63 L (.int (x - z) :: S) M N P Q := wp_isub rfl dX12_law_62
theorem sX12_law_63 (hs : shk r = (12, 0)) : Wp mX12_law d 63 L (.int x :: .ref r :: S) M N P Q = Wp mX12_law d 66 L S (up2 M r 40 x) N P Q := wp_putI rfl dX12_law_63 rfl rfl hs rfl ⟨_, _, _, _, rfl, by decide, rfl, tyX12_ok 40 (by decide), rfl, rfl⟩
theorem sX12_law_66 : Wp mX12_law d 66 (.ref r :: L) S M N P Q = Wp mX12_law d 67 (.ref r :: L) (.ref r :: S) M N P Q := wp_aload_n rfl dX12_law_66 rfl
theorem sX12_law_67 (hs : shk r = (12, 0)) : Wp mX12_law d 67 L (.ref r :: S) M N P Q = Wp mX12_law d 70 L (.ref (P r 32) :: S) M N P Q := wp_getfield rfl dX12_law_67 rfl rfl hs rfl
theorem sX12_law_70 : Wp mX12_law d 70 (.ref r :: L) S M N P Q = Wp mX12_law d 71 (.ref r :: L) (.ref r :: S) M N P Q := wp_aload_n rfl dX12_law_70 rfl
theorem sX12_law_71 (hs : shk r = (12, 0)) : Wp mX12_law d 71 L (.ref r :: S) M N P Q = Wp mX12_law d 74 L (.int (M r 40) :: S) M N P Q := wp_getfield rfl dX12_law_71 rfl rfl hs rfl
theorem sX12_law_74 : Wp mX12_law d 74 L S M N P Q = Wp mX12_law d 75 L (.int 0 :: S) M N P Q := wp_iconst rfl dX12_law_74 rfl
theorem sX12_law_75 (hs : (shk r).1 = 100) : Wp mX12_law d 75 L (.int x :: .int j :: .ref r :: S) M N P Q = (vp_in j (shk r).2 ∧ Wp mX12_law d 76 L S (up2 M r j.toNatClampNeg x) N P Q) := wp_iastore rfl dX12_law_75 (kd hs)
theorem sX12_law_76 : Wp mX12_law d 76 (.ref r :: L) S M N P Q = Wp mX12_law d 77 (.ref r :: L) (.ref r :: S) M N P Q := wp_aload_n rfl dX12_law_76 rfl
theorem sX12_law_77 : Wp mX12_law d 77 L S M N P Q = Wp mX12_law d 78 L (.int 0 :: S) M N P Q := wp_iconst rfl dX12_law_77 rfl
theorem sX12_law_78 (hs : shk r = (12, 0)) : Wp mX12_law d 78 L (.int x :: .ref r :: S) M N P Q = Wp mX12_law d 81 L S (up2 M r 41 x) N P Q := wp_putI rfl dX12_law_78 rfl rfl hs rfl ⟨_, _, _, _, rfl, by decide, rfl, tyX12_ok 41 (by decide), rfl, rfl⟩
theorem sX12_law_81 : Wp mX12_law d 81 (.ref r :: L) S M N P Q = Wp mX12_law d 82 (.ref r :: L) (.ref r :: S) M N P Q := wp_aload_n rfl dX12_law_81 rfl
theorem sX12_law_82 : Wp mX12_law d 82 L S M N P Q = Wp mX12_law d 83 L (.int 0 :: S) M N P Q := wp_iconst rfl dX12_law_82 rfl
theorem sX12_law_83 (hs : shk r = (12, 0)) : Wp mX12_law d 83 L (.int x :: .ref r :: S) M N P Q = Wp mX12_law d 86 L S (up2 M r 42 x) N P Q := wp_putI rfl dX12_law_83 rfl rfl hs rfl ⟨_, _, _, _, rfl, by decide, rfl, tyX12_ok 42 (by decide), rfl, rfl⟩
theorem sX12_law_86 : Wp mX12_law d 86 (.ref r :: L) S M N P Q = Wp mX12_law d 87 (.ref r :: L) (.ref r :: S) M N P Q := wp_aload_n rfl dX12_law_86 rfl
theorem sX12_law_87 (hs : shk r = (12, 0)) (hS : stk S ≤ 8) : Wp mX12_law (d + 1) 87 L (.ref r :: S) M N P Q = Wp mX12_next d 0 [.ref r, .float 0, .float 0] [] M N P (fun v M' N' P' => Wp mX12_law (d + 1) 90 L (v.toList ++ S) M' N' P' Q) := wp_callV (As := []) rfl dX12_law_87 rfl rfl (Or.inl ⟨_, _, _, hs, rfl⟩) rfl ⟨rfl, Nat.le_of_ble_eq_true rfl, Nat.le_of_ble_eq_true rfl⟩ rfl hS
theorem sX12_law_90 : Wp mX12_law d 90 (.ref r :: L) S M N P Q = Wp mX12_law d 91 (.ref r :: L) (.ref r :: S) M N P Q := wp_aload_n rfl dX12_law_90 rfl
theorem sX12_law_91 (hs : shk r = (12, 0)) (hS : stk S ≤ 8) : Wp mX12_law (d + 1) 91 L (.ref r :: S) M N P Q = Wp mX12_isGood d 0 [.ref r] [] M N P (fun v M' N' P' => Wp mX12_law (d + 1) 94 L (v.toList ++ S) M' N' P' Q) := wp_callV (As := []) rfl dX12_law_91 rfl rfl (Or.inl ⟨_, _, _, hs, rfl⟩) rfl ⟨rfl, Nat.le_of_ble_eq_true rfl, Nat.le_of_ble_eq_true rfl⟩ rfl hS
theorem sX12_law_94 : Wp mX12_law d 94 L (.int x :: S) M N P Q = (if x = 0 then Wp mX12_law d 111 L S M N P Q else Wp mX12_law d 97 L S M N P Q) := wp_if_eq rfl dX12_law_94 rfl
theorem sX12_law_97 : Wp mX12_law d 97 (.ref r :: L) S M N P Q = Wp mX12_law d 98 (.ref r :: L) (.ref r :: S) M N P Q := wp_aload_n rfl dX12_law_97 rfl
theorem sX12_law_98 (hs : shk r = (12, 0)) : Wp mX12_law d 98 L (.ref r :: S) M N P Q = Wp mX12_law d 101 L (.int (M r 29) :: S) M N P Q := wp_getfield rfl dX12_law_98 rfl rfl hs rfl
theorem sX12_law_101 : Wp mX12_law d 101 L (.int x :: S) M N P Q = (if x = 0 then Wp mX12_law d 111 L S M N P Q else Wp mX12_law d 104 L S M N P Q) := wp_if_eq rfl dX12_law_101 rfl
theorem sX12_law_104 : Wp mX12_law d 104 (.ref r :: L) S M N P Q = Wp mX12_law d 105 (.ref r :: L) (.ref r :: S) M N P Q := wp_aload_n rfl dX12_law_104 rfl
theorem sX12_law_105 (hs : shk r = (12, 0)) (hS : stk S ≤ 8) : Wp mX12_law (d + 1) 105 L (.ref r :: S) M N P Q = Wp mX12_readLine d 0 [.ref r, .float 0] [] M N P (fun v M' N' P' => Wp mX12_law (d + 1) 108 L (v.toList ++ S) M' N' P' Q) := wp_callV (As := []) rfl dX12_law_105 rfl rfl (Or.inl ⟨_, _, _, hs, rfl⟩) rfl ⟨rfl, Nat.le_of_ble_eq_true rfl, Nat.le_of_ble_eq_true rfl⟩ rfl hS
theorem sX12_law_108 : Wp mX12_law d 108 L S M N P Q = Wp mX12_law d 90 L S M N P Q := wp_goto rfl dX12_law_108 rfl
theorem sX12_law_111 : Wp mX12_law d 111 (.ref r :: L) S M N P Q = Wp mX12_law d 112 (.ref r :: L) (.ref r :: S) M N P Q := wp_aload_n rfl dX12_law_111 rfl
theorem sX12_law_112 (hs : shk r = (12, 0)) (hS : stk S ≤ 8) : Wp mX12_law (d + 1) 112 L (.ref r :: S) M N P Q = Wp mX12_isGood d 0 [.ref r] [] M N P (fun v M' N' P' => Wp mX12_law (d + 1) 115 L (v.toList ++ S) M' N' P' Q) := wp_callV (As := []) rfl dX12_law_112 rfl rfl (Or.inl ⟨_, _, _, hs, rfl⟩) rfl ⟨rfl, Nat.le_of_ble_eq_true rfl, Nat.le_of_ble_eq_true rfl⟩ rfl hS
theorem sX12_law_115 : Wp mX12_law d 115 L (.int x :: S) M N P Q = (if x = 0 then Wp mX12_law d 118 L S M N P Q else Wp mX12_law d 120 L S M N P Q) := wp_if_ne rfl dX12_law_115 rfl
theorem sX12_law_118 : Wp mX12_law d 118 L S M N P Q = Wp mX12_law d 119 L (.int (-1) :: S) M N P Q := wp_iconst rfl dX12_law_118 rfl
theorem sX12_law_119 : Wp mX12_law d 119 L [.int x] M N P Q = Q (some (.int x)) M N P := wp_iret rfl dX12_law_119 rfl rfl
theorem sX12_law_120 : Wp mX12_law d 120 (.ref r :: L) S M N P Q = Wp mX12_law d 121 (.ref r :: L) (.ref r :: S) M N P Q := wp_aload_n rfl dX12_law_120 rfl
theorem sX12_law_121 : Wp mX12_law d 121 (.ref r :: L) S M N P Q = Wp mX12_law d 122 (.ref r :: L) (.ref r :: S) M N P Q := wp_aload_n rfl dX12_law_121 rfl
theorem sX12_law_122 (hs : shk r = (12, 0)) : Wp mX12_law d 122 L (.ref r :: S) M N P Q = Wp mX12_law d 125 L (.int (M r 40) :: S) M N P Q := wp_getfield rfl dX12_law_122 rfl rfl hs rfl
theorem sX12_law_125 (hs : shk r = (12, 0)) : Wp mX12_law d 125 L (.int x :: .ref r :: S) M N P Q = Wp mX12_law d 128 L S (up2 M r 39 x) N P Q := wp_putI rfl dX12_law_125 rfl rfl hs rfl ⟨_, _, _, _, rfl, by decide, rfl, tyX12_ok 39 (by decide), rfl, rfl⟩
theorem sX12_law_128 : Wp mX12_law d 128 (.ref r :: L) S M N P Q = Wp mX12_law d 129 (.ref r :: L) (.ref r :: S) M N P Q := wp_aload_n rfl dX12_law_128 rfl
theorem sX12_law_129 (hs : shk r = (12, 0)) : Wp mX12_law d 129 L (.ref r :: S) M N P Q = Wp mX12_law d 132 L (.ref (P r 32) :: S) M N P Q := wp_getfield rfl dX12_law_129 rfl rfl hs rfl
theorem sX12_law_132 : Wp mX12_law d 132 (.ref r :: L) S M N P Q = Wp mX12_law d 133 (.ref r :: L) (.ref r :: S) M N P Q := wp_aload_n rfl dX12_law_132 rfl
theorem sX12_law_133 (hs : shk r = (12, 0)) : Wp mX12_law d 133 L (.ref r :: S) M N P Q = Wp mX12_law d 136 L (.int (M r 39) :: S) M N P Q := wp_getfield rfl dX12_law_133 rfl rfl hs rfl
theorem sX12_law_136 (hs : (shk r).1 = 100) : Wp mX12_law d 136 L (.int j :: .ref r :: S) M N P Q = (vp_in j (shk r).2 ∧ Wp mX12_law d 137 L (.int (M r j.toNatClampNeg) :: S) M N P Q) := wp_iaload rfl dX12_law_136 (kd hs)
theorem sX12_law_137 : Wp mX12_law d 137 L [.int x] M N P Q = Q (some (.int x)) M N P := wp_iret rfl dX12_law_137 rfl rfl
theorem sX12_readLine_0 : Wp mX12_readLine d 0 (.ref r :: L) S M N P Q = Wp mX12_readLine d 1 (.ref r :: L) (.ref r :: S) M N P Q := wp_aload_n rfl dX12_readLine_0 rfl
theorem sX12_readLine_1 : Wp mX12_readLine d 1 L S M N P Q = Wp mX12_readLine d 4 L (.long (2003330414) :: S) M N P Q := wp_ldc2_w rfl dX12_readLine_1 rfl rfl
theorem sX12_readLine_4 {lx0 : Int64} (hs : shk r = (12, 0)) (hS : stk S ≤ 8) : Wp mX12_readLine (d + 1) 4 L (.long lx0 :: .ref r :: S) M N P Q = Wp mX12_isWord d 0 [.ref r, .long lx0, .float 0] [] M N P (fun v M' N' P' => Wp mX12_readLine (d + 1) 7 L (v.toList ++ S) M' N' P' Q) := wp_callV (As := [.long lx0]) rfl dX12_readLine_4 rfl rfl (Or.inl ⟨_, _, _, hs, rfl⟩) rfl ⟨rfl, Nat.le_of_ble_eq_true rfl, Nat.le_of_ble_eq_true rfl⟩ rfl hS
theorem sX12_readLine_7 : Wp mX12_readLine d 7 L (.int x :: S) M N P Q = (if x = 0 then Wp mX12_readLine d 24 L S M N P Q else Wp mX12_readLine d 10 L S M N P Q) := wp_if_eq rfl dX12_readLine_7 rfl
theorem sX12_readLine_10 : Wp mX12_readLine d 10 (.ref r :: L) S M N P Q = Wp mX12_readLine d 11 (.ref r :: L) (.ref r :: S) M N P Q := wp_aload_n rfl dX12_readLine_10 rfl
theorem sX12_readLine_11 (hs : shk r = (12, 0)) : Wp mX12_readLine d 11 L (.ref r :: S) M N P Q = Wp mX12_readLine d 14 L (.ref (P r 32) :: S) M N P Q := wp_getfield rfl dX12_readLine_11 rfl rfl hs rfl
theorem sX12_readLine_14 : Wp mX12_readLine d 14 (.ref r :: L) S M N P Q = Wp mX12_readLine d 15 (.ref r :: L) (.ref r :: S) M N P Q := wp_aload_n rfl dX12_readLine_14 rfl
theorem sX12_readLine_15 (hs : shk r = (12, 0)) : Wp mX12_readLine d 15 L (.ref r :: S) M N P Q = Wp mX12_readLine d 18 L (.int (M r 40) :: S) M N P Q := wp_getfield rfl dX12_readLine_15 rfl rfl hs rfl
theorem sX12_readLine_18 (hs : (shk r).1 = 100) : Wp mX12_readLine d 18 L (.int j :: .ref r :: S) M N P Q = (vp_in j (shk r).2 ∧ Wp mX12_readLine d 19 L (.int (M r j.toNatClampNeg) :: S) M N P Q) := wp_iaload rfl dX12_readLine_18 (kd hs)
theorem sX12_readLine_19 : Wp mX12_readLine d 19 L S M N P Q = Wp mX12_readLine d 21 L (.int 16 :: S) M N P Q := wp_bipush rfl dX12_readLine_19 rfl
theorem sX12_readLine_21 : Wp mX12_readLine d 21 L (.int z :: .int x :: S) M N P Q = (if x = z then Wp mX12_readLine d 24 L S M N P Q else Wp mX12_readLine d 28 L S M N P Q) := wp_icmp_ne rfl dX12_readLine_21 rfl
theorem sX12_readLine_24 : Wp mX12_readLine d 24 (.ref r :: L) S M N P Q = Wp mX12_readLine d 25 (.ref r :: L) (.ref r :: S) M N P Q := wp_aload_n rfl dX12_readLine_24 rfl
theorem sX12_readLine_25 (hs : shk r = (12, 0)) (hS : stk S ≤ 8) : Wp mX12_readLine (d + 1) 25 L (.ref r :: S) M N P Q = Wp mX12_wrong d 0 [.ref r] [] M N P (fun v M' N' P' => Wp mX12_readLine (d + 1) 28 L (v.toList ++ S) M' N' P' Q) := wp_callV (As := []) rfl dX12_readLine_25 rfl rfl (Or.inl ⟨_, _, _, hs, rfl⟩) rfl ⟨rfl, Nat.le_of_ble_eq_true rfl, Nat.le_of_ble_eq_true rfl⟩ rfl hS
theorem sX12_readLine_28 : Wp mX12_readLine d 28 (.ref r :: L) S M N P Q = Wp mX12_readLine d 29 (.ref r :: L) (.ref r :: S) M N P Q := wp_aload_n rfl dX12_readLine_28 rfl
theorem sX12_readLine_29 (hs : shk r = (12, 0)) (hS : stk S ≤ 8) : Wp mX12_readLine (d + 1) 29 L (.ref r :: S) M N P Q = Wp mX12_isGood d 0 [.ref r] [] M N P (fun v M' N' P' => Wp mX12_readLine (d + 1) 32 L (v.toList ++ S) M' N' P' Q) := wp_callV (As := []) rfl dX12_readLine_29 rfl rfl (Or.inl ⟨_, _, _, hs, rfl⟩) rfl ⟨rfl, Nat.le_of_ble_eq_true rfl, Nat.le_of_ble_eq_true rfl⟩ rfl hS
theorem sX12_readLine_32 : Wp mX12_readLine d 32 L (.int x :: S) M N P Q = (if x = 0 then Wp mX12_readLine d 35 L S M N P Q else Wp mX12_readLine d 36 L S M N P Q) := wp_if_ne rfl dX12_readLine_32 rfl
theorem sX12_readLine_35 : Wp mX12_readLine d 35 L [] M N P Q = Q none M N P := wp_vret rfl dX12_readLine_35 rfl
theorem sX12_readLine_36 : Wp mX12_readLine d 36 L S M N P Q = Wp mX12_readLine d 38 L (.int 16 :: S) M N P Q := wp_bipush rfl dX12_readLine_36 rfl
theorem sX12_readLine_38 : Wp mX12_readLine d 38 (.ref r :: L) S M N P Q = Wp mX12_readLine d 39 (.ref r :: L) (.ref r :: S) M N P Q := wp_aload_n rfl dX12_readLine_38 rfl
theorem sX12_readLine_39 (hs : shk r = (12, 0)) : Wp mX12_readLine d 39 L (.ref r :: S) M N P Q = Wp mX12_readLine d 42 L (.int (M r 40) :: S) M N P Q := wp_getfield rfl dX12_readLine_39 rfl rfl hs rfl
theorem sX12_readLine_42 : Wp mX12_readLine d 42 L (.int z :: .int x :: S) M N P Q = Wp mX12_readLine d 43 L (.int (x * z) :: S) M N P Q := wp_imul rfl dX12_readLine_42
theorem sX12_readLine_43 : Wp mX12_readLine d 43 (.ref r :: L) S M N P Q = Wp mX12_readLine d 44 (.ref r :: L) (.ref r :: S) M N P Q := wp_aload_n rfl dX12_readLine_43 rfl
theorem sX12_readLine_44 (hs : shk r = (12, 0)) : Wp mX12_readLine d 44 L (.ref r :: S) M N P Q = Wp mX12_readLine d 47 L (.ref (P r 32) :: S) M N P Q := wp_getfield rfl dX12_readLine_44 rfl rfl hs rfl
theorem sX12_readLine_47 : Wp mX12_readLine d 47 (.ref r :: L) S M N P Q = Wp mX12_readLine d 48 (.ref r :: L) (.ref r :: S) M N P Q := wp_aload_n rfl dX12_readLine_47 rfl
theorem sX12_readLine_48 (hs : shk r = (12, 0)) : Wp mX12_readLine d 48 L (.ref r :: S) M N P Q = Wp mX12_readLine d 51 L (.int (M r 40) :: S) M N P Q := wp_getfield rfl dX12_readLine_48 rfl rfl hs rfl
theorem sX12_readLine_51 (hs : (shk r).1 = 100) : Wp mX12_readLine d 51 L (.int j :: .ref r :: S) M N P Q = (vp_in j (shk r).2 ∧ Wp mX12_readLine d 52 L (.int (M r j.toNatClampNeg) :: S) M N P Q) := wp_iaload rfl dX12_readLine_51 (kd hs)
theorem sX12_readLine_52 : Wp mX12_readLine d 52 L (.int z :: .int x :: S) M N P Q = Wp mX12_readLine d 53 L (.int (x + z) :: S) M N P Q := wp_iadd rfl dX12_readLine_52
theorem sX12_readLine_53 (hn : nl a0 = true) : Wp mX12_readLine d 53 (a0 :: a1 :: L) (.int x :: S) M N P Q = Wp mX12_readLine d 54 (a0 :: .int x :: L) S M N P Q := wp_istore_n rfl dX12_readLine_53 (lenGt1 ..) (okst1 hn) rfl
theorem sX12_readLine_54 : Wp mX12_readLine d 54 (.ref r :: L) S M N P Q = Wp mX12_readLine d 55 (.ref r :: L) (.ref r :: S) M N P Q := wp_aload_n rfl dX12_readLine_54 rfl
theorem sX12_readLine_55 (hs : shk r = (12, 0)) (hS : stk S ≤ 8) : Wp mX12_readLine (d + 1) 55 L (.ref r :: S) M N P Q = Wp mX12_next d 0 [.ref r, .float 0, .float 0] [] M N P (fun v M' N' P' => Wp mX12_readLine (d + 1) 58 L (v.toList ++ S) M' N' P' Q) := wp_callV (As := []) rfl dX12_readLine_55 rfl rfl (Or.inl ⟨_, _, _, hs, rfl⟩) rfl ⟨rfl, Nat.le_of_ble_eq_true rfl, Nat.le_of_ble_eq_true rfl⟩ rfl hS
theorem sX12_readLine_58 : Wp mX12_readLine d 58 (.ref r :: L) S M N P Q = Wp mX12_readLine d 59 (.ref r :: L) (.ref r :: S) M N P Q := wp_aload_n rfl dX12_readLine_58 rfl
theorem sX12_readLine_59 (hs : shk r = (12, 0)) : Wp mX12_readLine d 59 L (.ref r :: S) M N P Q = Wp mX12_readLine d 62 L (.ref (P r 35) :: S) M N P Q := wp_getfield rfl dX12_readLine_59 rfl rfl hs rfl
theorem sX12_readLine_62 : Wp mX12_readLine d 62 (a0 :: .int x :: L) S M N P Q = Wp mX12_readLine d 63 (a0 :: .int x :: L) (.int x :: S) M N P Q := wp_iload_n rfl dX12_readLine_62 rfl
theorem sX12_readLine_63 : Wp mX12_readLine d 63 (.ref r :: L) S M N P Q = Wp mX12_readLine d 64 (.ref r :: L) (.ref r :: S) M N P Q := wp_aload_n rfl dX12_readLine_63 rfl
theorem sX12_readLine_64 (hs : shk r = (12, 0)) : Wp mX12_readLine d 64 L (.ref r :: S) M N P Q = Wp mX12_readLine d 67 L (.int (M r 41) :: S) M N P Q := wp_getfield rfl dX12_readLine_64 rfl rfl hs rfl
theorem sX12_readLine_67 (hs : (shk r).1 = 100) : Wp mX12_readLine d 67 L (.int x :: .int j :: .ref r :: S) M N P Q = (vp_in j (shk r).2 ∧ Wp mX12_readLine d 68 L S (up2 M r j.toNatClampNeg x) N P Q) := wp_iastore rfl dX12_readLine_67 (kd hs)
theorem sX12_readLine_68 : Wp mX12_readLine d 68 (.ref r :: L) S M N P Q = Wp mX12_readLine d 69 (.ref r :: L) (.ref r :: S) M N P Q := wp_aload_n rfl dX12_readLine_68 rfl
theorem sX12_readLine_69 (hs : shk r = (12, 0)) (hS : stk S ≤ 8) : Wp mX12_readLine (d + 1) 69 L (.ref r :: S) M N P Q = Wp mX12_e d 0 [.ref r, .float 0] [] M N P (fun v M' N' P' => Wp mX12_readLine (d + 1) 72 L (v.toList ++ S) M' N' P' Q) := wp_callV (As := []) rfl dX12_readLine_69 rfl rfl (Or.inl ⟨_, _, _, hs, rfl⟩) rfl ⟨rfl, Nat.le_of_ble_eq_true rfl, Nat.le_of_ble_eq_true rfl⟩ rfl hS
theorem sX12_readLine_72 : Wp mX12_readLine d 72 (.ref r :: L) S M N P Q = Wp mX12_readLine d 73 (.ref r :: L) (.ref r :: S) M N P Q := wp_aload_n rfl dX12_readLine_72 rfl
theorem sX12_readLine_73 (hs : shk r = (12, 0)) : Wp mX12_readLine d 73 L (.ref r :: S) M N P Q = Wp mX12_readLine d 76 L (.ref (P r 36) :: S) M N P Q := wp_getfield rfl dX12_readLine_73 rfl rfl hs rfl
theorem sX12_readLine_76 : Wp mX12_readLine d 76 (a0 :: .int x :: L) S M N P Q = Wp mX12_readLine d 77 (a0 :: .int x :: L) (.int x :: S) M N P Q := wp_iload_n rfl dX12_readLine_76 rfl
theorem sX12_readLine_77 : Wp mX12_readLine d 77 (.ref r :: L) S M N P Q = Wp mX12_readLine d 78 (.ref r :: L) (.ref r :: S) M N P Q := wp_aload_n rfl dX12_readLine_77 rfl
theorem sX12_readLine_78 (hs : shk r = (12, 0)) : Wp mX12_readLine d 78 L (.ref r :: S) M N P Q = Wp mX12_readLine d 81 L (.int (M r 41) :: S) M N P Q := wp_getfield rfl dX12_readLine_78 rfl rfl hs rfl
theorem sX12_readLine_81 (hs : (shk r).1 = 100) : Wp mX12_readLine d 81 L (.int x :: .int j :: .ref r :: S) M N P Q = (vp_in j (shk r).2 ∧ Wp mX12_readLine d 82 L S (up2 M r j.toNatClampNeg x) N P Q) := wp_iastore rfl dX12_readLine_81 (kd hs)
theorem sX12_readLine_82 : Wp mX12_readLine d 82 (.ref r :: L) S M N P Q = Wp mX12_readLine d 83 (.ref r :: L) (.ref r :: S) M N P Q := wp_aload_n rfl dX12_readLine_82 rfl
theorem sX12_readLine_83 : Wp mX12_readLine d 83 (.ref r :: L) S M N P Q = Wp mX12_readLine d 84 (.ref r :: L) (.ref r :: S) M N P Q := wp_aload_n rfl dX12_readLine_83 rfl
theorem sX12_readLine_84 : Wp mX12_readLine d 84 L S M N P Q = Wp mX12_readLine d 87 L (.long (25711) :: S) M N P Q := wp_ldc2_w rfl dX12_readLine_84 rfl rfl
theorem sX12_readLine_87 {lx0 : Int64} (hs : shk r = (12, 0)) (hS : stk S ≤ 8) : Wp mX12_readLine (d + 1) 87 L (.long lx0 :: .ref r :: S) M N P Q = Wp mX12_isWord d 0 [.ref r, .long lx0, .float 0] [] M N P (fun v M' N' P' => Wp mX12_readLine (d + 1) 90 L (v.toList ++ S) M' N' P' Q) := wp_callV (As := [.long lx0]) rfl dX12_readLine_87 rfl rfl (Or.inl ⟨_, _, _, hs, rfl⟩) rfl ⟨rfl, Nat.le_of_ble_eq_true rfl, Nat.le_of_ble_eq_true rfl⟩ rfl hS
theorem sX12_readLine_90 {x0 : Int32} (hs : shk r = (12, 0)) (hS : stk S ≤ 8) : Wp mX12_readLine (d + 1) 90 L (.int x0 :: .ref r :: S) M N P Q = Wp mX12_must d 0 [.ref r, .int x0] [] M N P (fun v M' N' P' => Wp mX12_readLine (d + 1) 93 L (v.toList ++ S) M' N' P' Q) := wp_callV (As := [.int x0]) rfl dX12_readLine_90 rfl rfl (Or.inl ⟨_, _, _, hs, rfl⟩) rfl ⟨rfl, Nat.le_of_ble_eq_true rfl, Nat.le_of_ble_eq_true rfl⟩ rfl hS
theorem sX12_readLine_93 : Wp mX12_readLine d 93 (.ref r :: L) S M N P Q = Wp mX12_readLine d 94 (.ref r :: L) (.ref r :: S) M N P Q := wp_aload_n rfl dX12_readLine_93 rfl
theorem sX12_readLine_94 (hs : shk r = (12, 0)) (hS : stk S ≤ 8) : Wp mX12_readLine (d + 1) 94 L (.ref r :: S) M N P Q = Wp mX12_isGood d 0 [.ref r] [] M N P (fun v M' N' P' => Wp mX12_readLine (d + 1) 97 L (v.toList ++ S) M' N' P' Q) := wp_callV (As := []) rfl dX12_readLine_94 rfl rfl (Or.inl ⟨_, _, _, hs, rfl⟩) rfl ⟨rfl, Nat.le_of_ble_eq_true rfl, Nat.le_of_ble_eq_true rfl⟩ rfl hS
theorem sX12_readLine_97 : Wp mX12_readLine d 97 L (.int x :: S) M N P Q = (if x = 0 then Wp mX12_readLine d 100 L S M N P Q else Wp mX12_readLine d 101 L S M N P Q) := wp_if_ne rfl dX12_readLine_97 rfl
theorem sX12_readLine_100 : Wp mX12_readLine d 100 L [] M N P Q = Q none M N P := wp_vret rfl dX12_readLine_100 rfl
theorem sX12_readLine_101 : Wp mX12_readLine d 101 (.ref r :: L) S M N P Q = Wp mX12_readLine d 102 (.ref r :: L) (.ref r :: S) M N P Q := wp_aload_n rfl dX12_readLine_101 rfl
theorem sX12_readLine_102 (hs : shk r = (12, 0)) : Wp mX12_readLine d 102 L (.ref r :: S) M N P Q = Wp mX12_readLine d 105 L (.ref (P r 33) :: S) M N P Q := wp_getfield rfl dX12_readLine_102 rfl rfl hs rfl
theorem sX12_readLine_105 : Wp mX12_readLine d 105 (a0 :: .int x :: L) S M N P Q = Wp mX12_readLine d 106 (a0 :: .int x :: L) (.int x :: S) M N P Q := wp_iload_n rfl dX12_readLine_105 rfl
theorem sX12_readLine_106 : Wp mX12_readLine d 106 (.ref r :: L) S M N P Q = Wp mX12_readLine d 107 (.ref r :: L) (.ref r :: S) M N P Q := wp_aload_n rfl dX12_readLine_106 rfl
theorem sX12_readLine_107 : Wp mX12_readLine d 107 L S M N P Q = Wp mX12_readLine d 110 L (.long (1650549611) :: S) M N P Q := wp_ldc2_w rfl dX12_readLine_107 rfl rfl
theorem sX12_readLine_110 {lx0 : Int64} (hs : shk r = (12, 0)) (hS : stk S ≤ 8) : Wp mX12_readLine (d + 1) 110 L (.long lx0 :: .ref r :: S) M N P Q = Wp mX12_isWord d 0 [.ref r, .long lx0, .float 0] [] M N P (fun v M' N' P' => Wp mX12_readLine (d + 1) 113 L (v.toList ++ S) M' N' P' Q) := wp_callV (As := [.long lx0]) rfl dX12_readLine_110 rfl rfl (Or.inl ⟨_, _, _, hs, rfl⟩) rfl ⟨rfl, Nat.le_of_ble_eq_true rfl, Nat.le_of_ble_eq_true rfl⟩ rfl hS
theorem sX12_readLine_113 : Wp mX12_readLine d 113 L (.int x :: S) M N P Q = (if x = 0 then Wp mX12_readLine d 120 L S M N P Q else Wp mX12_readLine d 116 L S M N P Q) := wp_if_eq rfl dX12_readLine_113 rfl
theorem sX12_readLine_116 : Wp mX12_readLine d 116 L S M N P Q = Wp mX12_readLine d 117 L (.int 1 :: S) M N P Q := wp_iconst rfl dX12_readLine_116 rfl
theorem sX12_readLine_117 : Wp mX12_readLine d 117 L S M N P Q = Wp mX12_readLine d 163 L S M N P Q := wp_goto rfl dX12_readLine_117 rfl
theorem sX12_readLine_120 : Wp mX12_readLine d 120 (.ref r :: L) S M N P Q = Wp mX12_readLine d 121 (.ref r :: L) (.ref r :: S) M N P Q := wp_aload_n rfl dX12_readLine_120 rfl
theorem sX12_readLine_121 : Wp mX12_readLine d 121 L S M N P Q = Wp mX12_readLine d 124 L (.long (478694368626) :: S) M N P Q := wp_ldc2_w rfl dX12_readLine_121 rfl rfl
theorem sX12_readLine_124 {lx0 : Int64} (hs : shk r = (12, 0)) (hS : stk S ≤ 8) : Wp mX12_readLine (d + 1) 124 L (.long lx0 :: .ref r :: S) M N P Q = Wp mX12_isWord d 0 [.ref r, .long lx0, .float 0] [] M N P (fun v M' N' P' => Wp mX12_readLine (d + 1) 127 L (v.toList ++ S) M' N' P' Q) := wp_callV (As := [.long lx0]) rfl dX12_readLine_124 rfl rfl (Or.inl ⟨_, _, _, hs, rfl⟩) rfl ⟨rfl, Nat.le_of_ble_eq_true rfl, Nat.le_of_ble_eq_true rfl⟩ rfl hS
theorem sX12_readLine_127 : Wp mX12_readLine d 127 L (.int x :: S) M N P Q = (if x = 0 then Wp mX12_readLine d 134 L S M N P Q else Wp mX12_readLine d 130 L S M N P Q) := wp_if_eq rfl dX12_readLine_127 rfl
theorem sX12_readLine_130 : Wp mX12_readLine d 130 L S M N P Q = Wp mX12_readLine d 131 L (.int 2 :: S) M N P Q := wp_iconst rfl dX12_readLine_130 rfl
theorem sX12_readLine_131 : Wp mX12_readLine d 131 L S M N P Q = Wp mX12_readLine d 163 L S M N P Q := wp_goto rfl dX12_readLine_131 rfl
theorem sX12_readLine_134 : Wp mX12_readLine d 134 (.ref r :: L) S M N P Q = Wp mX12_readLine d 135 (.ref r :: L) (.ref r :: S) M N P Q := wp_aload_n rfl dX12_readLine_134 rfl
theorem sX12_readLine_135 : Wp mX12_readLine d 135 L S M N P Q = Wp mX12_readLine d 138 L (.long (470020941177) :: S) M N P Q := wp_ldc2_w rfl dX12_readLine_135 rfl rfl
theorem sX12_readLine_138 {lx0 : Int64} (hs : shk r = (12, 0)) (hS : stk S ≤ 8) : Wp mX12_readLine (d + 1) 138 L (.long lx0 :: .ref r :: S) M N P Q = Wp mX12_isWord d 0 [.ref r, .long lx0, .float 0] [] M N P (fun v M' N' P' => Wp mX12_readLine (d + 1) 141 L (v.toList ++ S) M' N' P' Q) := wp_callV (As := [.long lx0]) rfl dX12_readLine_138 rfl rfl (Or.inl ⟨_, _, _, hs, rfl⟩) rfl ⟨rfl, Nat.le_of_ble_eq_true rfl, Nat.le_of_ble_eq_true rfl⟩ rfl hS
theorem sX12_readLine_141 : Wp mX12_readLine d 141 L (.int x :: S) M N P Q = (if x = 0 then Wp mX12_readLine d 148 L S M N P Q else Wp mX12_readLine d 144 L S M N P Q) := wp_if_eq rfl dX12_readLine_141 rfl
theorem sX12_readLine_144 : Wp mX12_readLine d 144 L S M N P Q = Wp mX12_readLine d 145 L (.int 3 :: S) M N P Q := wp_iconst rfl dX12_readLine_144 rfl
theorem sX12_readLine_145 : Wp mX12_readLine d 145 L S M N P Q = Wp mX12_readLine d 163 L S M N P Q := wp_goto rfl dX12_readLine_145 rfl
theorem sX12_readLine_148 : Wp mX12_readLine d 148 (.ref r :: L) S M N P Q = Wp mX12_readLine d 149 (.ref r :: L) (.ref r :: S) M N P Q := wp_aload_n rfl dX12_readLine_148 rfl
theorem sX12_readLine_149 : Wp mX12_readLine d 149 L S M N P Q = Wp mX12_readLine d 152 L (.long (1852796517) :: S) M N P Q := wp_ldc2_w rfl dX12_readLine_149 rfl rfl
theorem sX12_readLine_152 {lx0 : Int64} (hs : shk r = (12, 0)) (hS : stk S ≤ 8) : Wp mX12_readLine (d + 1) 152 L (.long lx0 :: .ref r :: S) M N P Q = Wp mX12_isWord d 0 [.ref r, .long lx0, .float 0] [] M N P (fun v M' N' P' => Wp mX12_readLine (d + 1) 155 L (v.toList ++ S) M' N' P' Q) := wp_callV (As := [.long lx0]) rfl dX12_readLine_152 rfl rfl (Or.inl ⟨_, _, _, hs, rfl⟩) rfl ⟨rfl, Nat.le_of_ble_eq_true rfl, Nat.le_of_ble_eq_true rfl⟩ rfl hS
theorem sX12_readLine_155 : Wp mX12_readLine d 155 L (.int x :: S) M N P Q = (if x = 0 then Wp mX12_readLine d 162 L S M N P Q else Wp mX12_readLine d 158 L S M N P Q) := wp_if_eq rfl dX12_readLine_155 rfl
theorem sX12_readLine_158 : Wp mX12_readLine d 158 L S M N P Q = Wp mX12_readLine d 159 L (.int 4 :: S) M N P Q := wp_iconst rfl dX12_readLine_158 rfl
theorem sX12_readLine_159 : Wp mX12_readLine d 159 L S M N P Q = Wp mX12_readLine d 163 L S M N P Q := wp_goto rfl dX12_readLine_159 rfl
theorem sX12_readLine_162 : Wp mX12_readLine d 162 L S M N P Q = Wp mX12_readLine d 163 L (.int 0 :: S) M N P Q := wp_iconst rfl dX12_readLine_162 rfl
theorem sX12_readLine_163 (hs : (shk r).1 = 100) : Wp mX12_readLine d 163 L (.int x :: .int j :: .ref r :: S) M N P Q = (vp_in j (shk r).2 ∧ Wp mX12_readLine d 164 L S (up2 M r j.toNatClampNeg x) N P Q) := wp_iastore rfl dX12_readLine_163 (kd hs)
theorem sX12_readLine_164 : Wp mX12_readLine d 164 (.ref r :: L) S M N P Q = Wp mX12_readLine d 165 (.ref r :: L) (.ref r :: S) M N P Q := wp_aload_n rfl dX12_readLine_164 rfl
theorem sX12_readLine_165 (hs : shk r = (12, 0)) : Wp mX12_readLine d 165 L (.ref r :: S) M N P Q = Wp mX12_readLine d 168 L (.ref (P r 34) :: S) M N P Q := wp_getfield rfl dX12_readLine_165 rfl rfl hs rfl
theorem sX12_readLine_168 : Wp mX12_readLine d 168 (a0 :: .int x :: L) S M N P Q = Wp mX12_readLine d 169 (a0 :: .int x :: L) (.int x :: S) M N P Q := wp_iload_n rfl dX12_readLine_168 rfl
theorem sX12_readLine_169 : Wp mX12_readLine d 169 L S M N P Q = Wp mX12_readLine d 170 L (.int 0 :: S) M N P Q := wp_iconst rfl dX12_readLine_169 rfl
theorem sX12_readLine_170 (hs : (shk r).1 = 100) : Wp mX12_readLine d 170 L (.int x :: .int j :: .ref r :: S) M N P Q = (vp_in j (shk r).2 ∧ Wp mX12_readLine d 171 L S (up2 M r j.toNatClampNeg x) N P Q) := wp_iastore rfl dX12_readLine_170 (kd hs)
theorem sX12_readLine_171 : Wp mX12_readLine d 171 (.ref r :: L) S M N P Q = Wp mX12_readLine d 172 (.ref r :: L) (.ref r :: S) M N P Q := wp_aload_n rfl dX12_readLine_171 rfl
theorem sX12_readLine_172 : Wp mX12_readLine d 172 (.ref r :: L) S M N P Q = Wp mX12_readLine d 173 (.ref r :: L) (.ref r :: S) M N P Q := wp_aload_n rfl dX12_readLine_172 rfl
theorem sX12_readLine_173 (hs : shk r = (12, 0)) : Wp mX12_readLine d 173 L (.ref r :: S) M N P Q = Wp mX12_readLine d 176 L (.ref (P r 33) :: S) M N P Q := wp_getfield rfl dX12_readLine_173 rfl rfl hs rfl
theorem sX12_readLine_176 : Wp mX12_readLine d 176 (a0 :: .int x :: L) S M N P Q = Wp mX12_readLine d 177 (a0 :: .int x :: L) (.int x :: S) M N P Q := wp_iload_n rfl dX12_readLine_176 rfl
theorem sX12_readLine_177 (hs : (shk r).1 = 100) : Wp mX12_readLine d 177 L (.int j :: .ref r :: S) M N P Q = (vp_in j (shk r).2 ∧ Wp mX12_readLine d 178 L (.int (M r j.toNatClampNeg) :: S) M N P Q) := wp_iaload rfl dX12_readLine_177 (kd hs)
theorem sX12_readLine_178 : Wp mX12_readLine d 178 L (.int x :: S) M N P Q = (if x ≤ 0 then Wp mX12_readLine d 185 L S M N P Q else Wp mX12_readLine d 181 L S M N P Q) := wp_if_le rfl dX12_readLine_178 rfl
theorem sX12_readLine_181 : Wp mX12_readLine d 181 L S M N P Q = Wp mX12_readLine d 182 L (.int 1 :: S) M N P Q := wp_iconst rfl dX12_readLine_181 rfl
theorem sX12_readLine_182 : Wp mX12_readLine d 182 L S M N P Q = Wp mX12_readLine d 186 L S M N P Q := wp_goto rfl dX12_readLine_182 rfl
theorem sX12_readLine_185 : Wp mX12_readLine d 185 L S M N P Q = Wp mX12_readLine d 186 L (.int 0 :: S) M N P Q := wp_iconst rfl dX12_readLine_185 rfl
theorem sX12_readLine_186 {x0 : Int32} (hs : shk r = (12, 0)) (hS : stk S ≤ 8) : Wp mX12_readLine (d + 1) 186 L (.int x0 :: .ref r :: S) M N P Q = Wp mX12_must d 0 [.ref r, .int x0] [] M N P (fun v M' N' P' => Wp mX12_readLine (d + 1) 189 L (v.toList ++ S) M' N' P' Q) := wp_callV (As := [.int x0]) rfl dX12_readLine_186 rfl rfl (Or.inl ⟨_, _, _, hs, rfl⟩) rfl ⟨rfl, Nat.le_of_ble_eq_true rfl, Nat.le_of_ble_eq_true rfl⟩ rfl hS
theorem sX12_readLine_189 : Wp mX12_readLine d 189 (.ref r :: L) S M N P Q = Wp mX12_readLine d 190 (.ref r :: L) (.ref r :: S) M N P Q := wp_aload_n rfl dX12_readLine_189 rfl
theorem sX12_readLine_190 (hs : shk r = (12, 0)) (hS : stk S ≤ 8) : Wp mX12_readLine (d + 1) 190 L (.ref r :: S) M N P Q = Wp mX12_isGood d 0 [.ref r] [] M N P (fun v M' N' P' => Wp mX12_readLine (d + 1) 193 L (v.toList ++ S) M' N' P' Q) := wp_callV (As := []) rfl dX12_readLine_190 rfl rfl (Or.inl ⟨_, _, _, hs, rfl⟩) rfl ⟨rfl, Nat.le_of_ble_eq_true rfl, Nat.le_of_ble_eq_true rfl⟩ rfl hS
theorem sX12_readLine_193 : Wp mX12_readLine d 193 L (.int x :: S) M N P Q = (if x = 0 then Wp mX12_readLine d 259 L S M N P Q else Wp mX12_readLine d 196 L S M N P Q) := wp_if_eq rfl dX12_readLine_193 rfl
theorem sX12_readLine_196 : Wp mX12_readLine d 196 (.ref r :: L) S M N P Q = Wp mX12_readLine d 197 (.ref r :: L) (.ref r :: S) M N P Q := wp_aload_n rfl dX12_readLine_196 rfl
theorem sX12_readLine_197 (hs : shk r = (12, 0)) : Wp mX12_readLine d 197 L (.ref r :: S) M N P Q = Wp mX12_readLine d 200 L (.ref (P r 33) :: S) M N P Q := wp_getfield rfl dX12_readLine_197 rfl rfl hs rfl
theorem sX12_readLine_200 : Wp mX12_readLine d 200 (a0 :: .int x :: L) S M N P Q = Wp mX12_readLine d 201 (a0 :: .int x :: L) (.int x :: S) M N P Q := wp_iload_n rfl dX12_readLine_200 rfl
theorem sX12_readLine_201 (hs : (shk r).1 = 100) : Wp mX12_readLine d 201 L (.int j :: .ref r :: S) M N P Q = (vp_in j (shk r).2 ∧ Wp mX12_readLine d 202 L (.int (M r j.toNatClampNeg) :: S) M N P Q) := wp_iaload rfl dX12_readLine_201 (kd hs)
theorem sX12_readLine_202 : Wp mX12_readLine d 202 L S M N P Q = Wp mX12_readLine d 203 L (.int 3 :: S) M N P Q := wp_iconst rfl dX12_readLine_202 rfl
theorem sX12_readLine_203 : Wp mX12_readLine d 203 L (.int z :: .int x :: S) M N P Q = (if x = z then Wp mX12_readLine d 206 L S M N P Q else Wp mX12_readLine d 259 L S M N P Q) := wp_icmp_ne rfl dX12_readLine_203 rfl
theorem sX12_readLine_206 : Wp mX12_readLine d 206 (.ref r :: L) S M N P Q = Wp mX12_readLine d 207 (.ref r :: L) (.ref r :: S) M N P Q := wp_aload_n rfl dX12_readLine_206 rfl
theorem sX12_readLine_207 (hs : shk r = (12, 0)) : Wp mX12_readLine d 207 L (.ref r :: S) M N P Q = Wp mX12_readLine d 210 L (.int (M r 29) :: S) M N P Q := wp_getfield rfl dX12_readLine_207 rfl rfl hs rfl
theorem sX12_readLine_210 : Wp mX12_readLine d 210 L S M N P Q = Wp mX12_readLine d 211 L (.int 3 :: S) M N P Q := wp_iconst rfl dX12_readLine_210 rfl
theorem sX12_readLine_211 : Wp mX12_readLine d 211 L (.int z :: .int x :: S) M N P Q = (if x = z then Wp mX12_readLine d 214 L S M N P Q else Wp mX12_readLine d 232 L S M N P Q) := wp_icmp_ne rfl dX12_readLine_211 rfl
theorem sX12_readLine_214 : Wp mX12_readLine d 214 (.ref r :: L) S M N P Q = Wp mX12_readLine d 215 (.ref r :: L) (.ref r :: S) M N P Q := wp_aload_n rfl dX12_readLine_214 rfl
theorem sX12_readLine_215 (hs : shk r = (12, 0)) : Wp mX12_readLine d 215 L (.ref r :: S) M N P Q = Wp mX12_readLine d 218 L (.int (M r 30) :: S) M N P Q := wp_getfield rfl dX12_readLine_215 rfl rfl hs rfl
theorem sX12_readLine_218 : Wp mX12_readLine d 218 L S M N P Q = Wp mX12_readLine d 220 L (.int 100 :: S) M N P Q := wp_bipush rfl dX12_readLine_218 rfl
theorem sX12_readLine_220 : Wp mX12_readLine d 220 L (.int z :: .int x :: S) M N P Q = (if x ≤ z then Wp mX12_readLine d 232 L S M N P Q else Wp mX12_readLine d 223 L S M N P Q) := wp_icmp_le rfl dX12_readLine_220 rfl
theorem sX12_readLine_223 : Wp mX12_readLine d 223 (.ref r :: L) S M N P Q = Wp mX12_readLine d 224 (.ref r :: L) (.ref r :: S) M N P Q := wp_aload_n rfl dX12_readLine_223 rfl
theorem sX12_readLine_224 : Wp mX12_readLine d 224 L S M N P Q = Wp mX12_readLine d 225 L (.int 3 :: S) M N P Q := wp_iconst rfl dX12_readLine_224 rfl
theorem sX12_readLine_225 : Wp mX12_readLine d 225 (.ref r :: L) S M N P Q = Wp mX12_readLine d 226 (.ref r :: L) (.ref r :: S) M N P Q := wp_aload_n rfl dX12_readLine_225 rfl
theorem sX12_readLine_226 (hs : shk r = (12, 0)) : Wp mX12_readLine d 226 L (.ref r :: S) M N P Q = Wp mX12_readLine d 229 L (.int (M r 27) :: S) M N P Q := wp_getfield rfl dX12_readLine_226 rfl rfl hs rfl
theorem sX12_readLine_229 {x0 : Int32} {x1 : Int32} (hs : shk r = (12, 0)) (hS : stk S ≤ 8) : Wp mX12_readLine (d + 1) 229 L (.int x1 :: .int x0 :: .ref r :: S) M N P Q = Wp mX12_fails d 0 [.ref r, .int x0, .int x1] [] M N P (fun v M' N' P' => Wp mX12_readLine (d + 1) 232 L (v.toList ++ S) M' N' P' Q) := wp_callV (As := [.int x0, .int x1]) rfl dX12_readLine_229 rfl rfl (Or.inl ⟨_, _, _, hs, rfl⟩) rfl ⟨rfl, Nat.le_of_ble_eq_true rfl, Nat.le_of_ble_eq_true rfl⟩ rfl hS
theorem sX12_readLine_232 : Wp mX12_readLine d 232 (.ref r :: L) S M N P Q = Wp mX12_readLine d 233 (.ref r :: L) (.ref r :: S) M N P Q := wp_aload_n rfl dX12_readLine_232 rfl
theorem sX12_readLine_233 (hs : shk r = (12, 0)) : Wp mX12_readLine d 233 L (.ref r :: S) M N P Q = Wp mX12_readLine d 236 L (.ref (P r 34) :: S) M N P Q := wp_getfield rfl dX12_readLine_233 rfl rfl hs rfl
theorem sX12_readLine_236 : Wp mX12_readLine d 236 (a0 :: .int x :: L) S M N P Q = Wp mX12_readLine d 237 (a0 :: .int x :: L) (.int x :: S) M N P Q := wp_iload_n rfl dX12_readLine_236 rfl
theorem sX12_readLine_237 : Wp mX12_readLine d 237 (.ref r :: L) S M N P Q = Wp mX12_readLine d 238 (.ref r :: L) (.ref r :: S) M N P Q := wp_aload_n rfl dX12_readLine_237 rfl
theorem sX12_readLine_238 (hs : shk r = (12, 0)) : Wp mX12_readLine d 238 L (.ref r :: S) M N P Q = Wp mX12_readLine d 241 L (.int (M r 30) :: S) M N P Q := wp_getfield rfl dX12_readLine_238 rfl rfl hs rfl
theorem sX12_readLine_241 (hs : (shk r).1 = 100) : Wp mX12_readLine d 241 L (.int x :: .int j :: .ref r :: S) M N P Q = (vp_in j (shk r).2 ∧ Wp mX12_readLine d 242 L S (up2 M r j.toNatClampNeg x) N P Q) := wp_iastore rfl dX12_readLine_241 (kd hs)
theorem sX12_readLine_242 : Wp mX12_readLine d 242 (.ref r :: L) S M N P Q = Wp mX12_readLine d 243 (.ref r :: L) (.ref r :: S) M N P Q := wp_aload_n rfl dX12_readLine_242 rfl
theorem sX12_readLine_243 : Wp mX12_readLine d 243 (.ref r :: L) S M N P Q = Wp mX12_readLine d 244 (.ref r :: L) (.ref r :: S) M N P Q := wp_aload_n rfl dX12_readLine_243 rfl
theorem sX12_readLine_244 (hs : shk r = (12, 0)) : Wp mX12_readLine d 244 L (.ref r :: S) M N P Q = Wp mX12_readLine d 247 L (.int (M r 29) :: S) M N P Q := wp_getfield rfl dX12_readLine_244 rfl rfl hs rfl
theorem sX12_readLine_247 : Wp mX12_readLine d 247 L S M N P Q = Wp mX12_readLine d 248 L (.int 3 :: S) M N P Q := wp_iconst rfl dX12_readLine_247 rfl
theorem sX12_readLine_248 : Wp mX12_readLine d 248 L (.int z :: .int x :: S) M N P Q = (if x = z then Wp mX12_readLine d 251 L S M N P Q else Wp mX12_readLine d 255 L S M N P Q) := wp_icmp_ne rfl dX12_readLine_248 rfl
theorem sX12_readLine_251 : Wp mX12_readLine d 251 L S M N P Q = Wp mX12_readLine d 252 L (.int 1 :: S) M N P Q := wp_iconst rfl dX12_readLine_251 rfl
theorem sX12_readLine_252 : Wp mX12_readLine d 252 L S M N P Q = Wp mX12_readLine d 256 L S M N P Q := wp_goto rfl dX12_readLine_252 rfl
theorem sX12_readLine_255 : Wp mX12_readLine d 255 L S M N P Q = Wp mX12_readLine d 256 L (.int 0 :: S) M N P Q := wp_iconst rfl dX12_readLine_255 rfl
theorem sX12_readLine_256 {x0 : Int32} (hs : shk r = (12, 0)) (hS : stk S ≤ 8) : Wp mX12_readLine (d + 1) 256 L (.int x0 :: .ref r :: S) M N P Q = Wp mX12_must d 0 [.ref r, .int x0] [] M N P (fun v M' N' P' => Wp mX12_readLine (d + 1) 259 L (v.toList ++ S) M' N' P' Q) := wp_callV (As := [.int x0]) rfl dX12_readLine_256 rfl rfl (Or.inl ⟨_, _, _, hs, rfl⟩) rfl ⟨rfl, Nat.le_of_ble_eq_true rfl, Nat.le_of_ble_eq_true rfl⟩ rfl hS
theorem sX12_readLine_259 : Wp mX12_readLine d 259 (.ref r :: L) S M N P Q = Wp mX12_readLine d 260 (.ref r :: L) (.ref r :: S) M N P Q := wp_aload_n rfl dX12_readLine_259 rfl
theorem sX12_readLine_260 : Wp mX12_readLine d 260 (.ref r :: L) S M N P Q = Wp mX12_readLine d 261 (.ref r :: L) (.ref r :: S) M N P Q := wp_aload_n rfl dX12_readLine_260 rfl
theorem sX12_readLine_261 : Wp mX12_readLine d 261 L S M N P Q = Wp mX12_readLine d 263 L (.int 59 :: S) M N P Q := wp_bipush rfl dX12_readLine_261 rfl
theorem sX12_readLine_263 {x0 : Int32} (hs : shk r = (12, 0)) (hS : stk S ≤ 8) : Wp mX12_readLine (d + 1) 263 L (.int x0 :: .ref r :: S) M N P Q = Wp mX12_is d 0 [.ref r, .int x0] [] M N P (fun v M' N' P' => Wp mX12_readLine (d + 1) 266 L (v.toList ++ S) M' N' P' Q) := wp_callV (As := [.int x0]) rfl dX12_readLine_263 rfl rfl (Or.inl ⟨_, _, _, hs, rfl⟩) rfl ⟨rfl, Nat.le_of_ble_eq_true rfl, Nat.le_of_ble_eq_true rfl⟩ rfl hS
theorem sX12_readLine_266 {x0 : Int32} (hs : shk r = (12, 0)) (hS : stk S ≤ 8) : Wp mX12_readLine (d + 1) 266 L (.int x0 :: .ref r :: S) M N P Q = Wp mX12_must d 0 [.ref r, .int x0] [] M N P (fun v M' N' P' => Wp mX12_readLine (d + 1) 269 L (v.toList ++ S) M' N' P' Q) := wp_callV (As := [.int x0]) rfl dX12_readLine_266 rfl rfl (Or.inl ⟨_, _, _, hs, rfl⟩) rfl ⟨rfl, Nat.le_of_ble_eq_true rfl, Nat.le_of_ble_eq_true rfl⟩ rfl hS
theorem sX12_readLine_269 : Wp mX12_readLine d 269 (.ref r :: L) S M N P Q = Wp mX12_readLine d 270 (.ref r :: L) (.ref r :: S) M N P Q := wp_aload_n rfl dX12_readLine_269 rfl
theorem sX12_readLine_270 (hs : shk r = (12, 0)) : Wp mX12_readLine d 270 L (.ref r :: S) M N P Q = Wp mX12_readLine d 273 L (.ref (P r 32) :: S) M N P Q := wp_getfield rfl dX12_readLine_270 rfl rfl hs rfl
theorem sX12_readLine_273 : Wp mX12_readLine d 273 (.ref r :: L) S M N P Q = Wp mX12_readLine d 274 (.ref r :: L) (.ref r :: S) M N P Q := wp_aload_n rfl dX12_readLine_273 rfl
theorem sX12_readLine_274 (hs : shk r = (12, 0)) : Wp mX12_readLine d 274 L (.ref r :: S) M N P Q = Wp mX12_readLine d 277 L (.int (M r 40) :: S) M N P Q := wp_getfield rfl dX12_readLine_274 rfl rfl hs rfl
theorem sX12_readLine_277 (hv : a0.category = 1) (hu : a1.category = 1) : Wp mX12_readLine d 277 L (a0 :: a1 :: S) M N P Q = Wp mX12_readLine d 278 L (a0 :: a1 :: a0 :: a1 :: S) M N P Q := wp_dup2 rfl dX12_readLine_277 hv hu
theorem sX12_readLine_278 (hs : (shk r).1 = 100) : Wp mX12_readLine d 278 L (.int j :: .ref r :: S) M N P Q = (vp_in j (shk r).2 ∧ Wp mX12_readLine d 279 L (.int (M r j.toNatClampNeg) :: S) M N P Q) := wp_iaload rfl dX12_readLine_278 (kd hs)
theorem sX12_readLine_279 : Wp mX12_readLine d 279 L S M N P Q = Wp mX12_readLine d 280 L (.int 1 :: S) M N P Q := wp_iconst rfl dX12_readLine_279 rfl
theorem sX12_readLine_280 : Wp mX12_readLine d 280 L (.int z :: .int x :: S) M N P Q = Wp mX12_readLine d 281 L (.int (x + z) :: S) M N P Q := wp_iadd rfl dX12_readLine_280
theorem sX12_readLine_281 (hs : (shk r).1 = 100) : Wp mX12_readLine d 281 L (.int x :: .int j :: .ref r :: S) M N P Q = (vp_in j (shk r).2 ∧ Wp mX12_readLine d 282 L S (up2 M r j.toNatClampNeg x) N P Q) := wp_iastore rfl dX12_readLine_281 (kd hs)
theorem sX12_readLine_282 : Wp mX12_readLine d 282 L [] M N P Q = Q none M N P := wp_vret rfl dX12_readLine_282 rfl
theorem sX12_step_0 : Wp mX12_step d 0 (.ref r :: L) S M N P Q = Wp mX12_step d 1 (.ref r :: L) (.ref r :: S) M N P Q := wp_aload_n rfl dX12_step_0 rfl
theorem sX12_step_1 (hs : shk r = (12, 0)) : Wp mX12_step d 1 L (.ref r :: S) M N P Q = Wp mX12_step d 4 L (.ref (P r 37) :: S) M N P Q := wp_getfield rfl dX12_step_1 rfl rfl hs rfl
theorem sX12_step_4 : Wp mX12_step d 4 L S M N P Q = Wp mX12_step d 7 L (.int 600 :: S) M N P Q := wp_sipush rfl dX12_step_4 rfl
theorem sX12_step_7 : Wp mX12_step d 7 (.ref r :: L) S M N P Q = Wp mX12_step d 8 (.ref r :: L) (.ref r :: S) M N P Q := wp_aload_n rfl dX12_step_7 rfl
theorem sX12_step_8 (hs : shk r = (12, 0)) : Wp mX12_step d 8 L (.ref r :: S) M N P Q = Wp mX12_step d 11 L (.int (M r 40) :: S) M N P Q := wp_getfield rfl dX12_step_8 rfl rfl hs rfl
theorem sX12_step_11 : Wp mX12_step d 11 L (.int z :: .int x :: S) M N P Q = Wp mX12_step d 12 L (.int (x * z) :: S) M N P Q := wp_imul rfl dX12_step_11
theorem sX12_step_12 : Wp mX12_step d 12 (.ref r :: L) S M N P Q = Wp mX12_step d 13 (.ref r :: L) (.ref r :: S) M N P Q := wp_aload_n rfl dX12_step_12 rfl
theorem sX12_step_13 (hs : shk r = (12, 0)) : Wp mX12_step d 13 L (.ref r :: S) M N P Q = Wp mX12_step d 16 L (.int (M r 41) :: S) M N P Q := wp_getfield rfl dX12_step_13 rfl rfl hs rfl
theorem sX12_step_16 : Wp mX12_step d 16 L (.int z :: .int x :: S) M N P Q = Wp mX12_step d 17 L (.int (x + z) :: S) M N P Q := wp_iadd rfl dX12_step_16
theorem sX12_step_17 : Wp mX12_step d 17 (a0 :: .int x :: L) S M N P Q = Wp mX12_step d 18 (a0 :: .int x :: L) (.int x :: S) M N P Q := wp_iload_n rfl dX12_step_17 rfl
theorem sX12_step_18 (hs : (shk r).1 = 100) : Wp mX12_step d 18 L (.int x :: .int j :: .ref r :: S) M N P Q = (vp_in j (shk r).2 ∧ Wp mX12_step d 19 L S (up2 M r j.toNatClampNeg x) N P Q) := wp_iastore rfl dX12_step_18 (kd hs)
theorem sX12_step_19 : Wp mX12_step d 19 (.ref r :: L) S M N P Q = Wp mX12_step d 20 (.ref r :: L) (.ref r :: S) M N P Q := wp_aload_n rfl dX12_step_19 rfl
theorem sX12_step_20 (hs : shk r = (12, 0)) : Wp mX12_step d 20 L (.ref r :: S) M N P Q = Wp mX12_step d 23 L (.ref (P r 38) :: S) M N P Q := wp_getfield rfl dX12_step_20 rfl rfl hs rfl
theorem sX12_step_23 : Wp mX12_step d 23 L S M N P Q = Wp mX12_step d 26 L (.int 600 :: S) M N P Q := wp_sipush rfl dX12_step_23 rfl
theorem sX12_step_26 : Wp mX12_step d 26 (.ref r :: L) S M N P Q = Wp mX12_step d 27 (.ref r :: L) (.ref r :: S) M N P Q := wp_aload_n rfl dX12_step_26 rfl
theorem sX12_step_27 (hs : shk r = (12, 0)) : Wp mX12_step d 27 L (.ref r :: S) M N P Q = Wp mX12_step d 30 L (.int (M r 40) :: S) M N P Q := wp_getfield rfl dX12_step_27 rfl rfl hs rfl
theorem sX12_step_30 : Wp mX12_step d 30 L (.int z :: .int x :: S) M N P Q = Wp mX12_step d 31 L (.int (x * z) :: S) M N P Q := wp_imul rfl dX12_step_30
theorem sX12_step_31 : Wp mX12_step d 31 (.ref r :: L) S M N P Q = Wp mX12_step d 32 (.ref r :: L) (.ref r :: S) M N P Q := wp_aload_n rfl dX12_step_31 rfl
theorem sX12_step_32 (hs : shk r = (12, 0)) : Wp mX12_step d 32 L (.ref r :: S) M N P Q = Wp mX12_step d 35 L (.int (M r 41) :: S) M N P Q := wp_getfield rfl dX12_step_32 rfl rfl hs rfl
theorem sX12_step_35 : Wp mX12_step d 35 L (.int z :: .int x :: S) M N P Q = Wp mX12_step d 36 L (.int (x + z) :: S) M N P Q := wp_iadd rfl dX12_step_35
theorem sX12_step_36 : Wp mX12_step d 36 (a0 :: a1 :: .int x :: L) S M N P Q = Wp mX12_step d 37 (a0 :: a1 :: .int x :: L) (.int x :: S) M N P Q := wp_iload_n rfl dX12_step_36 rfl
theorem sX12_step_37 (hs : (shk r).1 = 100) : Wp mX12_step d 37 L (.int x :: .int j :: .ref r :: S) M N P Q = (vp_in j (shk r).2 ∧ Wp mX12_step d 38 L S (up2 M r j.toNatClampNeg x) N P Q) := wp_iastore rfl dX12_step_37 (kd hs)
theorem sX12_step_38 : Wp mX12_step d 38 (.ref r :: L) S M N P Q = Wp mX12_step d 39 (.ref r :: L) (.ref r :: S) M N P Q := wp_aload_n rfl dX12_step_38 rfl
theorem sX12_step_39 (hv : a0.category = 1) : Wp mX12_step d 39 L (a0 :: S) M N P Q = Wp mX12_step d 40 L (a0 :: a0 :: S) M N P Q := wp_dup rfl dX12_step_39 hv
theorem sX12_step_40 (hs : shk r = (12, 0)) : Wp mX12_step d 40 L (.ref r :: S) M N P Q = Wp mX12_step d 43 L (.int (M r 41) :: S) M N P Q := wp_getfield rfl dX12_step_40 rfl rfl hs rfl
theorem sX12_step_43 : Wp mX12_step d 43 L S M N P Q = Wp mX12_step d 44 L (.int 1 :: S) M N P Q := wp_iconst rfl dX12_step_43 rfl
theorem sX12_step_44 : Wp mX12_step d 44 L (.int z :: .int x :: S) M N P Q = Wp mX12_step d 45 L (.int (x + z) :: S) M N P Q := wp_iadd rfl dX12_step_44
theorem sX12_step_45 (hs : shk r = (12, 0)) : Wp mX12_step d 45 L (.int x :: .ref r :: S) M N P Q = Wp mX12_step d 48 L S (up2 M r 41 x) N P Q := wp_putI rfl dX12_step_45 rfl rfl hs rfl ⟨_, _, _, _, rfl, by decide, rfl, tyX12_ok 41 (by decide), rfl, rfl⟩
theorem sX12_step_48 : Wp mX12_step d 48 L [] M N P Q = Q none M N P := wp_vret rfl dX12_step_48 rfl
theorem sX12_pile_0 : Wp mX12_pile d 0 (.ref r :: L) S M N P Q = Wp mX12_pile d 1 (.ref r :: L) (.ref r :: S) M N P Q := wp_aload_n rfl dX12_pile_0 rfl
theorem sX12_pile_1 (hs : shk r = (12, 0)) : Wp mX12_pile d 1 L (.ref r :: S) M N P Q = Wp mX12_pile d 4 L (.ref (P r 43) :: S) M N P Q := wp_getfield rfl dX12_pile_1 rfl rfl hs rfl
theorem sX12_pile_4 : Wp mX12_pile d 4 (.ref r :: L) S M N P Q = Wp mX12_pile d 5 (.ref r :: L) (.ref r :: S) M N P Q := wp_aload_n rfl dX12_pile_4 rfl
theorem sX12_pile_5 (hs : shk r = (12, 0)) : Wp mX12_pile d 5 L (.ref r :: S) M N P Q = Wp mX12_pile d 8 L (.int (M r 44) :: S) M N P Q := wp_getfield rfl dX12_pile_5 rfl rfl hs rfl
theorem sX12_pile_8 : Wp mX12_pile d 8 (a0 :: .int x :: L) S M N P Q = Wp mX12_pile d 9 (a0 :: .int x :: L) (.int x :: S) M N P Q := wp_iload_n rfl dX12_pile_8 rfl
theorem sX12_pile_9 (hs : (shk r).1 = 100) : Wp mX12_pile d 9 L (.int x :: .int j :: .ref r :: S) M N P Q = (vp_in j (shk r).2 ∧ Wp mX12_pile d 10 L S (up2 M r j.toNatClampNeg x) N P Q) := wp_iastore rfl dX12_pile_9 (kd hs)
theorem sX12_pile_10 : Wp mX12_pile d 10 (.ref r :: L) S M N P Q = Wp mX12_pile d 11 (.ref r :: L) (.ref r :: S) M N P Q := wp_aload_n rfl dX12_pile_10 rfl
theorem sX12_pile_11 (hv : a0.category = 1) : Wp mX12_pile d 11 L (a0 :: S) M N P Q = Wp mX12_pile d 12 L (a0 :: a0 :: S) M N P Q := wp_dup rfl dX12_pile_11 hv
theorem sX12_pile_12 (hs : shk r = (12, 0)) : Wp mX12_pile d 12 L (.ref r :: S) M N P Q = Wp mX12_pile d 15 L (.int (M r 44) :: S) M N P Q := wp_getfield rfl dX12_pile_12 rfl rfl hs rfl
theorem sX12_pile_15 : Wp mX12_pile d 15 L S M N P Q = Wp mX12_pile d 16 L (.int 1 :: S) M N P Q := wp_iconst rfl dX12_pile_15 rfl
theorem sX12_pile_16 : Wp mX12_pile d 16 L (.int z :: .int x :: S) M N P Q = Wp mX12_pile d 17 L (.int (x + z) :: S) M N P Q := wp_iadd rfl dX12_pile_16
theorem sX12_pile_17 (hs : shk r = (12, 0)) : Wp mX12_pile d 17 L (.int x :: .ref r :: S) M N P Q = Wp mX12_pile d 20 L S (up2 M r 44 x) N P Q := wp_putI rfl dX12_pile_17 rfl rfl hs rfl ⟨_, _, _, _, rfl, by decide, rfl, tyX12_ok 44 (by decide), rfl, rfl⟩
theorem sX12_pile_20 : Wp mX12_pile d 20 L [] M N P Q = Q none M N P := wp_vret rfl dX12_pile_20 rfl
theorem sX12_e_0 : Wp mX12_e d 0 (.ref r :: L) S M N P Q = Wp mX12_e d 1 (.ref r :: L) (.ref r :: S) M N P Q := wp_aload_n rfl dX12_e_0 rfl
theorem sX12_e_1 : Wp mX12_e d 1 L S M N P Q = Wp mX12_e d 2 L (.int 0 :: S) M N P Q := wp_iconst rfl dX12_e_1 rfl
theorem sX12_e_2 (hs : shk r = (12, 0)) : Wp mX12_e d 2 L (.int x :: .ref r :: S) M N P Q = Wp mX12_e d 5 L S (up2 M r 44 x) N P Q := wp_putI rfl dX12_e_2 rfl rfl hs rfl ⟨_, _, _, _, rfl, by decide, rfl, tyX12_ok 44 (by decide), rfl, rfl⟩
theorem sX12_e_5 : Wp mX12_e d 5 (.ref r :: L) S M N P Q = Wp mX12_e d 6 (.ref r :: L) (.ref r :: S) M N P Q := wp_aload_n rfl dX12_e_5 rfl
theorem sX12_e_6 : Wp mX12_e d 6 L S M N P Q = Wp mX12_e d 7 L (.int 0 :: S) M N P Q := wp_iconst rfl dX12_e_6 rfl
theorem sX12_e_7 (hs : shk r = (12, 0)) : Wp mX12_e d 7 L (.int x :: .ref r :: S) M N P Q = Wp mX12_e d 10 L S (up2 M r 45 x) N P Q := wp_putI rfl dX12_e_7 rfl rfl hs rfl ⟨_, _, _, _, rfl, by decide, rfl, tyX12_ok 45 (by decide), rfl, rfl⟩
theorem sX12_e_10 : Wp mX12_e d 10 (.ref r :: L) S M N P Q = Wp mX12_e d 11 (.ref r :: L) (.ref r :: S) M N P Q := wp_aload_n rfl dX12_e_10 rfl
theorem sX12_e_11 : Wp mX12_e d 11 L S M N P Q = Wp mX12_e d 12 L (.int 5 :: S) M N P Q := wp_iconst rfl dX12_e_11 rfl
theorem sX12_e_12 {x0 : Int32} (hs : shk r = (12, 0)) (hS : stk S ≤ 8) : Wp mX12_e (d + 1) 12 L (.int x0 :: .ref r :: S) M N P Q = Wp mX12_pile d 0 [.ref r, .int x0] [] M N P (fun v M' N' P' => Wp mX12_e (d + 1) 15 L (v.toList ++ S) M' N' P' Q) := wp_callV (As := [.int x0]) rfl dX12_e_12 rfl rfl (Or.inl ⟨_, _, _, hs, rfl⟩) rfl ⟨rfl, Nat.le_of_ble_eq_true rfl, Nat.le_of_ble_eq_true rfl⟩ rfl hS
theorem sX12_e_15 : Wp mX12_e d 15 L S M N P Q = Wp mX12_e d 16 L (.int 1 :: S) M N P Q := wp_iconst rfl dX12_e_15 rfl
theorem sX12_e_16 (hn : nl a0 = true) : Wp mX12_e d 16 (a0 :: a1 :: L) (.int x :: S) M N P Q = Wp mX12_e d 17 (a0 :: .int x :: L) S M N P Q := wp_istore_n rfl dX12_e_16 (lenGt1 ..) (okst1 hn) rfl
theorem sX12_e_17 : Wp mX12_e d 17 (.ref r :: L) S M N P Q = Wp mX12_e d 18 (.ref r :: L) (.ref r :: S) M N P Q := wp_aload_n rfl dX12_e_17 rfl
theorem sX12_e_18 (hs : shk r = (12, 0)) (hS : stk S ≤ 8) : Wp mX12_e (d + 1) 18 L (.ref r :: S) M N P Q = Wp mX12_isGood d 0 [.ref r] [] M N P (fun v M' N' P' => Wp mX12_e (d + 1) 21 L (v.toList ++ S) M' N' P' Q) := wp_callV (As := []) rfl dX12_e_18 rfl rfl (Or.inl ⟨_, _, _, hs, rfl⟩) rfl ⟨rfl, Nat.le_of_ble_eq_true rfl, Nat.le_of_ble_eq_true rfl⟩ rfl hS
theorem sX12_e_21 : Wp mX12_e d 21 L (.int x :: S) M N P Q = (if x = 0 then Wp mX12_e d 50 L S M N P Q else Wp mX12_e d 24 L S M N P Q) := wp_if_eq rfl dX12_e_21 rfl
theorem sX12_e_24 : Wp mX12_e d 24 (.ref r :: L) S M N P Q = Wp mX12_e d 25 (.ref r :: L) (.ref r :: S) M N P Q := wp_aload_n rfl dX12_e_24 rfl
theorem sX12_e_25 (hs : shk r = (12, 0)) : Wp mX12_e d 25 L (.ref r :: S) M N P Q = Wp mX12_e d 28 L (.int (M r 44) :: S) M N P Q := wp_getfield rfl dX12_e_25 rfl rfl hs rfl
theorem sX12_e_28 : Wp mX12_e d 28 L (.int x :: S) M N P Q = (if x ≤ 0 then Wp mX12_e d 50 L S M N P Q else Wp mX12_e d 31 L S M N P Q) := wp_if_le rfl dX12_e_28 rfl
theorem sX12_e_31 : Wp mX12_e d 31 (a0 :: .int x :: L) S M N P Q = Wp mX12_e d 32 (a0 :: .int x :: L) (.int x :: S) M N P Q := wp_iload_n rfl dX12_e_31 rfl
theorem sX12_e_32 : Wp mX12_e d 32 L (.int x :: S) M N P Q = (if x = 0 then Wp mX12_e d 42 L S M N P Q else Wp mX12_e d 35 L S M N P Q) := wp_if_eq rfl dX12_e_32 rfl
theorem sX12_e_35 : Wp mX12_e d 35 (.ref r :: L) S M N P Q = Wp mX12_e d 36 (.ref r :: L) (.ref r :: S) M N P Q := wp_aload_n rfl dX12_e_35 rfl
theorem sX12_e_36 (hs : shk r = (12, 0)) (hS : stk S ≤ 8) : Wp mX12_e (d + 1) 36 L (.ref r :: S) M N P Q = Wp mX12_one d 0 [.ref r, .float 0] [] M N P (fun v M' N' P' => Wp mX12_e (d + 1) 39 L (v.toList ++ S) M' N' P' Q) := wp_callV (As := []) rfl dX12_e_36 rfl rfl (Or.inl ⟨_, _, _, hs, rfl⟩) rfl ⟨rfl, Nat.le_of_ble_eq_true rfl, Nat.le_of_ble_eq_true rfl⟩ rfl hS
theorem sX12_e_39 : Wp mX12_e d 39 L S M N P Q = Wp mX12_e d 46 L S M N P Q := wp_goto rfl dX12_e_39 rfl
theorem sX12_e_42 : Wp mX12_e d 42 (.ref r :: L) S M N P Q = Wp mX12_e d 43 (.ref r :: L) (.ref r :: S) M N P Q := wp_aload_n rfl dX12_e_42 rfl
theorem sX12_e_43 (hs : shk r = (12, 0)) (hS : stk S ≤ 8) : Wp mX12_e (d + 1) 43 L (.ref r :: S) M N P Q = Wp mX12_behind d 0 [.ref r, .float 0] [] M N P (fun v M' N' P' => Wp mX12_e (d + 1) 46 L (v.toList ++ S) M' N' P' Q) := wp_callV (As := []) rfl dX12_e_43 rfl rfl (Or.inl ⟨_, _, _, hs, rfl⟩) rfl ⟨rfl, Nat.le_of_ble_eq_true rfl, Nat.le_of_ble_eq_true rfl⟩ rfl hS
theorem sX12_e_46 (hn : nl a0 = true) : Wp mX12_e d 46 (a0 :: a1 :: L) (.int x :: S) M N P Q = Wp mX12_e d 47 (a0 :: .int x :: L) S M N P Q := wp_istore_n rfl dX12_e_46 (lenGt1 ..) (okst1 hn) rfl
theorem sX12_e_47 : Wp mX12_e d 47 L S M N P Q = Wp mX12_e d 17 L S M N P Q := wp_goto rfl dX12_e_47 rfl
theorem sX12_e_50 : Wp mX12_e d 50 L [] M N P Q = Q none M N P := wp_vret rfl dX12_e_50 rfl
theorem sX12_one_0 : Wp mX12_one d 0 (.ref r :: L) S M N P Q = Wp mX12_one d 1 (.ref r :: L) (.ref r :: S) M N P Q := wp_aload_n rfl dX12_one_0 rfl
theorem sX12_one_1 : Wp mX12_one d 1 L S M N P Q = Wp mX12_one d 3 L (.int 40 :: S) M N P Q := wp_bipush rfl dX12_one_1 rfl
theorem sX12_one_3 {x0 : Int32} (hs : shk r = (12, 0)) (hS : stk S ≤ 8) : Wp mX12_one (d + 1) 3 L (.int x0 :: .ref r :: S) M N P Q = Wp mX12_is d 0 [.ref r, .int x0] [] M N P (fun v M' N' P' => Wp mX12_one (d + 1) 6 L (v.toList ++ S) M' N' P' Q) := wp_callV (As := [.int x0]) rfl dX12_one_3 rfl rfl (Or.inl ⟨_, _, _, hs, rfl⟩) rfl ⟨rfl, Nat.le_of_ble_eq_true rfl, Nat.le_of_ble_eq_true rfl⟩ rfl hS
theorem sX12_one_6 : Wp mX12_one d 6 L (.int x :: S) M N P Q = (if x = 0 then Wp mX12_one d 9 L S M N P Q else Wp mX12_one d 19 L S M N P Q) := wp_if_ne rfl dX12_one_6 rfl
theorem sX12_one_9 : Wp mX12_one d 9 (.ref r :: L) S M N P Q = Wp mX12_one d 10 (.ref r :: L) (.ref r :: S) M N P Q := wp_aload_n rfl dX12_one_9 rfl
theorem sX12_one_10 : Wp mX12_one d 10 L S M N P Q = Wp mX12_one d 13 L (.long (7237492) :: S) M N P Q := wp_ldc2_w rfl dX12_one_10 rfl rfl
theorem sX12_one_13 {lx0 : Int64} (hs : shk r = (12, 0)) (hS : stk S ≤ 8) : Wp mX12_one (d + 1) 13 L (.long lx0 :: .ref r :: S) M N P Q = Wp mX12_isWord d 0 [.ref r, .long lx0, .float 0] [] M N P (fun v M' N' P' => Wp mX12_one (d + 1) 16 L (v.toList ++ S) M' N' P' Q) := wp_callV (As := [.long lx0]) rfl dX12_one_13 rfl rfl (Or.inl ⟨_, _, _, hs, rfl⟩) rfl ⟨rfl, Nat.le_of_ble_eq_true rfl, Nat.le_of_ble_eq_true rfl⟩ rfl hS
theorem sX12_one_16 : Wp mX12_one d 16 L (.int x :: S) M N P Q = (if x = 0 then Wp mX12_one d 66 L S M N P Q else Wp mX12_one d 19 L S M N P Q) := wp_if_eq rfl dX12_one_16 rfl
theorem sX12_one_19 : Wp mX12_one d 19 (.ref r :: L) S M N P Q = Wp mX12_one d 20 (.ref r :: L) (.ref r :: S) M N P Q := wp_aload_n rfl dX12_one_19 rfl
theorem sX12_one_20 : Wp mX12_one d 20 (.ref r :: L) S M N P Q = Wp mX12_one d 21 (.ref r :: L) (.ref r :: S) M N P Q := wp_aload_n rfl dX12_one_20 rfl
theorem sX12_one_21 : Wp mX12_one d 21 L S M N P Q = Wp mX12_one d 23 L (.int 40 :: S) M N P Q := wp_bipush rfl dX12_one_21 rfl
theorem sX12_one_23 {x0 : Int32} (hs : shk r = (12, 0)) (hS : stk S ≤ 8) : Wp mX12_one (d + 1) 23 L (.int x0 :: .ref r :: S) M N P Q = Wp mX12_is d 0 [.ref r, .int x0] [] M N P (fun v M' N' P' => Wp mX12_one (d + 1) 26 L (v.toList ++ S) M' N' P' Q) := wp_callV (As := [.int x0]) rfl dX12_one_23 rfl rfl (Or.inl ⟨_, _, _, hs, rfl⟩) rfl ⟨rfl, Nat.le_of_ble_eq_true rfl, Nat.le_of_ble_eq_true rfl⟩ rfl hS
theorem sX12_one_26 : Wp mX12_one d 26 L (.int x :: S) M N P Q = (if x = 0 then Wp mX12_one d 33 L S M N P Q else Wp mX12_one d 29 L S M N P Q) := wp_if_eq rfl dX12_one_26 rfl
theorem sX12_one_29 : Wp mX12_one d 29 L S M N P Q = Wp mX12_one d 30 L (.int 4 :: S) M N P Q := wp_iconst rfl dX12_one_29 rfl
theorem sX12_one_30 : Wp mX12_one d 30 L S M N P Q = Wp mX12_one d 34 L S M N P Q := wp_goto rfl dX12_one_30 rfl
theorem sX12_one_33 : Wp mX12_one d 33 L S M N P Q = Wp mX12_one d 34 L (.int 3 :: S) M N P Q := wp_iconst rfl dX12_one_33 rfl
theorem sX12_one_34 {x0 : Int32} (hs : shk r = (12, 0)) (hS : stk S ≤ 8) : Wp mX12_one (d + 1) 34 L (.int x0 :: .ref r :: S) M N P Q = Wp mX12_pile d 0 [.ref r, .int x0] [] M N P (fun v M' N' P' => Wp mX12_one (d + 1) 37 L (v.toList ++ S) M' N' P' Q) := wp_callV (As := [.int x0]) rfl dX12_one_34 rfl rfl (Or.inl ⟨_, _, _, hs, rfl⟩) rfl ⟨rfl, Nat.le_of_ble_eq_true rfl, Nat.le_of_ble_eq_true rfl⟩ rfl hS
theorem sX12_one_37 : Wp mX12_one d 37 (.ref r :: L) S M N P Q = Wp mX12_one d 38 (.ref r :: L) (.ref r :: S) M N P Q := wp_aload_n rfl dX12_one_37 rfl
theorem sX12_one_38 (hs : shk r = (12, 0)) (hS : stk S ≤ 8) : Wp mX12_one (d + 1) 38 L (.ref r :: S) M N P Q = Wp mX12_next d 0 [.ref r, .float 0, .float 0] [] M N P (fun v M' N' P' => Wp mX12_one (d + 1) 41 L (v.toList ++ S) M' N' P' Q) := wp_callV (As := []) rfl dX12_one_38 rfl rfl (Or.inl ⟨_, _, _, hs, rfl⟩) rfl ⟨rfl, Nat.le_of_ble_eq_true rfl, Nat.le_of_ble_eq_true rfl⟩ rfl hS
theorem sX12_one_41 : Wp mX12_one d 41 (.ref r :: L) S M N P Q = Wp mX12_one d 42 (.ref r :: L) (.ref r :: S) M N P Q := wp_aload_n rfl dX12_one_41 rfl
theorem sX12_one_42 (hv : a0.category = 1) : Wp mX12_one d 42 L (a0 :: S) M N P Q = Wp mX12_one d 43 L (a0 :: a0 :: S) M N P Q := wp_dup rfl dX12_one_42 hv
theorem sX12_one_43 (hs : shk r = (12, 0)) : Wp mX12_one d 43 L (.ref r :: S) M N P Q = Wp mX12_one d 46 L (.int (M r 45) :: S) M N P Q := wp_getfield rfl dX12_one_43 rfl rfl hs rfl
theorem sX12_one_46 : Wp mX12_one d 46 L S M N P Q = Wp mX12_one d 47 L (.int 1 :: S) M N P Q := wp_iconst rfl dX12_one_46 rfl
theorem sX12_one_47 : Wp mX12_one d 47 L (.int z :: .int x :: S) M N P Q = Wp mX12_one d 48 L (.int (x + z) :: S) M N P Q := wp_iadd rfl dX12_one_47
theorem sX12_one_48 (hs : shk r = (12, 0)) : Wp mX12_one d 48 L (.int x :: .ref r :: S) M N P Q = Wp mX12_one d 51 L S (up2 M r 45 x) N P Q := wp_putI rfl dX12_one_48 rfl rfl hs rfl ⟨_, _, _, _, rfl, by decide, rfl, tyX12_ok 45 (by decide), rfl, rfl⟩
theorem sX12_one_51 : Wp mX12_one d 51 (.ref r :: L) S M N P Q = Wp mX12_one d 52 (.ref r :: L) (.ref r :: S) M N P Q := wp_aload_n rfl dX12_one_51 rfl
theorem sX12_one_52 (hs : shk r = (12, 0)) : Wp mX12_one d 52 L (.ref r :: S) M N P Q = Wp mX12_one d 55 L (.int (M r 45) :: S) M N P Q := wp_getfield rfl dX12_one_52 rfl rfl hs rfl
theorem sX12_one_55 : Wp mX12_one d 55 L S M N P Q = Wp mX12_one d 57 L (.int 6 :: S) M N P Q := wp_bipush rfl dX12_one_55 rfl
theorem sX12_one_57 : Wp mX12_one d 57 L (.int z :: .int x :: S) M N P Q = (if x < z then Wp mX12_one d 64 L S M N P Q else Wp mX12_one d 60 L S M N P Q) := wp_icmp_lt rfl dX12_one_57 rfl
theorem sX12_one_60 : Wp mX12_one d 60 (.ref r :: L) S M N P Q = Wp mX12_one d 61 (.ref r :: L) (.ref r :: S) M N P Q := wp_aload_n rfl dX12_one_60 rfl
theorem sX12_one_61 (hs : shk r = (12, 0)) (hS : stk S ≤ 8) : Wp mX12_one (d + 1) 61 L (.ref r :: S) M N P Q = Wp mX12_wrong d 0 [.ref r] [] M N P (fun v M' N' P' => Wp mX12_one (d + 1) 64 L (v.toList ++ S) M' N' P' Q) := wp_callV (As := []) rfl dX12_one_61 rfl rfl (Or.inl ⟨_, _, _, hs, rfl⟩) rfl ⟨rfl, Nat.le_of_ble_eq_true rfl, Nat.le_of_ble_eq_true rfl⟩ rfl hS
theorem sX12_one_64 : Wp mX12_one d 64 L S M N P Q = Wp mX12_one d 65 L (.int 1 :: S) M N P Q := wp_iconst rfl dX12_one_64 rfl
theorem sX12_one_65 (hb : bit x) : Wp mX12_one d 65 L [.int x] M N P Q = Q (some (.int x)) M N P := wp_iret rfl dX12_one_65 rfl (bit_n hb)
theorem sX12_one_66 : Wp mX12_one d 66 (.ref r :: L) S M N P Q = Wp mX12_one d 67 (.ref r :: L) (.ref r :: S) M N P Q := wp_aload_n rfl dX12_one_66 rfl
theorem sX12_one_67 (hs : shk r = (12, 0)) (hS : stk S ≤ 8) : Wp mX12_one (d + 1) 67 L (.ref r :: S) M N P Q = Wp mX12_readSum d 0 [.ref r, .float 0] [] M N P (fun v M' N' P' => Wp mX12_one (d + 1) 70 L (v.toList ++ S) M' N' P' Q) := wp_callV (As := []) rfl dX12_one_67 rfl rfl (Or.inl ⟨_, _, _, hs, rfl⟩) rfl ⟨rfl, Nat.le_of_ble_eq_true rfl, Nat.le_of_ble_eq_true rfl⟩ rfl hS
theorem sX12_one_70 : Wp mX12_one d 70 (.ref r :: L) S M N P Q = Wp mX12_one d 71 (.ref r :: L) (.ref r :: S) M N P Q := wp_aload_n rfl dX12_one_70 rfl
theorem sX12_one_71 (hs : shk r = (12, 0)) (hS : stk S ≤ 8) : Wp mX12_one (d + 1) 71 L (.ref r :: S) M N P Q = Wp mX12_isGood d 0 [.ref r] [] M N P (fun v M' N' P' => Wp mX12_one (d + 1) 74 L (v.toList ++ S) M' N' P' Q) := wp_callV (As := []) rfl dX12_one_71 rfl rfl (Or.inl ⟨_, _, _, hs, rfl⟩) rfl ⟨rfl, Nat.le_of_ble_eq_true rfl, Nat.le_of_ble_eq_true rfl⟩ rfl hS
theorem sX12_one_74 : Wp mX12_one d 74 L (.int x :: S) M N P Q = (if x = 0 then Wp mX12_one d 77 L S M N P Q else Wp mX12_one d 79 L S M N P Q) := wp_if_ne rfl dX12_one_74 rfl
theorem sX12_one_77 : Wp mX12_one d 77 L S M N P Q = Wp mX12_one d 78 L (.int 1 :: S) M N P Q := wp_iconst rfl dX12_one_77 rfl
theorem sX12_one_78 (hb : bit x) : Wp mX12_one d 78 L [.int x] M N P Q = Q (some (.int x)) M N P := wp_iret rfl dX12_one_78 rfl (bit_n hb)
theorem sX12_one_79 : Wp mX12_one d 79 (.ref r :: L) S M N P Q = Wp mX12_one d 80 (.ref r :: L) (.ref r :: S) M N P Q := wp_aload_n rfl dX12_one_79 rfl
theorem sX12_one_80 : Wp mX12_one d 80 L S M N P Q = Wp mX12_one d 82 L (.int 60 :: S) M N P Q := wp_bipush rfl dX12_one_80 rfl
theorem sX12_one_82 {x0 : Int32} (hs : shk r = (12, 0)) (hS : stk S ≤ 8) : Wp mX12_one (d + 1) 82 L (.int x0 :: .ref r :: S) M N P Q = Wp mX12_is d 0 [.ref r, .int x0] [] M N P (fun v M' N' P' => Wp mX12_one (d + 1) 85 L (v.toList ++ S) M' N' P' Q) := wp_callV (As := [.int x0]) rfl dX12_one_82 rfl rfl (Or.inl ⟨_, _, _, hs, rfl⟩) rfl ⟨rfl, Nat.le_of_ble_eq_true rfl, Nat.le_of_ble_eq_true rfl⟩ rfl hS
theorem sX12_one_85 : Wp mX12_one d 85 L (.int x :: S) M N P Q = (if x = 0 then Wp mX12_one d 88 L S M N P Q else Wp mX12_one d 108 L S M N P Q) := wp_if_ne rfl dX12_one_85 rfl
theorem sX12_one_88 : Wp mX12_one d 88 (.ref r :: L) S M N P Q = Wp mX12_one d 89 (.ref r :: L) (.ref r :: S) M N P Q := wp_aload_n rfl dX12_one_88 rfl
theorem sX12_one_89 : Wp mX12_one d 89 L S M N P Q = Wp mX12_one d 91 L (.int 62 :: S) M N P Q := wp_bipush rfl dX12_one_89 rfl
theorem sX12_one_91 {x0 : Int32} (hs : shk r = (12, 0)) (hS : stk S ≤ 8) : Wp mX12_one (d + 1) 91 L (.int x0 :: .ref r :: S) M N P Q = Wp mX12_is d 0 [.ref r, .int x0] [] M N P (fun v M' N' P' => Wp mX12_one (d + 1) 94 L (v.toList ++ S) M' N' P' Q) := wp_callV (As := [.int x0]) rfl dX12_one_91 rfl rfl (Or.inl ⟨_, _, _, hs, rfl⟩) rfl ⟨rfl, Nat.le_of_ble_eq_true rfl, Nat.le_of_ble_eq_true rfl⟩ rfl hS
theorem sX12_one_94 : Wp mX12_one d 94 L (.int x :: S) M N P Q = (if x = 0 then Wp mX12_one d 97 L S M N P Q else Wp mX12_one d 108 L S M N P Q) := wp_if_ne rfl dX12_one_94 rfl
theorem sX12_one_97 : Wp mX12_one d 97 (.ref r :: L) S M N P Q = Wp mX12_one d 98 (.ref r :: L) (.ref r :: S) M N P Q := wp_aload_n rfl dX12_one_97 rfl
theorem sX12_one_98 : Wp mX12_one d 98 L S M N P Q = Wp mX12_one d 100 L (.int 61 :: S) M N P Q := wp_bipush rfl dX12_one_98 rfl
theorem sX12_one_100 {x0 : Int32} (hs : shk r = (12, 0)) (hS : stk S ≤ 8) : Wp mX12_one (d + 1) 100 L (.int x0 :: .ref r :: S) M N P Q = Wp mX12_is d 0 [.ref r, .int x0] [] M N P (fun v M' N' P' => Wp mX12_one (d + 1) 103 L (v.toList ++ S) M' N' P' Q) := wp_callV (As := [.int x0]) rfl dX12_one_100 rfl rfl (Or.inl ⟨_, _, _, hs, rfl⟩) rfl ⟨rfl, Nat.le_of_ble_eq_true rfl, Nat.le_of_ble_eq_true rfl⟩ rfl hS
theorem sX12_one_103 : Wp mX12_one d 103 L (.int x :: S) M N P Q = (if x = 0 then Wp mX12_one d 106 L S M N P Q else Wp mX12_one d 108 L S M N P Q) := wp_if_ne rfl dX12_one_103 rfl
theorem sX12_one_106 : Wp mX12_one d 106 L S M N P Q = Wp mX12_one d 107 L (.int 0 :: S) M N P Q := wp_iconst rfl dX12_one_106 rfl
theorem sX12_one_107 (hb : bit x) : Wp mX12_one d 107 L [.int x] M N P Q = Q (some (.int x)) M N P := wp_iret rfl dX12_one_107 rfl (bit_n hb)
theorem sX12_one_108 : Wp mX12_one d 108 (.ref r :: L) S M N P Q = Wp mX12_one d 109 (.ref r :: L) (.ref r :: S) M N P Q := wp_aload_n rfl dX12_one_108 rfl
theorem sX12_one_109 : Wp mX12_one d 109 (.ref r :: L) S M N P Q = Wp mX12_one d 110 (.ref r :: L) (.ref r :: S) M N P Q := wp_aload_n rfl dX12_one_109 rfl
theorem sX12_one_110 (hs : shk r = (12, 0)) : Wp mX12_one d 110 L (.ref r :: S) M N P Q = Wp mX12_one d 113 L (.int (M r 27) :: S) M N P Q := wp_getfield rfl dX12_one_110 rfl rfl hs rfl
theorem sX12_one_113 {x0 : Int32} (hs : shk r = (12, 0)) (hS : stk S ≤ 8) : Wp mX12_one (d + 1) 113 L (.int x0 :: .ref r :: S) M N P Q = Wp mX12_sign d 0 [.ref r, .int x0] [] M N P (fun v M' N' P' => Wp mX12_one (d + 1) 116 L (v.toList ++ S) M' N' P' Q) := wp_callV (As := [.int x0]) rfl dX12_one_113 rfl rfl (Or.inl ⟨_, _, _, hs, rfl⟩) rfl ⟨rfl, Nat.le_of_ble_eq_true rfl, Nat.le_of_ble_eq_true rfl⟩ rfl hS
theorem sX12_one_116 (hn : nl a0 = true) : Wp mX12_one d 116 (a0 :: a1 :: L) (.int x :: S) M N P Q = Wp mX12_one d 117 (a0 :: .int x :: L) S M N P Q := wp_istore_n rfl dX12_one_116 (lenGt1 ..) (okst1 hn) rfl
theorem sX12_one_117 : Wp mX12_one d 117 (.ref r :: L) S M N P Q = Wp mX12_one d 118 (.ref r :: L) (.ref r :: S) M N P Q := wp_aload_n rfl dX12_one_117 rfl
theorem sX12_one_118 (hs : shk r = (12, 0)) (hS : stk S ≤ 8) : Wp mX12_one (d + 1) 118 L (.ref r :: S) M N P Q = Wp mX12_next d 0 [.ref r, .float 0, .float 0] [] M N P (fun v M' N' P' => Wp mX12_one (d + 1) 121 L (v.toList ++ S) M' N' P' Q) := wp_callV (As := []) rfl dX12_one_118 rfl rfl (Or.inl ⟨_, _, _, hs, rfl⟩) rfl ⟨rfl, Nat.le_of_ble_eq_true rfl, Nat.le_of_ble_eq_true rfl⟩ rfl hS
theorem sX12_one_121 : Wp mX12_one d 121 (.ref r :: L) S M N P Q = Wp mX12_one d 122 (.ref r :: L) (.ref r :: S) M N P Q := wp_aload_n rfl dX12_one_121 rfl
theorem sX12_one_122 (hs : shk r = (12, 0)) (hS : stk S ≤ 8) : Wp mX12_one (d + 1) 122 L (.ref r :: S) M N P Q = Wp mX12_readSum d 0 [.ref r, .float 0] [] M N P (fun v M' N' P' => Wp mX12_one (d + 1) 125 L (v.toList ++ S) M' N' P' Q) := wp_callV (As := []) rfl dX12_one_122 rfl rfl (Or.inl ⟨_, _, _, hs, rfl⟩) rfl ⟨rfl, Nat.le_of_ble_eq_true rfl, Nat.le_of_ble_eq_true rfl⟩ rfl hS
theorem sX12_one_125 : Wp mX12_one d 125 (.ref r :: L) S M N P Q = Wp mX12_one d 126 (.ref r :: L) (.ref r :: S) M N P Q := wp_aload_n rfl dX12_one_125 rfl
theorem sX12_one_126 (hs : shk r = (12, 0)) (hS : stk S ≤ 8) : Wp mX12_one (d + 1) 126 L (.ref r :: S) M N P Q = Wp mX12_isGood d 0 [.ref r] [] M N P (fun v M' N' P' => Wp mX12_one (d + 1) 129 L (v.toList ++ S) M' N' P' Q) := wp_callV (As := []) rfl dX12_one_126 rfl rfl (Or.inl ⟨_, _, _, hs, rfl⟩) rfl ⟨rfl, Nat.le_of_ble_eq_true rfl, Nat.le_of_ble_eq_true rfl⟩ rfl hS
theorem sX12_one_129 : Wp mX12_one d 129 L (.int x :: S) M N P Q = (if x = 0 then Wp mX12_one d 138 L S M N P Q else Wp mX12_one d 132 L S M N P Q) := wp_if_eq rfl dX12_one_129 rfl
theorem sX12_one_132 : Wp mX12_one d 132 (.ref r :: L) S M N P Q = Wp mX12_one d 133 (.ref r :: L) (.ref r :: S) M N P Q := wp_aload_n rfl dX12_one_132 rfl
theorem sX12_one_133 : Wp mX12_one d 133 (a0 :: .int x :: L) S M N P Q = Wp mX12_one d 134 (a0 :: .int x :: L) (.int x :: S) M N P Q := wp_iload_n rfl dX12_one_133 rfl
theorem sX12_one_134 : Wp mX12_one d 134 L S M N P Q = Wp mX12_one d 135 L (.int 0 :: S) M N P Q := wp_iconst rfl dX12_one_134 rfl
theorem sX12_one_135 {x0 : Int32} {x1 : Int32} (hs : shk r = (12, 0)) (hS : stk S ≤ 8) : Wp mX12_one (d + 1) 135 L (.int x1 :: .int x0 :: .ref r :: S) M N P Q = Wp mX12_step d 0 [.ref r, .int x0, .int x1] [] M N P (fun v M' N' P' => Wp mX12_one (d + 1) 138 L (v.toList ++ S) M' N' P' Q) := wp_callV (As := [.int x0, .int x1]) rfl dX12_one_135 rfl rfl (Or.inl ⟨_, _, _, hs, rfl⟩) rfl ⟨rfl, Nat.le_of_ble_eq_true rfl, Nat.le_of_ble_eq_true rfl⟩ rfl hS
theorem sX12_one_138 : Wp mX12_one d 138 L S M N P Q = Wp mX12_one d 139 L (.int 0 :: S) M N P Q := wp_iconst rfl dX12_one_138 rfl
theorem sX12_one_139 (hb : bit x) : Wp mX12_one d 139 L [.int x] M N P Q = Q (some (.int x)) M N P := wp_iret rfl dX12_one_139 rfl (bit_n hb)
theorem sX12_readSum_0 : Wp mX12_readSum d 0 (.ref r :: L) S M N P Q = Wp mX12_readSum d 1 (.ref r :: L) (.ref r :: S) M N P Q := wp_aload_n rfl dX12_readSum_0 rfl
theorem sX12_readSum_1 (hs : shk r = (12, 0)) (hS : stk S ≤ 8) : Wp mX12_readSum (d + 1) 1 L (.ref r :: S) M N P Q = Wp mX12_readTerm d 0 [.ref r, .float 0] [] M N P (fun v M' N' P' => Wp mX12_readSum (d + 1) 4 L (v.toList ++ S) M' N' P' Q) := wp_callV (As := []) rfl dX12_readSum_1 rfl rfl (Or.inl ⟨_, _, _, hs, rfl⟩) rfl ⟨rfl, Nat.le_of_ble_eq_true rfl, Nat.le_of_ble_eq_true rfl⟩ rfl hS
theorem sX12_readSum_4 : Wp mX12_readSum d 4 (.ref r :: L) S M N P Q = Wp mX12_readSum d 5 (.ref r :: L) (.ref r :: S) M N P Q := wp_aload_n rfl dX12_readSum_4 rfl
theorem sX12_readSum_5 (hs : shk r = (12, 0)) (hS : stk S ≤ 8) : Wp mX12_readSum (d + 1) 5 L (.ref r :: S) M N P Q = Wp mX12_isGood d 0 [.ref r] [] M N P (fun v M' N' P' => Wp mX12_readSum (d + 1) 8 L (v.toList ++ S) M' N' P' Q) := wp_callV (As := []) rfl dX12_readSum_5 rfl rfl (Or.inl ⟨_, _, _, hs, rfl⟩) rfl ⟨rfl, Nat.le_of_ble_eq_true rfl, Nat.le_of_ble_eq_true rfl⟩ rfl hS
theorem sX12_readSum_8 : Wp mX12_readSum d 8 L (.int x :: S) M N P Q = (if x = 0 then Wp mX12_readSum d 62 L S M N P Q else Wp mX12_readSum d 11 L S M N P Q) := wp_if_eq rfl dX12_readSum_8 rfl
theorem sX12_readSum_11 : Wp mX12_readSum d 11 (.ref r :: L) S M N P Q = Wp mX12_readSum d 12 (.ref r :: L) (.ref r :: S) M N P Q := wp_aload_n rfl dX12_readSum_11 rfl
theorem sX12_readSum_12 : Wp mX12_readSum d 12 L S M N P Q = Wp mX12_readSum d 14 L (.int 43 :: S) M N P Q := wp_bipush rfl dX12_readSum_12 rfl
theorem sX12_readSum_14 {x0 : Int32} (hs : shk r = (12, 0)) (hS : stk S ≤ 8) : Wp mX12_readSum (d + 1) 14 L (.int x0 :: .ref r :: S) M N P Q = Wp mX12_is d 0 [.ref r, .int x0] [] M N P (fun v M' N' P' => Wp mX12_readSum (d + 1) 17 L (v.toList ++ S) M' N' P' Q) := wp_callV (As := [.int x0]) rfl dX12_readSum_14 rfl rfl (Or.inl ⟨_, _, _, hs, rfl⟩) rfl ⟨rfl, Nat.le_of_ble_eq_true rfl, Nat.le_of_ble_eq_true rfl⟩ rfl hS
theorem sX12_readSum_17 : Wp mX12_readSum d 17 L (.int x :: S) M N P Q = (if x = 0 then Wp mX12_readSum d 20 L S M N P Q else Wp mX12_readSum d 29 L S M N P Q) := wp_if_ne rfl dX12_readSum_17 rfl
theorem sX12_readSum_20 : Wp mX12_readSum d 20 (.ref r :: L) S M N P Q = Wp mX12_readSum d 21 (.ref r :: L) (.ref r :: S) M N P Q := wp_aload_n rfl dX12_readSum_20 rfl
theorem sX12_readSum_21 : Wp mX12_readSum d 21 L S M N P Q = Wp mX12_readSum d 23 L (.int 45 :: S) M N P Q := wp_bipush rfl dX12_readSum_21 rfl
theorem sX12_readSum_23 {x0 : Int32} (hs : shk r = (12, 0)) (hS : stk S ≤ 8) : Wp mX12_readSum (d + 1) 23 L (.int x0 :: .ref r :: S) M N P Q = Wp mX12_is d 0 [.ref r, .int x0] [] M N P (fun v M' N' P' => Wp mX12_readSum (d + 1) 26 L (v.toList ++ S) M' N' P' Q) := wp_callV (As := [.int x0]) rfl dX12_readSum_23 rfl rfl (Or.inl ⟨_, _, _, hs, rfl⟩) rfl ⟨rfl, Nat.le_of_ble_eq_true rfl, Nat.le_of_ble_eq_true rfl⟩ rfl hS
theorem sX12_readSum_26 : Wp mX12_readSum d 26 L (.int x :: S) M N P Q = (if x = 0 then Wp mX12_readSum d 62 L S M N P Q else Wp mX12_readSum d 29 L S M N P Q) := wp_if_eq rfl dX12_readSum_26 rfl
theorem sX12_readSum_29 : Wp mX12_readSum d 29 (.ref r :: L) S M N P Q = Wp mX12_readSum d 30 (.ref r :: L) (.ref r :: S) M N P Q := wp_aload_n rfl dX12_readSum_29 rfl
theorem sX12_readSum_30 : Wp mX12_readSum d 30 (.ref r :: L) S M N P Q = Wp mX12_readSum d 31 (.ref r :: L) (.ref r :: S) M N P Q := wp_aload_n rfl dX12_readSum_30 rfl
theorem sX12_readSum_31 (hs : shk r = (12, 0)) : Wp mX12_readSum d 31 L (.ref r :: S) M N P Q = Wp mX12_readSum d 34 L (.int (M r 27) :: S) M N P Q := wp_getfield rfl dX12_readSum_31 rfl rfl hs rfl
theorem sX12_readSum_34 {x0 : Int32} (hs : shk r = (12, 0)) (hS : stk S ≤ 8) : Wp mX12_readSum (d + 1) 34 L (.int x0 :: .ref r :: S) M N P Q = Wp mX12_sign d 0 [.ref r, .int x0] [] M N P (fun v M' N' P' => Wp mX12_readSum (d + 1) 37 L (v.toList ++ S) M' N' P' Q) := wp_callV (As := [.int x0]) rfl dX12_readSum_34 rfl rfl (Or.inl ⟨_, _, _, hs, rfl⟩) rfl ⟨rfl, Nat.le_of_ble_eq_true rfl, Nat.le_of_ble_eq_true rfl⟩ rfl hS
theorem sX12_readSum_37 (hn : nl a0 = true) : Wp mX12_readSum d 37 (a0 :: a1 :: L) (.int x :: S) M N P Q = Wp mX12_readSum d 38 (a0 :: .int x :: L) S M N P Q := wp_istore_n rfl dX12_readSum_37 (lenGt1 ..) (okst1 hn) rfl
theorem sX12_readSum_38 : Wp mX12_readSum d 38 (.ref r :: L) S M N P Q = Wp mX12_readSum d 39 (.ref r :: L) (.ref r :: S) M N P Q := wp_aload_n rfl dX12_readSum_38 rfl
theorem sX12_readSum_39 (hs : shk r = (12, 0)) (hS : stk S ≤ 8) : Wp mX12_readSum (d + 1) 39 L (.ref r :: S) M N P Q = Wp mX12_next d 0 [.ref r, .float 0, .float 0] [] M N P (fun v M' N' P' => Wp mX12_readSum (d + 1) 42 L (v.toList ++ S) M' N' P' Q) := wp_callV (As := []) rfl dX12_readSum_39 rfl rfl (Or.inl ⟨_, _, _, hs, rfl⟩) rfl ⟨rfl, Nat.le_of_ble_eq_true rfl, Nat.le_of_ble_eq_true rfl⟩ rfl hS
theorem sX12_readSum_42 : Wp mX12_readSum d 42 (.ref r :: L) S M N P Q = Wp mX12_readSum d 43 (.ref r :: L) (.ref r :: S) M N P Q := wp_aload_n rfl dX12_readSum_42 rfl
theorem sX12_readSum_43 (hs : shk r = (12, 0)) (hS : stk S ≤ 8) : Wp mX12_readSum (d + 1) 43 L (.ref r :: S) M N P Q = Wp mX12_readTerm d 0 [.ref r, .float 0] [] M N P (fun v M' N' P' => Wp mX12_readSum (d + 1) 46 L (v.toList ++ S) M' N' P' Q) := wp_callV (As := []) rfl dX12_readSum_43 rfl rfl (Or.inl ⟨_, _, _, hs, rfl⟩) rfl ⟨rfl, Nat.le_of_ble_eq_true rfl, Nat.le_of_ble_eq_true rfl⟩ rfl hS
theorem sX12_readSum_46 : Wp mX12_readSum d 46 (.ref r :: L) S M N P Q = Wp mX12_readSum d 47 (.ref r :: L) (.ref r :: S) M N P Q := wp_aload_n rfl dX12_readSum_46 rfl
theorem sX12_readSum_47 (hs : shk r = (12, 0)) (hS : stk S ≤ 8) : Wp mX12_readSum (d + 1) 47 L (.ref r :: S) M N P Q = Wp mX12_isGood d 0 [.ref r] [] M N P (fun v M' N' P' => Wp mX12_readSum (d + 1) 50 L (v.toList ++ S) M' N' P' Q) := wp_callV (As := []) rfl dX12_readSum_47 rfl rfl (Or.inl ⟨_, _, _, hs, rfl⟩) rfl ⟨rfl, Nat.le_of_ble_eq_true rfl, Nat.le_of_ble_eq_true rfl⟩ rfl hS
theorem sX12_readSum_50 : Wp mX12_readSum d 50 L (.int x :: S) M N P Q = (if x = 0 then Wp mX12_readSum d 59 L S M N P Q else Wp mX12_readSum d 53 L S M N P Q) := wp_if_eq rfl dX12_readSum_50 rfl
theorem sX12_readSum_53 : Wp mX12_readSum d 53 (.ref r :: L) S M N P Q = Wp mX12_readSum d 54 (.ref r :: L) (.ref r :: S) M N P Q := wp_aload_n rfl dX12_readSum_53 rfl
theorem sX12_readSum_54 : Wp mX12_readSum d 54 (a0 :: .int x :: L) S M N P Q = Wp mX12_readSum d 55 (a0 :: .int x :: L) (.int x :: S) M N P Q := wp_iload_n rfl dX12_readSum_54 rfl
theorem sX12_readSum_55 : Wp mX12_readSum d 55 L S M N P Q = Wp mX12_readSum d 56 L (.int 0 :: S) M N P Q := wp_iconst rfl dX12_readSum_55 rfl
theorem sX12_readSum_56 {x0 : Int32} {x1 : Int32} (hs : shk r = (12, 0)) (hS : stk S ≤ 8) : Wp mX12_readSum (d + 1) 56 L (.int x1 :: .int x0 :: .ref r :: S) M N P Q = Wp mX12_step d 0 [.ref r, .int x0, .int x1] [] M N P (fun v M' N' P' => Wp mX12_readSum (d + 1) 59 L (v.toList ++ S) M' N' P' Q) := wp_callV (As := [.int x0, .int x1]) rfl dX12_readSum_56 rfl rfl (Or.inl ⟨_, _, _, hs, rfl⟩) rfl ⟨rfl, Nat.le_of_ble_eq_true rfl, Nat.le_of_ble_eq_true rfl⟩ rfl hS
theorem sX12_readSum_59 : Wp mX12_readSum d 59 L S M N P Q = Wp mX12_readSum d 4 L S M N P Q := wp_goto rfl dX12_readSum_59 rfl
theorem sX12_readSum_62 : Wp mX12_readSum d 62 L [] M N P Q = Q none M N P := wp_vret rfl dX12_readSum_62 rfl
theorem sX12_readTerm_0 : Wp mX12_readTerm d 0 (.ref r :: L) S M N P Q = Wp mX12_readTerm d 1 (.ref r :: L) (.ref r :: S) M N P Q := wp_aload_n rfl dX12_readTerm_0 rfl
theorem sX12_readTerm_1 (hs : shk r = (12, 0)) (hS : stk S ≤ 8) : Wp mX12_readTerm (d + 1) 1 L (.ref r :: S) M N P Q = Wp mX12_termHere d 0 [.ref r, .float 0] [] M N P (fun v M' N' P' => Wp mX12_readTerm (d + 1) 4 L (v.toList ++ S) M' N' P' Q) := wp_callV (As := []) rfl dX12_readTerm_1 rfl rfl (Or.inl ⟨_, _, _, hs, rfl⟩) rfl ⟨rfl, Nat.le_of_ble_eq_true rfl, Nat.le_of_ble_eq_true rfl⟩ rfl hS
theorem sX12_readTerm_4 (hn : nl a0 = true) : Wp mX12_readTerm d 4 (a0 :: a1 :: L) (.int x :: S) M N P Q = Wp mX12_readTerm d 5 (a0 :: .int x :: L) S M N P Q := wp_istore_n rfl dX12_readTerm_4 (lenGt1 ..) (okst1 hn) rfl
theorem sX12_readTerm_5 : Wp mX12_readTerm d 5 (.ref r :: L) S M N P Q = Wp mX12_readTerm d 6 (.ref r :: L) (.ref r :: S) M N P Q := wp_aload_n rfl dX12_readTerm_5 rfl
theorem sX12_readTerm_6 (hs : shk r = (12, 0)) : Wp mX12_readTerm d 6 L (.ref r :: S) M N P Q = Wp mX12_readTerm d 9 L (.int (M r 29) :: S) M N P Q := wp_getfield rfl dX12_readTerm_6 rfl rfl hs rfl
theorem sX12_readTerm_9 : Wp mX12_readTerm d 9 L S M N P Q = Wp mX12_readTerm d 10 L (.int 3 :: S) M N P Q := wp_iconst rfl dX12_readTerm_9 rfl
theorem sX12_readTerm_10 : Wp mX12_readTerm d 10 L (.int z :: .int x :: S) M N P Q = (if x = z then Wp mX12_readTerm d 17 L S M N P Q else Wp mX12_readTerm d 13 L S M N P Q) := wp_icmp_eq rfl dX12_readTerm_10 rfl
theorem sX12_readTerm_13 : Wp mX12_readTerm d 13 (a0 :: .int x :: L) S M N P Q = Wp mX12_readTerm d 14 (a0 :: .int x :: L) (.int x :: S) M N P Q := wp_iload_n rfl dX12_readTerm_13 rfl
theorem sX12_readTerm_14 : Wp mX12_readTerm d 14 L (.int x :: S) M N P Q = (if x < 0 then Wp mX12_readTerm d 26 L S M N P Q else Wp mX12_readTerm d 17 L S M N P Q) := wp_if_lt rfl dX12_readTerm_14 rfl
theorem sX12_readTerm_17 : Wp mX12_readTerm d 17 (.ref r :: L) S M N P Q = Wp mX12_readTerm d 18 (.ref r :: L) (.ref r :: S) M N P Q := wp_aload_n rfl dX12_readTerm_17 rfl
theorem sX12_readTerm_18 (hs : shk r = (12, 0)) : Wp mX12_readTerm d 18 L (.ref r :: S) M N P Q = Wp mX12_readTerm d 21 L (.int (M r 42) :: S) M N P Q := wp_getfield rfl dX12_readTerm_18 rfl rfl hs rfl
theorem sX12_readTerm_21 : Wp mX12_readTerm d 21 L S M N P Q = Wp mX12_readTerm d 23 L (.int 80 :: S) M N P Q := wp_bipush rfl dX12_readTerm_21 rfl
theorem sX12_readTerm_23 : Wp mX12_readTerm d 23 L (.int z :: .int x :: S) M N P Q = (if x = z then Wp mX12_readTerm d 26 L S M N P Q else Wp mX12_readTerm d 30 L S M N P Q) := wp_icmp_ne rfl dX12_readTerm_23 rfl
theorem sX12_readTerm_26 : Wp mX12_readTerm d 26 (.ref r :: L) S M N P Q = Wp mX12_readTerm d 27 (.ref r :: L) (.ref r :: S) M N P Q := wp_aload_n rfl dX12_readTerm_26 rfl
theorem sX12_readTerm_27 (hs : shk r = (12, 0)) (hS : stk S ≤ 8) : Wp mX12_readTerm (d + 1) 27 L (.ref r :: S) M N P Q = Wp mX12_wrong d 0 [.ref r] [] M N P (fun v M' N' P' => Wp mX12_readTerm (d + 1) 30 L (v.toList ++ S) M' N' P' Q) := wp_callV (As := []) rfl dX12_readTerm_27 rfl rfl (Or.inl ⟨_, _, _, hs, rfl⟩) rfl ⟨rfl, Nat.le_of_ble_eq_true rfl, Nat.le_of_ble_eq_true rfl⟩ rfl hS
theorem sX12_readTerm_30 : Wp mX12_readTerm d 30 (.ref r :: L) S M N P Q = Wp mX12_readTerm d 31 (.ref r :: L) (.ref r :: S) M N P Q := wp_aload_n rfl dX12_readTerm_30 rfl
theorem sX12_readTerm_31 (hs : shk r = (12, 0)) (hS : stk S ≤ 8) : Wp mX12_readTerm (d + 1) 31 L (.ref r :: S) M N P Q = Wp mX12_isGood d 0 [.ref r] [] M N P (fun v M' N' P' => Wp mX12_readTerm (d + 1) 34 L (v.toList ++ S) M' N' P' Q) := wp_callV (As := []) rfl dX12_readTerm_31 rfl rfl (Or.inl ⟨_, _, _, hs, rfl⟩) rfl ⟨rfl, Nat.le_of_ble_eq_true rfl, Nat.le_of_ble_eq_true rfl⟩ rfl hS
theorem sX12_readTerm_34 : Wp mX12_readTerm d 34 L (.int x :: S) M N P Q = (if x = 0 then Wp mX12_readTerm d 37 L S M N P Q else Wp mX12_readTerm d 38 L S M N P Q) := wp_if_ne rfl dX12_readTerm_34 rfl
theorem sX12_readTerm_37 : Wp mX12_readTerm d 37 L [] M N P Q = Q none M N P := wp_vret rfl dX12_readTerm_37 rfl
theorem sX12_readTerm_38 : Wp mX12_readTerm d 38 (.ref r :: L) S M N P Q = Wp mX12_readTerm d 39 (.ref r :: L) (.ref r :: S) M N P Q := wp_aload_n rfl dX12_readTerm_38 rfl
theorem sX12_readTerm_39 (hv : a0.category = 1) : Wp mX12_readTerm d 39 L (a0 :: S) M N P Q = Wp mX12_readTerm d 40 L (a0 :: a0 :: S) M N P Q := wp_dup rfl dX12_readTerm_39 hv
theorem sX12_readTerm_40 (hs : shk r = (12, 0)) : Wp mX12_readTerm d 40 L (.ref r :: S) M N P Q = Wp mX12_readTerm d 43 L (.int (M r 42) :: S) M N P Q := wp_getfield rfl dX12_readTerm_40 rfl rfl hs rfl
theorem sX12_readTerm_43 : Wp mX12_readTerm d 43 L S M N P Q = Wp mX12_readTerm d 44 L (.int 1 :: S) M N P Q := wp_iconst rfl dX12_readTerm_43 rfl
theorem sX12_readTerm_44 : Wp mX12_readTerm d 44 L (.int z :: .int x :: S) M N P Q = Wp mX12_readTerm d 45 L (.int (x + z) :: S) M N P Q := wp_iadd rfl dX12_readTerm_44
theorem sX12_readTerm_45 (hs : shk r = (12, 0)) : Wp mX12_readTerm d 45 L (.int x :: .ref r :: S) M N P Q = Wp mX12_readTerm d 48 L S (up2 M r 42 x) N P Q := wp_putI rfl dX12_readTerm_45 rfl rfl hs rfl ⟨_, _, _, _, rfl, by decide, rfl, tyX12_ok 42 (by decide), rfl, rfl⟩
theorem sX12_readTerm_48 : Wp mX12_readTerm d 48 (.ref r :: L) S M N P Q = Wp mX12_readTerm d 49 (.ref r :: L) (.ref r :: S) M N P Q := wp_aload_n rfl dX12_readTerm_48 rfl
theorem sX12_readTerm_49 : Wp mX12_readTerm d 49 (a0 :: .int x :: L) S M N P Q = Wp mX12_readTerm d 50 (a0 :: .int x :: L) (.int x :: S) M N P Q := wp_iload_n rfl dX12_readTerm_49 rfl
theorem sX12_readTerm_50 : Wp mX12_readTerm d 50 L (.int x :: S) M N P Q = (if 0 ≤ x then Wp mX12_readTerm d 58 L S M N P Q else Wp mX12_readTerm d 53 L S M N P Q) := wp_if_ge rfl dX12_readTerm_50 rfl
theorem sX12_readTerm_53 : Wp mX12_readTerm d 53 L S M N P Q = Wp mX12_readTerm d 55 L (.int 110 :: S) M N P Q := wp_bipush rfl dX12_readTerm_53 rfl
theorem sX12_readTerm_55 : Wp mX12_readTerm d 55 L S M N P Q = Wp mX12_readTerm d 60 L S M N P Q := wp_goto rfl dX12_readTerm_55 rfl
theorem sX12_readTerm_58 : Wp mX12_readTerm d 58 L S M N P Q = Wp mX12_readTerm d 60 L (.int 116 :: S) M N P Q := wp_bipush rfl dX12_readTerm_58 rfl
theorem sX12_readTerm_60 : Wp mX12_readTerm d 60 (a0 :: .int x :: L) S M N P Q = Wp mX12_readTerm d 61 (a0 :: .int x :: L) (.int x :: S) M N P Q := wp_iload_n rfl dX12_readTerm_60 rfl
theorem sX12_readTerm_61 : Wp mX12_readTerm d 61 L (.int x :: S) M N P Q = (if 0 ≤ x then Wp mX12_readTerm d 71 L S M N P Q else Wp mX12_readTerm d 64 L S M N P Q) := wp_if_ge rfl dX12_readTerm_61 rfl
theorem sX12_readTerm_64 : Wp mX12_readTerm d 64 (.ref r :: L) S M N P Q = Wp mX12_readTerm d 65 (.ref r :: L) (.ref r :: S) M N P Q := wp_aload_n rfl dX12_readTerm_64 rfl
theorem sX12_readTerm_65 (hs : shk r = (12, 0)) : Wp mX12_readTerm d 65 L (.ref r :: S) M N P Q = Wp mX12_readTerm d 68 L (.int (M r 30) :: S) M N P Q := wp_getfield rfl dX12_readTerm_65 rfl rfl hs rfl
theorem sX12_readTerm_68 : Wp mX12_readTerm d 68 L S M N P Q = Wp mX12_readTerm d 72 L S M N P Q := wp_goto rfl dX12_readTerm_68 rfl
theorem sX12_readTerm_71 : Wp mX12_readTerm d 71 (a0 :: .int x :: L) S M N P Q = Wp mX12_readTerm d 72 (a0 :: .int x :: L) (.int x :: S) M N P Q := wp_iload_n rfl dX12_readTerm_71 rfl
theorem sX12_readTerm_72 {x0 : Int32} {x1 : Int32} (hs : shk r = (12, 0)) (hS : stk S ≤ 8) : Wp mX12_readTerm (d + 1) 72 L (.int x1 :: .int x0 :: .ref r :: S) M N P Q = Wp mX12_step d 0 [.ref r, .int x0, .int x1] [] M N P (fun v M' N' P' => Wp mX12_readTerm (d + 1) 75 L (v.toList ++ S) M' N' P' Q) := wp_callV (As := [.int x0, .int x1]) rfl dX12_readTerm_72 rfl rfl (Or.inl ⟨_, _, _, hs, rfl⟩) rfl ⟨rfl, Nat.le_of_ble_eq_true rfl, Nat.le_of_ble_eq_true rfl⟩ rfl hS
theorem sX12_readTerm_75 : Wp mX12_readTerm d 75 (.ref r :: L) S M N P Q = Wp mX12_readTerm d 76 (.ref r :: L) (.ref r :: S) M N P Q := wp_aload_n rfl dX12_readTerm_75 rfl
theorem sX12_readTerm_76 (hs : shk r = (12, 0)) (hS : stk S ≤ 8) : Wp mX12_readTerm (d + 1) 76 L (.ref r :: S) M N P Q = Wp mX12_next d 0 [.ref r, .float 0, .float 0] [] M N P (fun v M' N' P' => Wp mX12_readTerm (d + 1) 79 L (v.toList ++ S) M' N' P' Q) := wp_callV (As := []) rfl dX12_readTerm_76 rfl rfl (Or.inl ⟨_, _, _, hs, rfl⟩) rfl ⟨rfl, Nat.le_of_ble_eq_true rfl, Nat.le_of_ble_eq_true rfl⟩ rfl hS
theorem sX12_readTerm_79 : Wp mX12_readTerm d 79 L [] M N P Q = Q none M N P := wp_vret rfl dX12_readTerm_79 rfl
theorem sX12_behind_0 : Wp mX12_behind d 0 (.ref r :: L) S M N P Q = Wp mX12_behind d 1 (.ref r :: L) (.ref r :: S) M N P Q := wp_aload_n rfl dX12_behind_0 rfl
theorem sX12_behind_1 : Wp mX12_behind d 1 L S M N P Q = Wp mX12_behind d 4 L (.long (6385252) :: S) M N P Q := wp_ldc2_w rfl dX12_behind_1 rfl rfl
theorem sX12_behind_4 {lx0 : Int64} (hs : shk r = (12, 0)) (hS : stk S ≤ 8) : Wp mX12_behind (d + 1) 4 L (.long lx0 :: .ref r :: S) M N P Q = Wp mX12_isWord d 0 [.ref r, .long lx0, .float 0] [] M N P (fun v M' N' P' => Wp mX12_behind (d + 1) 7 L (v.toList ++ S) M' N' P' Q) := wp_callV (As := [.long lx0]) rfl dX12_behind_4 rfl rfl (Or.inl ⟨_, _, _, hs, rfl⟩) rfl ⟨rfl, Nat.le_of_ble_eq_true rfl, Nat.le_of_ble_eq_true rfl⟩ rfl hS
theorem sX12_behind_7 : Wp mX12_behind d 7 L (.int x :: S) M N P Q = (if x = 0 then Wp mX12_behind d 14 L S M N P Q else Wp mX12_behind d 10 L S M N P Q) := wp_if_eq rfl dX12_behind_7 rfl
theorem sX12_behind_10 : Wp mX12_behind d 10 L S M N P Q = Wp mX12_behind d 11 L (.int 2 :: S) M N P Q := wp_iconst rfl dX12_behind_10 rfl
theorem sX12_behind_11 : Wp mX12_behind d 11 L S M N P Q = Wp mX12_behind d 29 L S M N P Q := wp_goto rfl dX12_behind_11 rfl
theorem sX12_behind_14 : Wp mX12_behind d 14 (.ref r :: L) S M N P Q = Wp mX12_behind d 15 (.ref r :: L) (.ref r :: S) M N P Q := wp_aload_n rfl dX12_behind_14 rfl
theorem sX12_behind_15 : Wp mX12_behind d 15 L S M N P Q = Wp mX12_behind d 18 L (.long (28530) :: S) M N P Q := wp_ldc2_w rfl dX12_behind_15 rfl rfl
theorem sX12_behind_18 {lx0 : Int64} (hs : shk r = (12, 0)) (hS : stk S ≤ 8) : Wp mX12_behind (d + 1) 18 L (.long lx0 :: .ref r :: S) M N P Q = Wp mX12_isWord d 0 [.ref r, .long lx0, .float 0] [] M N P (fun v M' N' P' => Wp mX12_behind (d + 1) 21 L (v.toList ++ S) M' N' P' Q) := wp_callV (As := [.long lx0]) rfl dX12_behind_18 rfl rfl (Or.inl ⟨_, _, _, hs, rfl⟩) rfl ⟨rfl, Nat.le_of_ble_eq_true rfl, Nat.le_of_ble_eq_true rfl⟩ rfl hS
theorem sX12_behind_21 : Wp mX12_behind d 21 L (.int x :: S) M N P Q = (if x = 0 then Wp mX12_behind d 28 L S M N P Q else Wp mX12_behind d 24 L S M N P Q) := wp_if_eq rfl dX12_behind_21 rfl
theorem sX12_behind_24 : Wp mX12_behind d 24 L S M N P Q = Wp mX12_behind d 25 L (.int 1 :: S) M N P Q := wp_iconst rfl dX12_behind_24 rfl
theorem sX12_behind_25 : Wp mX12_behind d 25 L S M N P Q = Wp mX12_behind d 29 L S M N P Q := wp_goto rfl dX12_behind_25 rfl
theorem sX12_behind_28 : Wp mX12_behind d 28 L S M N P Q = Wp mX12_behind d 29 L (.int 0 :: S) M N P Q := wp_iconst rfl dX12_behind_28 rfl
theorem sX12_behind_29 (hn : nl a0 = true) : Wp mX12_behind d 29 (a0 :: a1 :: L) (.int x :: S) M N P Q = Wp mX12_behind d 30 (a0 :: .int x :: L) S M N P Q := wp_istore_n rfl dX12_behind_29 (lenGt1 ..) (okst1 hn) rfl
theorem sX12_behind_30 : Wp mX12_behind d 30 (.ref r :: L) S M N P Q = Wp mX12_behind d 31 (.ref r :: L) (.ref r :: S) M N P Q := wp_aload_n rfl dX12_behind_30 rfl
theorem sX12_behind_31 (hs : shk r = (12, 0)) : Wp mX12_behind d 31 L (.ref r :: S) M N P Q = Wp mX12_behind d 34 L (.ref (P r 43) :: S) M N P Q := wp_getfield rfl dX12_behind_31 rfl rfl hs rfl
theorem sX12_behind_34 : Wp mX12_behind d 34 (.ref r :: L) S M N P Q = Wp mX12_behind d 35 (.ref r :: L) (.ref r :: S) M N P Q := wp_aload_n rfl dX12_behind_34 rfl
theorem sX12_behind_35 (hs : shk r = (12, 0)) : Wp mX12_behind d 35 L (.ref r :: S) M N P Q = Wp mX12_behind d 38 L (.int (M r 44) :: S) M N P Q := wp_getfield rfl dX12_behind_35 rfl rfl hs rfl
theorem sX12_behind_38 : Wp mX12_behind d 38 L S M N P Q = Wp mX12_behind d 39 L (.int 1 :: S) M N P Q := wp_iconst rfl dX12_behind_38 rfl
theorem sX12_behind_39 : Wp mX12_behind d 39 L (.int z :: .int x :: S) M N P Q = Wp mX12_behind d 40 L (.int (x - z) :: S) M N P Q := wp_isub rfl dX12_behind_39
theorem sX12_behind_40 (hs : (shk r).1 = 100) : Wp mX12_behind d 40 L (.int j :: .ref r :: S) M N P Q = (vp_in j (shk r).2 ∧ Wp mX12_behind d 41 L (.int (M r j.toNatClampNeg) :: S) M N P Q) := wp_iaload rfl dX12_behind_40 (kd hs)
theorem sX12_behind_41 : Wp mX12_behind d 41 L S M N P Q = Wp mX12_behind d 42 L (.int 3 :: S) M N P Q := wp_iconst rfl dX12_behind_41 rfl
theorem sX12_behind_42 : Wp mX12_behind d 42 L (.int z :: .int x :: S) M N P Q = (if z < x then Wp mX12_behind d 139 L S M N P Q else Wp mX12_behind d 45 L S M N P Q) := wp_icmp_gt rfl dX12_behind_42 rfl
theorem sX12_behind_45 : Wp mX12_behind d 45 (.ref r :: L) S M N P Q = Wp mX12_behind d 46 (.ref r :: L) (.ref r :: S) M N P Q := wp_aload_n rfl dX12_behind_45 rfl
theorem sX12_behind_46 (hs : shk r = (12, 0)) : Wp mX12_behind d 46 L (.ref r :: S) M N P Q = Wp mX12_behind d 49 L (.ref (P r 43) :: S) M N P Q := wp_getfield rfl dX12_behind_46 rfl rfl hs rfl
theorem sX12_behind_49 : Wp mX12_behind d 49 (.ref r :: L) S M N P Q = Wp mX12_behind d 50 (.ref r :: L) (.ref r :: S) M N P Q := wp_aload_n rfl dX12_behind_49 rfl
theorem sX12_behind_50 (hs : shk r = (12, 0)) : Wp mX12_behind d 50 L (.ref r :: S) M N P Q = Wp mX12_behind d 53 L (.int (M r 44) :: S) M N P Q := wp_getfield rfl dX12_behind_50 rfl rfl hs rfl
theorem sX12_behind_53 : Wp mX12_behind d 53 L S M N P Q = Wp mX12_behind d 54 L (.int 1 :: S) M N P Q := wp_iconst rfl dX12_behind_53 rfl
theorem sX12_behind_54 : Wp mX12_behind d 54 L (.int z :: .int x :: S) M N P Q = Wp mX12_behind d 55 L (.int (x - z) :: S) M N P Q := wp_isub rfl dX12_behind_54
theorem sX12_behind_55 (hs : (shk r).1 = 100) : Wp mX12_behind d 55 L (.int j :: .ref r :: S) M N P Q = (vp_in j (shk r).2 ∧ Wp mX12_behind d 56 L (.int (M r j.toNatClampNeg) :: S) M N P Q) := wp_iaload rfl dX12_behind_55 (kd hs)
theorem sX12_behind_56 : Wp mX12_behind d 56 (a0 :: .int x :: L) S M N P Q = Wp mX12_behind d 57 (a0 :: .int x :: L) (.int x :: S) M N P Q := wp_iload_n rfl dX12_behind_56 rfl
theorem sX12_behind_57 : Wp mX12_behind d 57 L (.int z :: .int x :: S) M N P Q = (if x < z then Wp mX12_behind d 139 L S M N P Q else Wp mX12_behind d 60 L S M N P Q) := wp_icmp_lt rfl dX12_behind_57 rfl
theorem sX12_behind_60 : Wp mX12_behind d 60 (.ref r :: L) S M N P Q = Wp mX12_behind d 61 (.ref r :: L) (.ref r :: S) M N P Q := wp_aload_n rfl dX12_behind_60 rfl
theorem sX12_behind_61 (hv : a0.category = 1) : Wp mX12_behind d 61 L (a0 :: S) M N P Q = Wp mX12_behind d 62 L (a0 :: a0 :: S) M N P Q := wp_dup rfl dX12_behind_61 hv
theorem sX12_behind_62 (hs : shk r = (12, 0)) : Wp mX12_behind d 62 L (.ref r :: S) M N P Q = Wp mX12_behind d 65 L (.int (M r 44) :: S) M N P Q := wp_getfield rfl dX12_behind_62 rfl rfl hs rfl
theorem sX12_behind_65 : Wp mX12_behind d 65 L S M N P Q = Wp mX12_behind d 66 L (.int 1 :: S) M N P Q := wp_iconst rfl dX12_behind_65 rfl
theorem sX12_behind_66 : Wp mX12_behind d 66 L (.int z :: .int x :: S) M N P Q = Wp mX12_behind d 67 L (.int (x - z) :: S) M N P Q := wp_isub rfl dX12_behind_66
theorem sX12_behind_67 (hs : shk r = (12, 0)) : Wp mX12_behind d 67 L (.int x :: .ref r :: S) M N P Q = Wp mX12_behind d 70 L S (up2 M r 44 x) N P Q := wp_putI rfl dX12_behind_67 rfl rfl hs rfl ⟨_, _, _, _, rfl, by decide, rfl, tyX12_ok 44 (by decide), rfl, rfl⟩
theorem sX12_behind_70 : Wp mX12_behind d 70 (.ref r :: L) S M N P Q = Wp mX12_behind d 71 (.ref r :: L) (.ref r :: S) M N P Q := wp_aload_n rfl dX12_behind_70 rfl
theorem sX12_behind_71 (hs : shk r = (12, 0)) : Wp mX12_behind d 71 L (.ref r :: S) M N P Q = Wp mX12_behind d 74 L (.ref (P r 43) :: S) M N P Q := wp_getfield rfl dX12_behind_71 rfl rfl hs rfl
theorem sX12_behind_74 : Wp mX12_behind d 74 (.ref r :: L) S M N P Q = Wp mX12_behind d 75 (.ref r :: L) (.ref r :: S) M N P Q := wp_aload_n rfl dX12_behind_74 rfl
theorem sX12_behind_75 (hs : shk r = (12, 0)) : Wp mX12_behind d 75 L (.ref r :: S) M N P Q = Wp mX12_behind d 78 L (.int (M r 44) :: S) M N P Q := wp_getfield rfl dX12_behind_75 rfl rfl hs rfl
theorem sX12_behind_78 (hs : (shk r).1 = 100) : Wp mX12_behind d 78 L (.int j :: .ref r :: S) M N P Q = (vp_in j (shk r).2 ∧ Wp mX12_behind d 79 L (.int (M r j.toNatClampNeg) :: S) M N P Q) := wp_iaload rfl dX12_behind_78 (kd hs)
theorem sX12_behind_79 : Wp mX12_behind d 79 L S M N P Q = Wp mX12_behind d 80 L (.int 3 :: S) M N P Q := wp_iconst rfl dX12_behind_79 rfl
theorem sX12_behind_80 : Wp mX12_behind d 80 L (.int z :: .int x :: S) M N P Q = (if x = z then Wp mX12_behind d 83 L S M N P Q else Wp mX12_behind d 93 L S M N P Q) := wp_icmp_ne rfl dX12_behind_80 rfl
theorem sX12_behind_83 : Wp mX12_behind d 83 (.ref r :: L) S M N P Q = Wp mX12_behind d 84 (.ref r :: L) (.ref r :: S) M N P Q := wp_aload_n rfl dX12_behind_83 rfl
theorem sX12_behind_84 (hv : a0.category = 1) : Wp mX12_behind d 84 L (a0 :: S) M N P Q = Wp mX12_behind d 85 L (a0 :: a0 :: S) M N P Q := wp_dup rfl dX12_behind_84 hv
theorem sX12_behind_85 (hs : shk r = (12, 0)) : Wp mX12_behind d 85 L (.ref r :: S) M N P Q = Wp mX12_behind d 88 L (.int (M r 45) :: S) M N P Q := wp_getfield rfl dX12_behind_85 rfl rfl hs rfl
theorem sX12_behind_88 : Wp mX12_behind d 88 L S M N P Q = Wp mX12_behind d 89 L (.int 1 :: S) M N P Q := wp_iconst rfl dX12_behind_88 rfl
theorem sX12_behind_89 : Wp mX12_behind d 89 L (.int z :: .int x :: S) M N P Q = Wp mX12_behind d 90 L (.int (x - z) :: S) M N P Q := wp_isub rfl dX12_behind_89
theorem sX12_behind_90 (hs : shk r = (12, 0)) : Wp mX12_behind d 90 L (.int x :: .ref r :: S) M N P Q = Wp mX12_behind d 93 L S (up2 M r 45 x) N P Q := wp_putI rfl dX12_behind_90 rfl rfl hs rfl ⟨_, _, _, _, rfl, by decide, rfl, tyX12_ok 45 (by decide), rfl, rfl⟩
theorem sX12_behind_93 : Wp mX12_behind d 93 (.ref r :: L) S M N P Q = Wp mX12_behind d 94 (.ref r :: L) (.ref r :: S) M N P Q := wp_aload_n rfl dX12_behind_93 rfl
theorem sX12_behind_94 : Wp mX12_behind d 94 (.ref r :: L) S M N P Q = Wp mX12_behind d 95 (.ref r :: L) (.ref r :: S) M N P Q := wp_aload_n rfl dX12_behind_94 rfl
theorem sX12_behind_95 (hs : shk r = (12, 0)) : Wp mX12_behind d 95 L (.ref r :: S) M N P Q = Wp mX12_behind d 98 L (.ref (P r 43) :: S) M N P Q := wp_getfield rfl dX12_behind_95 rfl rfl hs rfl
theorem sX12_behind_98 : Wp mX12_behind d 98 (.ref r :: L) S M N P Q = Wp mX12_behind d 99 (.ref r :: L) (.ref r :: S) M N P Q := wp_aload_n rfl dX12_behind_98 rfl
theorem sX12_behind_99 (hs : shk r = (12, 0)) : Wp mX12_behind d 99 L (.ref r :: S) M N P Q = Wp mX12_behind d 102 L (.int (M r 44) :: S) M N P Q := wp_getfield rfl dX12_behind_99 rfl rfl hs rfl
theorem sX12_behind_102 (hs : (shk r).1 = 100) : Wp mX12_behind d 102 L (.int j :: .ref r :: S) M N P Q = (vp_in j (shk r).2 ∧ Wp mX12_behind d 103 L (.int (M r j.toNatClampNeg) :: S) M N P Q) := wp_iaload rfl dX12_behind_102 (kd hs)
theorem sX12_behind_103 : Wp mX12_behind d 103 L S M N P Q = Wp mX12_behind d 104 L (.int 3 :: S) M N P Q := wp_iconst rfl dX12_behind_103 rfl
theorem sX12_behind_104 : Wp mX12_behind d 104 L (.int z :: .int x :: S) M N P Q = (if x = z then Wp mX12_behind d 107 L S M N P Q else Wp mX12_behind d 112 L S M N P Q) := wp_icmp_ne rfl dX12_behind_104 rfl
theorem sX12_behind_107 : Wp mX12_behind d 107 L S M N P Q = Wp mX12_behind d 109 L (.int 126 :: S) M N P Q := wp_bipush rfl dX12_behind_107 rfl
theorem sX12_behind_109 : Wp mX12_behind d 109 L S M N P Q = Wp mX12_behind d 132 L S M N P Q := wp_goto rfl dX12_behind_109 rfl
theorem sX12_behind_112 : Wp mX12_behind d 112 (.ref r :: L) S M N P Q = Wp mX12_behind d 113 (.ref r :: L) (.ref r :: S) M N P Q := wp_aload_n rfl dX12_behind_112 rfl
theorem sX12_behind_113 (hs : shk r = (12, 0)) : Wp mX12_behind d 113 L (.ref r :: S) M N P Q = Wp mX12_behind d 116 L (.ref (P r 43) :: S) M N P Q := wp_getfield rfl dX12_behind_113 rfl rfl hs rfl
theorem sX12_behind_116 : Wp mX12_behind d 116 (.ref r :: L) S M N P Q = Wp mX12_behind d 117 (.ref r :: L) (.ref r :: S) M N P Q := wp_aload_n rfl dX12_behind_116 rfl
theorem sX12_behind_117 (hs : shk r = (12, 0)) : Wp mX12_behind d 117 L (.ref r :: S) M N P Q = Wp mX12_behind d 120 L (.int (M r 44) :: S) M N P Q := wp_getfield rfl dX12_behind_117 rfl rfl hs rfl
theorem sX12_behind_120 (hs : (shk r).1 = 100) : Wp mX12_behind d 120 L (.int j :: .ref r :: S) M N P Q = (vp_in j (shk r).2 ∧ Wp mX12_behind d 121 L (.int (M r j.toNatClampNeg) :: S) M N P Q) := wp_iaload rfl dX12_behind_120 (kd hs)
theorem sX12_behind_121 : Wp mX12_behind d 121 L S M N P Q = Wp mX12_behind d 122 L (.int 2 :: S) M N P Q := wp_iconst rfl dX12_behind_121 rfl
theorem sX12_behind_122 : Wp mX12_behind d 122 L (.int z :: .int x :: S) M N P Q = (if x = z then Wp mX12_behind d 125 L S M N P Q else Wp mX12_behind d 130 L S M N P Q) := wp_icmp_ne rfl dX12_behind_122 rfl
theorem sX12_behind_125 : Wp mX12_behind d 125 L S M N P Q = Wp mX12_behind d 127 L (.int 38 :: S) M N P Q := wp_bipush rfl dX12_behind_125 rfl
theorem sX12_behind_127 : Wp mX12_behind d 127 L S M N P Q = Wp mX12_behind d 132 L S M N P Q := wp_goto rfl dX12_behind_127 rfl
theorem sX12_behind_130 : Wp mX12_behind d 130 L S M N P Q = Wp mX12_behind d 132 L (.int 124 :: S) M N P Q := wp_bipush rfl dX12_behind_130 rfl
theorem sX12_behind_132 : Wp mX12_behind d 132 L S M N P Q = Wp mX12_behind d 133 L (.int 0 :: S) M N P Q := wp_iconst rfl dX12_behind_132 rfl
theorem sX12_behind_133 {x0 : Int32} {x1 : Int32} (hs : shk r = (12, 0)) (hS : stk S ≤ 8) : Wp mX12_behind (d + 1) 133 L (.int x1 :: .int x0 :: .ref r :: S) M N P Q = Wp mX12_step d 0 [.ref r, .int x0, .int x1] [] M N P (fun v M' N' P' => Wp mX12_behind (d + 1) 136 L (v.toList ++ S) M' N' P' Q) := wp_callV (As := [.int x0, .int x1]) rfl dX12_behind_133 rfl rfl (Or.inl ⟨_, _, _, hs, rfl⟩) rfl ⟨rfl, Nat.le_of_ble_eq_true rfl, Nat.le_of_ble_eq_true rfl⟩ rfl hS
theorem sX12_behind_136 : Wp mX12_behind d 136 L S M N P Q = Wp mX12_behind d 30 L S M N P Q := wp_goto rfl dX12_behind_136 rfl
theorem sX12_behind_139 : Wp mX12_behind d 139 (a0 :: .int x :: L) S M N P Q = Wp mX12_behind d 140 (a0 :: .int x :: L) (.int x :: S) M N P Q := wp_iload_n rfl dX12_behind_139 rfl
theorem sX12_behind_140 : Wp mX12_behind d 140 L (.int x :: S) M N P Q = (if x ≤ 0 then Wp mX12_behind d 154 L S M N P Q else Wp mX12_behind d 143 L S M N P Q) := wp_if_le rfl dX12_behind_140 rfl
theorem sX12_behind_143 : Wp mX12_behind d 143 (.ref r :: L) S M N P Q = Wp mX12_behind d 144 (.ref r :: L) (.ref r :: S) M N P Q := wp_aload_n rfl dX12_behind_143 rfl
theorem sX12_behind_144 : Wp mX12_behind d 144 (a0 :: .int x :: L) S M N P Q = Wp mX12_behind d 145 (a0 :: .int x :: L) (.int x :: S) M N P Q := wp_iload_n rfl dX12_behind_144 rfl
theorem sX12_behind_145 {x0 : Int32} (hs : shk r = (12, 0)) (hS : stk S ≤ 8) : Wp mX12_behind (d + 1) 145 L (.int x0 :: .ref r :: S) M N P Q = Wp mX12_pile d 0 [.ref r, .int x0] [] M N P (fun v M' N' P' => Wp mX12_behind (d + 1) 148 L (v.toList ++ S) M' N' P' Q) := wp_callV (As := [.int x0]) rfl dX12_behind_145 rfl rfl (Or.inl ⟨_, _, _, hs, rfl⟩) rfl ⟨rfl, Nat.le_of_ble_eq_true rfl, Nat.le_of_ble_eq_true rfl⟩ rfl hS
theorem sX12_behind_148 : Wp mX12_behind d 148 (.ref r :: L) S M N P Q = Wp mX12_behind d 149 (.ref r :: L) (.ref r :: S) M N P Q := wp_aload_n rfl dX12_behind_148 rfl
theorem sX12_behind_149 (hs : shk r = (12, 0)) (hS : stk S ≤ 8) : Wp mX12_behind (d + 1) 149 L (.ref r :: S) M N P Q = Wp mX12_next d 0 [.ref r, .float 0, .float 0] [] M N P (fun v M' N' P' => Wp mX12_behind (d + 1) 152 L (v.toList ++ S) M' N' P' Q) := wp_callV (As := []) rfl dX12_behind_149 rfl rfl (Or.inl ⟨_, _, _, hs, rfl⟩) rfl ⟨rfl, Nat.le_of_ble_eq_true rfl, Nat.le_of_ble_eq_true rfl⟩ rfl hS
theorem sX12_behind_152 : Wp mX12_behind d 152 L S M N P Q = Wp mX12_behind d 153 L (.int 1 :: S) M N P Q := wp_iconst rfl dX12_behind_152 rfl
theorem sX12_behind_153 (hb : bit x) : Wp mX12_behind d 153 L [.int x] M N P Q = Q (some (.int x)) M N P := wp_iret rfl dX12_behind_153 rfl (bit_n hb)
theorem sX12_behind_154 : Wp mX12_behind d 154 (.ref r :: L) S M N P Q = Wp mX12_behind d 155 (.ref r :: L) (.ref r :: S) M N P Q := wp_aload_n rfl dX12_behind_154 rfl
theorem sX12_behind_155 (hv : a0.category = 1) : Wp mX12_behind d 155 L (a0 :: S) M N P Q = Wp mX12_behind d 156 L (a0 :: a0 :: S) M N P Q := wp_dup rfl dX12_behind_155 hv
theorem sX12_behind_156 (hs : shk r = (12, 0)) : Wp mX12_behind d 156 L (.ref r :: S) M N P Q = Wp mX12_behind d 159 L (.int (M r 44) :: S) M N P Q := wp_getfield rfl dX12_behind_156 rfl rfl hs rfl
theorem sX12_behind_159 : Wp mX12_behind d 159 L S M N P Q = Wp mX12_behind d 160 L (.int 1 :: S) M N P Q := wp_iconst rfl dX12_behind_159 rfl
theorem sX12_behind_160 : Wp mX12_behind d 160 L (.int z :: .int x :: S) M N P Q = Wp mX12_behind d 161 L (.int (x - z) :: S) M N P Q := wp_isub rfl dX12_behind_160
theorem sX12_behind_161 (hs : shk r = (12, 0)) : Wp mX12_behind d 161 L (.int x :: .ref r :: S) M N P Q = Wp mX12_behind d 164 L S (up2 M r 44 x) N P Q := wp_putI rfl dX12_behind_161 rfl rfl hs rfl ⟨_, _, _, _, rfl, by decide, rfl, tyX12_ok 44 (by decide), rfl, rfl⟩
theorem sX12_behind_164 : Wp mX12_behind d 164 (.ref r :: L) S M N P Q = Wp mX12_behind d 165 (.ref r :: L) (.ref r :: S) M N P Q := wp_aload_n rfl dX12_behind_164 rfl
theorem sX12_behind_165 (hs : shk r = (12, 0)) : Wp mX12_behind d 165 L (.ref r :: S) M N P Q = Wp mX12_behind d 168 L (.ref (P r 43) :: S) M N P Q := wp_getfield rfl dX12_behind_165 rfl rfl hs rfl
theorem sX12_behind_168 : Wp mX12_behind d 168 (.ref r :: L) S M N P Q = Wp mX12_behind d 169 (.ref r :: L) (.ref r :: S) M N P Q := wp_aload_n rfl dX12_behind_168 rfl
theorem sX12_behind_169 (hs : shk r = (12, 0)) : Wp mX12_behind d 169 L (.ref r :: S) M N P Q = Wp mX12_behind d 172 L (.int (M r 44) :: S) M N P Q := wp_getfield rfl dX12_behind_169 rfl rfl hs rfl
theorem sX12_behind_172 (hs : (shk r).1 = 100) : Wp mX12_behind d 172 L (.int j :: .ref r :: S) M N P Q = (vp_in j (shk r).2 ∧ Wp mX12_behind d 173 L (.int (M r j.toNatClampNeg) :: S) M N P Q) := wp_iaload rfl dX12_behind_172 (kd hs)
theorem sX12_behind_173 : Wp mX12_behind d 173 L S M N P Q = Wp mX12_behind d 174 L (.int 4 :: S) M N P Q := wp_iconst rfl dX12_behind_173 rfl
theorem sX12_behind_174 : Wp mX12_behind d 174 L (.int z :: .int x :: S) M N P Q = (if x = z then Wp mX12_behind d 177 L S M N P Q else Wp mX12_behind d 197 L S M N P Q) := wp_icmp_ne rfl dX12_behind_174 rfl
theorem sX12_behind_177 : Wp mX12_behind d 177 (.ref r :: L) S M N P Q = Wp mX12_behind d 178 (.ref r :: L) (.ref r :: S) M N P Q := wp_aload_n rfl dX12_behind_177 rfl
theorem sX12_behind_178 (hv : a0.category = 1) : Wp mX12_behind d 178 L (a0 :: S) M N P Q = Wp mX12_behind d 179 L (a0 :: a0 :: S) M N P Q := wp_dup rfl dX12_behind_178 hv
theorem sX12_behind_179 (hs : shk r = (12, 0)) : Wp mX12_behind d 179 L (.ref r :: S) M N P Q = Wp mX12_behind d 182 L (.int (M r 45) :: S) M N P Q := wp_getfield rfl dX12_behind_179 rfl rfl hs rfl
theorem sX12_behind_182 : Wp mX12_behind d 182 L S M N P Q = Wp mX12_behind d 183 L (.int 1 :: S) M N P Q := wp_iconst rfl dX12_behind_182 rfl
theorem sX12_behind_183 : Wp mX12_behind d 183 L (.int z :: .int x :: S) M N P Q = Wp mX12_behind d 184 L (.int (x - z) :: S) M N P Q := wp_isub rfl dX12_behind_183
theorem sX12_behind_184 (hs : shk r = (12, 0)) : Wp mX12_behind d 184 L (.int x :: .ref r :: S) M N P Q = Wp mX12_behind d 187 L S (up2 M r 45 x) N P Q := wp_putI rfl dX12_behind_184 rfl rfl hs rfl ⟨_, _, _, _, rfl, by decide, rfl, tyX12_ok 45 (by decide), rfl, rfl⟩
theorem sX12_behind_187 : Wp mX12_behind d 187 (.ref r :: L) S M N P Q = Wp mX12_behind d 188 (.ref r :: L) (.ref r :: S) M N P Q := wp_aload_n rfl dX12_behind_187 rfl
theorem sX12_behind_188 : Wp mX12_behind d 188 (.ref r :: L) S M N P Q = Wp mX12_behind d 189 (.ref r :: L) (.ref r :: S) M N P Q := wp_aload_n rfl dX12_behind_188 rfl
theorem sX12_behind_189 : Wp mX12_behind d 189 L S M N P Q = Wp mX12_behind d 191 L (.int 41 :: S) M N P Q := wp_bipush rfl dX12_behind_189 rfl
theorem sX12_behind_191 {x0 : Int32} (hs : shk r = (12, 0)) (hS : stk S ≤ 8) : Wp mX12_behind (d + 1) 191 L (.int x0 :: .ref r :: S) M N P Q = Wp mX12_is d 0 [.ref r, .int x0] [] M N P (fun v M' N' P' => Wp mX12_behind (d + 1) 194 L (v.toList ++ S) M' N' P' Q) := wp_callV (As := [.int x0]) rfl dX12_behind_191 rfl rfl (Or.inl ⟨_, _, _, hs, rfl⟩) rfl ⟨rfl, Nat.le_of_ble_eq_true rfl, Nat.le_of_ble_eq_true rfl⟩ rfl hS
theorem sX12_behind_194 {x0 : Int32} (hs : shk r = (12, 0)) (hS : stk S ≤ 8) : Wp mX12_behind (d + 1) 194 L (.int x0 :: .ref r :: S) M N P Q = Wp mX12_must d 0 [.ref r, .int x0] [] M N P (fun v M' N' P' => Wp mX12_behind (d + 1) 197 L (v.toList ++ S) M' N' P' Q) := wp_callV (As := [.int x0]) rfl dX12_behind_194 rfl rfl (Or.inl ⟨_, _, _, hs, rfl⟩) rfl ⟨rfl, Nat.le_of_ble_eq_true rfl, Nat.le_of_ble_eq_true rfl⟩ rfl hS
theorem sX12_behind_197 : Wp mX12_behind d 197 L S M N P Q = Wp mX12_behind d 198 L (.int 0 :: S) M N P Q := wp_iconst rfl dX12_behind_197 rfl
theorem sX12_behind_198 (hb : bit x) : Wp mX12_behind d 198 L [.int x] M N P Q = Q (some (.int x)) M N P := wp_iret rfl dX12_behind_198 rfl (bit_n hb)
theorem sX12_fault_0 : Wp mX12_fault d 0 (a0 :: .int x :: L) S M N P Q = Wp mX12_fault d 1 (a0 :: .int x :: L) (.int x :: S) M N P Q := wp_iload_n rfl dX12_fault_0 rfl
theorem sX12_fault_1 : Wp mX12_fault d 1 L (.int x :: S) M N P Q = (if x = 0 then Wp mX12_fault d 4 L S M N P Q else Wp mX12_fault d 11 L S M N P Q) := wp_if_ne rfl dX12_fault_1 rfl
theorem sX12_fault_4 : Wp mX12_fault d 4 (.ref r :: L) S M N P Q = Wp mX12_fault d 5 (.ref r :: L) (.ref r :: S) M N P Q := wp_aload_n rfl dX12_fault_4 rfl
theorem sX12_fault_5 (hs : shk r = (12, 0)) : Wp mX12_fault d 5 L (.ref r :: S) M N P Q = Wp mX12_fault d 8 L (.int (M r 25) :: S) M N P Q := wp_getfield rfl dX12_fault_5 rfl rfl hs rfl
theorem sX12_fault_8 : Wp mX12_fault d 8 L S M N P Q = Wp mX12_fault d 24 L S M N P Q := wp_goto rfl dX12_fault_8 rfl
theorem sX12_fault_11 : Wp mX12_fault d 11 (a0 :: .int x :: L) S M N P Q = Wp mX12_fault d 12 (a0 :: .int x :: L) (.int x :: S) M N P Q := wp_iload_n rfl dX12_fault_11 rfl
theorem sX12_fault_12 : Wp mX12_fault d 12 L S M N P Q = Wp mX12_fault d 13 L (.int 1 :: S) M N P Q := wp_iconst rfl dX12_fault_12 rfl
theorem sX12_fault_13 : Wp mX12_fault d 13 L (.int z :: .int x :: S) M N P Q = (if x = z then Wp mX12_fault d 16 L S M N P Q else Wp mX12_fault d 23 L S M N P Q) := wp_icmp_ne rfl dX12_fault_13 rfl
theorem sX12_fault_16 : Wp mX12_fault d 16 (.ref r :: L) S M N P Q = Wp mX12_fault d 17 (.ref r :: L) (.ref r :: S) M N P Q := wp_aload_n rfl dX12_fault_16 rfl
theorem sX12_fault_17 (hs : shk r = (12, 0)) : Wp mX12_fault d 17 L (.ref r :: S) M N P Q = Wp mX12_fault d 20 L (.int (M r 26) :: S) M N P Q := wp_getfield rfl dX12_fault_17 rfl rfl hs rfl
theorem sX12_fault_20 : Wp mX12_fault d 20 L S M N P Q = Wp mX12_fault d 24 L S M N P Q := wp_goto rfl dX12_fault_20 rfl
theorem sX12_fault_23 : Wp mX12_fault d 23 L S M N P Q = Wp mX12_fault d 24 L (.int (-1) :: S) M N P Q := wp_iconst rfl dX12_fault_23 rfl
theorem sX12_fault_24 : Wp mX12_fault d 24 L [.int x] M N P Q = Q (some (.int x)) M N P := wp_iret rfl dX12_fault_24 rfl rfl
theorem sX12_two_0 : Wp mX12_two d 0 (.int x :: L) S M N P Q = Wp mX12_two d 1 (.int x :: L) (.int x :: S) M N P Q := wp_iload_n rfl dX12_two_0 rfl
theorem sX12_two_1 : Wp mX12_two d 1 L (.int x :: S) M N P Q = (if x = 38 then Wp mX12_two d 101 L S M N P Q else if x = 43 then Wp mX12_two d 60 L S M N P Q else if x = 45 then Wp mX12_two d 64 L S M N P Q else if x = 60 then Wp mX12_two d 68 L S M N P Q else if x = 61 then Wp mX12_two d 90 L S M N P Q else if x = 62 then Wp mX12_two d 79 L S M N P Q else Wp mX12_two d 115 L S M N P Q) := by
  by_cases h0 : x = 38
  · rw [if_pos h0]; subst h0; exact wp_look rfl dX12_two_1 (by decide) (by decide)
  by_cases h1 : x = 43
  · rw [if_neg h0, if_pos h1]; subst h1; exact wp_look rfl dX12_two_1 (by decide) (by decide)
  by_cases h2 : x = 45
  · rw [if_neg h0, if_neg h1, if_pos h2]; subst h2; exact wp_look rfl dX12_two_1 (by decide) (by decide)
  by_cases h3 : x = 60
  · rw [if_neg h0, if_neg h1, if_neg h2, if_pos h3]; subst h3; exact wp_look rfl dX12_two_1 (by decide) (by decide)
  by_cases h4 : x = 61
  · rw [if_neg h0, if_neg h1, if_neg h2, if_neg h3, if_pos h4]; subst h4; exact wp_look rfl dX12_two_1 (by decide) (by decide)
  by_cases h5 : x = 62
  · rw [if_neg h0, if_neg h1, if_neg h2, if_neg h3, if_neg h4, if_pos h5]; subst h5; exact wp_look rfl dX12_two_1 (by decide) (by decide)
  rw [if_neg h0, if_neg h1, if_neg h2, if_neg h3, if_neg h4, if_neg h5]
  refine wp_look rfl dX12_two_1 (by decide) ?_
  rw [show (#[(38, 100), (43, 59), (45, 63), (60, 67), (61, 89), (62, 78)] : Array (Int × Int)).toList = [(38, 100), (43, 59), (45, 63), (60, 67), (61, 89), (62, 78)] from rfl, lv_osw h0 (show (38 : Int32).toInt = 38 by decide), lv_osw h1 (show (43 : Int32).toInt = 43 by decide), lv_osw h2 (show (45 : Int32).toInt = 45 by decide), lv_osw h3 (show (60 : Int32).toInt = 60 by decide), lv_osw h4 (show (61 : Int32).toInt = 61 by decide), lv_osw h5 (show (62 : Int32).toInt = 62 by decide)]
  rfl
theorem sX12_two_60 : Wp mX12_two d 60 (a0 :: .int x :: L) S M N P Q = Wp mX12_two d 61 (a0 :: .int x :: L) (.int x :: S) M N P Q := wp_iload_n rfl dX12_two_60 rfl
theorem sX12_two_61 : Wp mX12_two d 61 (a0 :: a1 :: .int x :: L) S M N P Q = Wp mX12_two d 62 (a0 :: a1 :: .int x :: L) (.int x :: S) M N P Q := wp_iload_n rfl dX12_two_61 rfl
theorem sX12_two_62 : Wp mX12_two d 62 L (.int z :: .int x :: S) M N P Q = Wp mX12_two d 63 L (.int (x + z) :: S) M N P Q := wp_iadd rfl dX12_two_62
theorem sX12_two_63 : Wp mX12_two d 63 L [.int x] M N P Q = Q (some (.int x)) M N P := wp_iret rfl dX12_two_63 rfl rfl
theorem sX12_two_64 : Wp mX12_two d 64 (a0 :: .int x :: L) S M N P Q = Wp mX12_two d 65 (a0 :: .int x :: L) (.int x :: S) M N P Q := wp_iload_n rfl dX12_two_64 rfl
theorem sX12_two_65 : Wp mX12_two d 65 (a0 :: a1 :: .int x :: L) S M N P Q = Wp mX12_two d 66 (a0 :: a1 :: .int x :: L) (.int x :: S) M N P Q := wp_iload_n rfl dX12_two_65 rfl
theorem sX12_two_66 : Wp mX12_two d 66 L (.int z :: .int x :: S) M N P Q = Wp mX12_two d 67 L (.int (x - z) :: S) M N P Q := wp_isub rfl dX12_two_66
theorem sX12_two_67 : Wp mX12_two d 67 L [.int x] M N P Q = Q (some (.int x)) M N P := wp_iret rfl dX12_two_67 rfl rfl
theorem sX12_two_68 : Wp mX12_two d 68 (a0 :: .int x :: L) S M N P Q = Wp mX12_two d 69 (a0 :: .int x :: L) (.int x :: S) M N P Q := wp_iload_n rfl dX12_two_68 rfl
theorem sX12_two_69 : Wp mX12_two d 69 (a0 :: a1 :: .int x :: L) S M N P Q = Wp mX12_two d 70 (a0 :: a1 :: .int x :: L) (.int x :: S) M N P Q := wp_iload_n rfl dX12_two_69 rfl
theorem sX12_two_70 : Wp mX12_two d 70 L (.int z :: .int x :: S) M N P Q = (if z ≤ x then Wp mX12_two d 77 L S M N P Q else Wp mX12_two d 73 L S M N P Q) := wp_icmp_ge rfl dX12_two_70 rfl
theorem sX12_two_73 : Wp mX12_two d 73 L S M N P Q = Wp mX12_two d 74 L (.int 1 :: S) M N P Q := wp_iconst rfl dX12_two_73 rfl
theorem sX12_two_74 : Wp mX12_two d 74 L S M N P Q = Wp mX12_two d 78 L S M N P Q := wp_goto rfl dX12_two_74 rfl
theorem sX12_two_77 : Wp mX12_two d 77 L S M N P Q = Wp mX12_two d 78 L (.int 0 :: S) M N P Q := wp_iconst rfl dX12_two_77 rfl
theorem sX12_two_78 : Wp mX12_two d 78 L [.int x] M N P Q = Q (some (.int x)) M N P := wp_iret rfl dX12_two_78 rfl rfl
theorem sX12_two_79 : Wp mX12_two d 79 (a0 :: .int x :: L) S M N P Q = Wp mX12_two d 80 (a0 :: .int x :: L) (.int x :: S) M N P Q := wp_iload_n rfl dX12_two_79 rfl
theorem sX12_two_80 : Wp mX12_two d 80 (a0 :: a1 :: .int x :: L) S M N P Q = Wp mX12_two d 81 (a0 :: a1 :: .int x :: L) (.int x :: S) M N P Q := wp_iload_n rfl dX12_two_80 rfl
theorem sX12_two_81 : Wp mX12_two d 81 L (.int z :: .int x :: S) M N P Q = (if x ≤ z then Wp mX12_two d 88 L S M N P Q else Wp mX12_two d 84 L S M N P Q) := wp_icmp_le rfl dX12_two_81 rfl
theorem sX12_two_84 : Wp mX12_two d 84 L S M N P Q = Wp mX12_two d 85 L (.int 1 :: S) M N P Q := wp_iconst rfl dX12_two_84 rfl
theorem sX12_two_85 : Wp mX12_two d 85 L S M N P Q = Wp mX12_two d 89 L S M N P Q := wp_goto rfl dX12_two_85 rfl
theorem sX12_two_88 : Wp mX12_two d 88 L S M N P Q = Wp mX12_two d 89 L (.int 0 :: S) M N P Q := wp_iconst rfl dX12_two_88 rfl
theorem sX12_two_89 : Wp mX12_two d 89 L [.int x] M N P Q = Q (some (.int x)) M N P := wp_iret rfl dX12_two_89 rfl rfl
theorem sX12_two_90 : Wp mX12_two d 90 (a0 :: .int x :: L) S M N P Q = Wp mX12_two d 91 (a0 :: .int x :: L) (.int x :: S) M N P Q := wp_iload_n rfl dX12_two_90 rfl
theorem sX12_two_91 : Wp mX12_two d 91 (a0 :: a1 :: .int x :: L) S M N P Q = Wp mX12_two d 92 (a0 :: a1 :: .int x :: L) (.int x :: S) M N P Q := wp_iload_n rfl dX12_two_91 rfl
theorem sX12_two_92 : Wp mX12_two d 92 L (.int z :: .int x :: S) M N P Q = (if x = z then Wp mX12_two d 95 L S M N P Q else Wp mX12_two d 99 L S M N P Q) := wp_icmp_ne rfl dX12_two_92 rfl
theorem sX12_two_95 : Wp mX12_two d 95 L S M N P Q = Wp mX12_two d 96 L (.int 1 :: S) M N P Q := wp_iconst rfl dX12_two_95 rfl
theorem sX12_two_96 : Wp mX12_two d 96 L S M N P Q = Wp mX12_two d 100 L S M N P Q := wp_goto rfl dX12_two_96 rfl
theorem sX12_two_99 : Wp mX12_two d 99 L S M N P Q = Wp mX12_two d 100 L (.int 0 :: S) M N P Q := wp_iconst rfl dX12_two_99 rfl
theorem sX12_two_100 : Wp mX12_two d 100 L [.int x] M N P Q = Q (some (.int x)) M N P := wp_iret rfl dX12_two_100 rfl rfl
theorem sX12_two_101 : Wp mX12_two d 101 (a0 :: .int x :: L) S M N P Q = Wp mX12_two d 102 (a0 :: .int x :: L) (.int x :: S) M N P Q := wp_iload_n rfl dX12_two_101 rfl
theorem sX12_two_102 : Wp mX12_two d 102 L (.int x :: S) M N P Q = (if x = 0 then Wp mX12_two d 113 L S M N P Q else Wp mX12_two d 105 L S M N P Q) := wp_if_eq rfl dX12_two_102 rfl
theorem sX12_two_105 : Wp mX12_two d 105 (a0 :: a1 :: .int x :: L) S M N P Q = Wp mX12_two d 106 (a0 :: a1 :: .int x :: L) (.int x :: S) M N P Q := wp_iload_n rfl dX12_two_105 rfl
theorem sX12_two_106 : Wp mX12_two d 106 L (.int x :: S) M N P Q = (if x = 0 then Wp mX12_two d 113 L S M N P Q else Wp mX12_two d 109 L S M N P Q) := wp_if_eq rfl dX12_two_106 rfl
theorem sX12_two_109 : Wp mX12_two d 109 L S M N P Q = Wp mX12_two d 110 L (.int 1 :: S) M N P Q := wp_iconst rfl dX12_two_109 rfl
theorem sX12_two_110 : Wp mX12_two d 110 L S M N P Q = Wp mX12_two d 114 L S M N P Q := wp_goto rfl dX12_two_110 rfl
theorem sX12_two_113 : Wp mX12_two d 113 L S M N P Q = Wp mX12_two d 114 L (.int 0 :: S) M N P Q := wp_iconst rfl dX12_two_113 rfl
theorem sX12_two_114 : Wp mX12_two d 114 L [.int x] M N P Q = Q (some (.int x)) M N P := wp_iret rfl dX12_two_114 rfl rfl
theorem sX12_two_115 : Wp mX12_two d 115 (a0 :: .int x :: L) S M N P Q = Wp mX12_two d 116 (a0 :: .int x :: L) (.int x :: S) M N P Q := wp_iload_n rfl dX12_two_115 rfl
theorem sX12_two_116 : Wp mX12_two d 116 L (.int x :: S) M N P Q = (if x = 0 then Wp mX12_two d 119 L S M N P Q else Wp mX12_two d 123 L S M N P Q) := wp_if_ne rfl dX12_two_116 rfl
theorem sX12_two_119 : Wp mX12_two d 119 (a0 :: a1 :: .int x :: L) S M N P Q = Wp mX12_two d 120 (a0 :: a1 :: .int x :: L) (.int x :: S) M N P Q := wp_iload_n rfl dX12_two_119 rfl
theorem sX12_two_120 : Wp mX12_two d 120 L (.int x :: S) M N P Q = (if x = 0 then Wp mX12_two d 127 L S M N P Q else Wp mX12_two d 123 L S M N P Q) := wp_if_eq rfl dX12_two_120 rfl
theorem sX12_two_123 : Wp mX12_two d 123 L S M N P Q = Wp mX12_two d 124 L (.int 1 :: S) M N P Q := wp_iconst rfl dX12_two_123 rfl
theorem sX12_two_124 : Wp mX12_two d 124 L S M N P Q = Wp mX12_two d 128 L S M N P Q := wp_goto rfl dX12_two_124 rfl
theorem sX12_two_127 : Wp mX12_two d 127 L S M N P Q = Wp mX12_two d 128 L (.int 0 :: S) M N P Q := wp_iconst rfl dX12_two_127 rfl
theorem sX12_two_128 : Wp mX12_two d 128 L [.int x] M N P Q = Q (some (.int x)) M N P := wp_iret rfl dX12_two_128 rfl rfl
theorem sX12_holds_0 : Wp mX12_holds d 0 L S M N P Q = Wp mX12_holds d 1 L (.int 0 :: S) M N P Q := wp_iconst rfl dX12_holds_0 rfl
theorem sX12_holds_1 (hn : nl a1 = true) : Wp mX12_holds d 1 (a0 :: a1 :: a2 :: L) (.int x :: S) M N P Q = Wp mX12_holds d 2 (a0 :: a1 :: .int x :: L) S M N P Q := wp_istore_n rfl dX12_holds_1 (lenGt2 ..) (okst2 hn) rfl
theorem sX12_holds_2 : Wp mX12_holds d 2 L S M N P Q = Wp mX12_holds d 5 L (.int 600 :: S) M N P Q := wp_sipush rfl dX12_holds_2 rfl
theorem sX12_holds_5 : Wp mX12_holds d 5 (.ref r :: L) S M N P Q = Wp mX12_holds d 6 (.ref r :: L) (.ref r :: S) M N P Q := wp_aload_n rfl dX12_holds_5 rfl
theorem sX12_holds_6 (hs : shk r = (12, 0)) : Wp mX12_holds d 6 L (.ref r :: S) M N P Q = Wp mX12_holds d 9 L (.int (M r 39) :: S) M N P Q := wp_getfield rfl dX12_holds_6 rfl rfl hs rfl
theorem sX12_holds_9 : Wp mX12_holds d 9 L (.int z :: .int x :: S) M N P Q = Wp mX12_holds d 10 L (.int (x * z) :: S) M N P Q := wp_imul rfl dX12_holds_9
theorem sX12_holds_10 : Wp mX12_holds d 10 (.ref r :: L) S M N P Q = Wp mX12_holds d 11 (.ref r :: L) (.ref r :: S) M N P Q := wp_aload_n rfl dX12_holds_10 rfl
theorem sX12_holds_11 (hs : shk r = (12, 0)) : Wp mX12_holds d 11 L (.ref r :: S) M N P Q = Wp mX12_holds d 14 L (.ref (P r 35) :: S) M N P Q := wp_getfield rfl dX12_holds_11 rfl rfl hs rfl
theorem sX12_holds_14 : Wp mX12_holds d 14 (a0 :: .int x :: L) S M N P Q = Wp mX12_holds d 15 (a0 :: .int x :: L) (.int x :: S) M N P Q := wp_iload_n rfl dX12_holds_14 rfl
theorem sX12_holds_15 (hs : (shk r).1 = 100) : Wp mX12_holds d 15 L (.int j :: .ref r :: S) M N P Q = (vp_in j (shk r).2 ∧ Wp mX12_holds d 16 L (.int (M r j.toNatClampNeg) :: S) M N P Q) := wp_iaload rfl dX12_holds_15 (kd hs)
theorem sX12_holds_16 : Wp mX12_holds d 16 L (.int z :: .int x :: S) M N P Q = Wp mX12_holds d 17 L (.int (x + z) :: S) M N P Q := wp_iadd rfl dX12_holds_16
theorem sX12_holds_17 (hn : nl a2 = true) : Wp mX12_holds d 17 (a0 :: a1 :: a2 :: a3 :: L) (.int x :: S) M N P Q = Wp mX12_holds d 18 (a0 :: a1 :: a2 :: .int x :: L) S M N P Q := wp_istore_n rfl dX12_holds_17 (lenGt3 ..) (okst3 hn) rfl
theorem sX12_holds_18 : Wp mX12_holds d 18 (a0 :: a1 :: a2 :: .int x :: L) S M N P Q = Wp mX12_holds d 19 (a0 :: a1 :: a2 :: .int x :: L) (.int x :: S) M N P Q := wp_iload_n rfl dX12_holds_18 rfl
theorem sX12_holds_19 : Wp mX12_holds d 19 L S M N P Q = Wp mX12_holds d 22 L (.int 600 :: S) M N P Q := wp_sipush rfl dX12_holds_19 rfl
theorem sX12_holds_22 : Wp mX12_holds d 22 (.ref r :: L) S M N P Q = Wp mX12_holds d 23 (.ref r :: L) (.ref r :: S) M N P Q := wp_aload_n rfl dX12_holds_22 rfl
theorem sX12_holds_23 (hs : shk r = (12, 0)) : Wp mX12_holds d 23 L (.ref r :: S) M N P Q = Wp mX12_holds d 26 L (.int (M r 39) :: S) M N P Q := wp_getfield rfl dX12_holds_23 rfl rfl hs rfl
theorem sX12_holds_26 : Wp mX12_holds d 26 L (.int z :: .int x :: S) M N P Q = Wp mX12_holds d 27 L (.int (x * z) :: S) M N P Q := wp_imul rfl dX12_holds_26
theorem sX12_holds_27 : Wp mX12_holds d 27 (.ref r :: L) S M N P Q = Wp mX12_holds d 28 (.ref r :: L) (.ref r :: S) M N P Q := wp_aload_n rfl dX12_holds_27 rfl
theorem sX12_holds_28 (hs : shk r = (12, 0)) : Wp mX12_holds d 28 L (.ref r :: S) M N P Q = Wp mX12_holds d 31 L (.ref (P r 36) :: S) M N P Q := wp_getfield rfl dX12_holds_28 rfl rfl hs rfl
theorem sX12_holds_31 : Wp mX12_holds d 31 (a0 :: .int x :: L) S M N P Q = Wp mX12_holds d 32 (a0 :: .int x :: L) (.int x :: S) M N P Q := wp_iload_n rfl dX12_holds_31 rfl
theorem sX12_holds_32 (hs : (shk r).1 = 100) : Wp mX12_holds d 32 L (.int j :: .ref r :: S) M N P Q = (vp_in j (shk r).2 ∧ Wp mX12_holds d 33 L (.int (M r j.toNatClampNeg) :: S) M N P Q) := wp_iaload rfl dX12_holds_32 (kd hs)
theorem sX12_holds_33 : Wp mX12_holds d 33 L (.int z :: .int x :: S) M N P Q = Wp mX12_holds d 34 L (.int (x + z) :: S) M N P Q := wp_iadd rfl dX12_holds_33
theorem sX12_holds_34 : Wp mX12_holds d 34 L (.int z :: .int x :: S) M N P Q = (if z ≤ x then Wp mX12_holds d 168 L S M N P Q else Wp mX12_holds d 37 L S M N P Q) := wp_icmp_ge rfl dX12_holds_34 rfl
theorem sX12_holds_37 : Wp mX12_holds d 37 (.ref r :: L) S M N P Q = Wp mX12_holds d 38 (.ref r :: L) (.ref r :: S) M N P Q := wp_aload_n rfl dX12_holds_37 rfl
theorem sX12_holds_38 (hs : shk r = (12, 0)) : Wp mX12_holds d 38 L (.ref r :: S) M N P Q = Wp mX12_holds d 41 L (.ref (P r 37) :: S) M N P Q := wp_getfield rfl dX12_holds_38 rfl rfl hs rfl
theorem sX12_holds_41 : Wp mX12_holds d 41 (a0 :: a1 :: a2 :: .int x :: L) S M N P Q = Wp mX12_holds d 42 (a0 :: a1 :: a2 :: .int x :: L) (.int x :: S) M N P Q := wp_iload_n rfl dX12_holds_41 rfl
theorem sX12_holds_42 (hs : (shk r).1 = 100) : Wp mX12_holds d 42 L (.int j :: .ref r :: S) M N P Q = (vp_in j (shk r).2 ∧ Wp mX12_holds d 43 L (.int (M r j.toNatClampNeg) :: S) M N P Q) := wp_iaload rfl dX12_holds_42 (kd hs)
theorem sX12_holds_43 (hn : nl a3 = true) : Wp mX12_holds d 43 (a0 :: a1 :: a2 :: a3 :: a4 :: L) (.int x :: S) M N P Q = Wp mX12_holds d 45 (a0 :: a1 :: a2 :: a3 :: .int x :: L) S M N P Q := wp_istore rfl dX12_holds_43 (lenGt4 ..) (okst4 hn) rfl
theorem sX12_holds_45 : Wp mX12_holds d 45 (a0 :: a1 :: a2 :: a3 :: .int x :: L) S M N P Q = Wp mX12_holds d 47 (a0 :: a1 :: a2 :: a3 :: .int x :: L) (.int x :: S) M N P Q := wp_iload rfl dX12_holds_45 rfl
theorem sX12_holds_47 : Wp mX12_holds d 47 L S M N P Q = Wp mX12_holds d 49 L (.int 126 :: S) M N P Q := wp_bipush rfl dX12_holds_47 rfl
theorem sX12_holds_49 : Wp mX12_holds d 49 L (.int z :: .int x :: S) M N P Q = (if x = z then Wp mX12_holds d 52 L S M N P Q else Wp mX12_holds d 79 L S M N P Q) := wp_icmp_ne rfl dX12_holds_49 rfl
theorem sX12_holds_52 : Wp mX12_holds d 52 (.ref r :: L) S M N P Q = Wp mX12_holds d 53 (.ref r :: L) (.ref r :: S) M N P Q := wp_aload_n rfl dX12_holds_52 rfl
theorem sX12_holds_53 (hs : shk r = (12, 0)) : Wp mX12_holds d 53 L (.ref r :: S) M N P Q = Wp mX12_holds d 56 L (.ref (P r 46) :: S) M N P Q := wp_getfield rfl dX12_holds_53 rfl rfl hs rfl
theorem sX12_holds_56 : Wp mX12_holds d 56 (a0 :: a1 :: .int x :: L) S M N P Q = Wp mX12_holds d 57 (a0 :: a1 :: .int x :: L) (.int x :: S) M N P Q := wp_iload_n rfl dX12_holds_56 rfl
theorem sX12_holds_57 : Wp mX12_holds d 57 L S M N P Q = Wp mX12_holds d 58 L (.int 1 :: S) M N P Q := wp_iconst rfl dX12_holds_57 rfl
theorem sX12_holds_58 : Wp mX12_holds d 58 L (.int z :: .int x :: S) M N P Q = Wp mX12_holds d 59 L (.int (x - z) :: S) M N P Q := wp_isub rfl dX12_holds_58
theorem sX12_holds_59 : Wp mX12_holds d 59 (.ref r :: L) S M N P Q = Wp mX12_holds d 60 (.ref r :: L) (.ref r :: S) M N P Q := wp_aload_n rfl dX12_holds_59 rfl
theorem sX12_holds_60 (hs : shk r = (12, 0)) : Wp mX12_holds d 60 L (.ref r :: S) M N P Q = Wp mX12_holds d 63 L (.ref (P r 46) :: S) M N P Q := wp_getfield rfl dX12_holds_60 rfl rfl hs rfl
theorem sX12_holds_63 : Wp mX12_holds d 63 (a0 :: a1 :: .int x :: L) S M N P Q = Wp mX12_holds d 64 (a0 :: a1 :: .int x :: L) (.int x :: S) M N P Q := wp_iload_n rfl dX12_holds_63 rfl
theorem sX12_holds_64 : Wp mX12_holds d 64 L S M N P Q = Wp mX12_holds d 65 L (.int 1 :: S) M N P Q := wp_iconst rfl dX12_holds_64 rfl
theorem sX12_holds_65 : Wp mX12_holds d 65 L (.int z :: .int x :: S) M N P Q = Wp mX12_holds d 66 L (.int (x - z) :: S) M N P Q := wp_isub rfl dX12_holds_65
theorem sX12_holds_66 (hs : (shk r).1 = 100) : Wp mX12_holds d 66 L (.int j :: .ref r :: S) M N P Q = (vp_in j (shk r).2 ∧ Wp mX12_holds d 67 L (.int (M r j.toNatClampNeg) :: S) M N P Q) := wp_iaload rfl dX12_holds_66 (kd hs)
theorem sX12_holds_67 : Wp mX12_holds d 67 L (.int x :: S) M N P Q = (if x = 0 then Wp mX12_holds d 70 L S M N P Q else Wp mX12_holds d 74 L S M N P Q) := wp_if_ne rfl dX12_holds_67 rfl
theorem sX12_holds_70 : Wp mX12_holds d 70 L S M N P Q = Wp mX12_holds d 71 L (.int 1 :: S) M N P Q := wp_iconst rfl dX12_holds_70 rfl
theorem sX12_holds_71 : Wp mX12_holds d 71 L S M N P Q = Wp mX12_holds d 75 L S M N P Q := wp_goto rfl dX12_holds_71 rfl
theorem sX12_holds_74 : Wp mX12_holds d 74 L S M N P Q = Wp mX12_holds d 75 L (.int 0 :: S) M N P Q := wp_iconst rfl dX12_holds_74 rfl
theorem sX12_holds_75 (hs : (shk r).1 = 100) : Wp mX12_holds d 75 L (.int x :: .int j :: .ref r :: S) M N P Q = (vp_in j (shk r).2 ∧ Wp mX12_holds d 76 L S (up2 M r j.toNatClampNeg x) N P Q) := wp_iastore rfl dX12_holds_75 (kd hs)
theorem sX12_holds_76 : Wp mX12_holds d 76 L S M N P Q = Wp mX12_holds d 162 L S M N P Q := wp_goto rfl dX12_holds_76 rfl
theorem sX12_holds_79 : Wp mX12_holds d 79 (a0 :: a1 :: a2 :: a3 :: .int x :: L) S M N P Q = Wp mX12_holds d 81 (a0 :: a1 :: a2 :: a3 :: .int x :: L) (.int x :: S) M N P Q := wp_iload rfl dX12_holds_79 rfl
theorem sX12_holds_81 : Wp mX12_holds d 81 L S M N P Q = Wp mX12_holds d 83 L (.int 110 :: S) M N P Q := wp_bipush rfl dX12_holds_81 rfl
theorem sX12_holds_83 : Wp mX12_holds d 83 L (.int z :: .int x :: S) M N P Q = (if x = z then Wp mX12_holds d 93 L S M N P Q else Wp mX12_holds d 86 L S M N P Q) := wp_icmp_eq rfl dX12_holds_83 rfl
theorem sX12_holds_86 : Wp mX12_holds d 86 (a0 :: a1 :: a2 :: a3 :: .int x :: L) S M N P Q = Wp mX12_holds d 88 (a0 :: a1 :: a2 :: a3 :: .int x :: L) (.int x :: S) M N P Q := wp_iload rfl dX12_holds_86 rfl
theorem sX12_holds_88 : Wp mX12_holds d 88 L S M N P Q = Wp mX12_holds d 90 L (.int 116 :: S) M N P Q := wp_bipush rfl dX12_holds_88 rfl
theorem sX12_holds_90 : Wp mX12_holds d 90 L (.int z :: .int x :: S) M N P Q = (if x = z then Wp mX12_holds d 93 L S M N P Q else Wp mX12_holds d 132 L S M N P Q) := wp_icmp_ne rfl dX12_holds_90 rfl
theorem sX12_holds_93 : Wp mX12_holds d 93 (.ref r :: L) S M N P Q = Wp mX12_holds d 94 (.ref r :: L) (.ref r :: S) M N P Q := wp_aload_n rfl dX12_holds_93 rfl
theorem sX12_holds_94 (hs : shk r = (12, 0)) : Wp mX12_holds d 94 L (.ref r :: S) M N P Q = Wp mX12_holds d 97 L (.ref (P r 46) :: S) M N P Q := wp_getfield rfl dX12_holds_94 rfl rfl hs rfl
theorem sX12_holds_97 : Wp mX12_holds d 97 (a0 :: a1 :: .int x :: L) S M N P Q = Wp mX12_holds d 98 (a0 :: a1 :: .int x :: L) (.int x :: S) M N P Q := wp_iload_n rfl dX12_holds_97 rfl
theorem sX12_holds_98 : Wp mX12_holds d 98 (a0 :: a1 :: a2 :: a3 :: .int x :: L) S M N P Q = Wp mX12_holds d 100 (a0 :: a1 :: a2 :: a3 :: .int x :: L) (.int x :: S) M N P Q := wp_iload rfl dX12_holds_98 rfl
theorem sX12_holds_100 : Wp mX12_holds d 100 L S M N P Q = Wp mX12_holds d 102 L (.int 110 :: S) M N P Q := wp_bipush rfl dX12_holds_100 rfl
theorem sX12_holds_102 : Wp mX12_holds d 102 L (.int z :: .int x :: S) M N P Q = (if x = z then Wp mX12_holds d 105 L S M N P Q else Wp mX12_holds d 114 L S M N P Q) := wp_icmp_ne rfl dX12_holds_102 rfl
theorem sX12_holds_105 : Wp mX12_holds d 105 (.ref r :: L) S M N P Q = Wp mX12_holds d 106 (.ref r :: L) (.ref r :: S) M N P Q := wp_aload_n rfl dX12_holds_105 rfl
theorem sX12_holds_106 (hs : shk r = (12, 0)) : Wp mX12_holds d 106 L (.ref r :: S) M N P Q = Wp mX12_holds d 109 L (.ref (P r 38) :: S) M N P Q := wp_getfield rfl dX12_holds_106 rfl rfl hs rfl
theorem sX12_holds_109 : Wp mX12_holds d 109 (a0 :: a1 :: a2 :: .int x :: L) S M N P Q = Wp mX12_holds d 110 (a0 :: a1 :: a2 :: .int x :: L) (.int x :: S) M N P Q := wp_iload_n rfl dX12_holds_109 rfl
theorem sX12_holds_110 (hs : (shk r).1 = 100) : Wp mX12_holds d 110 L (.int j :: .ref r :: S) M N P Q = (vp_in j (shk r).2 ∧ Wp mX12_holds d 111 L (.int (M r j.toNatClampNeg) :: S) M N P Q) := wp_iaload rfl dX12_holds_110 (kd hs)
theorem sX12_holds_111 : Wp mX12_holds d 111 L S M N P Q = Wp mX12_holds d 125 L S M N P Q := wp_goto rfl dX12_holds_111 rfl
theorem sX12_holds_114 : Wp mX12_holds d 114 (.ref r :: L) S M N P Q = Wp mX12_holds d 115 (.ref r :: L) (.ref r :: S) M N P Q := wp_aload_n rfl dX12_holds_114 rfl
theorem sX12_holds_115 (hs : shk r = (12, 0)) : Wp mX12_holds d 115 L (.ref r :: S) M N P Q = Wp mX12_holds d 118 L (.ref (P r 47) :: S) M N P Q := wp_getfield rfl dX12_holds_115 rfl rfl hs rfl
theorem sX12_holds_118 : Wp mX12_holds d 118 (.ref r :: L) S M N P Q = Wp mX12_holds d 119 (.ref r :: L) (.ref r :: S) M N P Q := wp_aload_n rfl dX12_holds_118 rfl
theorem sX12_holds_119 (hs : shk r = (12, 0)) : Wp mX12_holds d 119 L (.ref r :: S) M N P Q = Wp mX12_holds d 122 L (.ref (P r 38) :: S) M N P Q := wp_getfield rfl dX12_holds_119 rfl rfl hs rfl
theorem sX12_holds_122 : Wp mX12_holds d 122 (a0 :: a1 :: a2 :: .int x :: L) S M N P Q = Wp mX12_holds d 123 (a0 :: a1 :: a2 :: .int x :: L) (.int x :: S) M N P Q := wp_iload_n rfl dX12_holds_122 rfl
theorem sX12_holds_123 (hs : (shk r).1 = 100) : Wp mX12_holds d 123 L (.int j :: .ref r :: S) M N P Q = (vp_in j (shk r).2 ∧ Wp mX12_holds d 124 L (.int (M r j.toNatClampNeg) :: S) M N P Q) := wp_iaload rfl dX12_holds_123 (kd hs)
theorem sX12_holds_124 (hs : (shk r).1 = 100) : Wp mX12_holds d 124 L (.int j :: .ref r :: S) M N P Q = (vp_in j (shk r).2 ∧ Wp mX12_holds d 125 L (.int (M r j.toNatClampNeg) :: S) M N P Q) := wp_iaload rfl dX12_holds_124 (kd hs)
theorem sX12_holds_125 (hs : (shk r).1 = 100) : Wp mX12_holds d 125 L (.int x :: .int j :: .ref r :: S) M N P Q = (vp_in j (shk r).2 ∧ Wp mX12_holds d 126 L S (up2 M r j.toNatClampNeg x) N P Q) := wp_iastore rfl dX12_holds_125 (kd hs)
theorem sX12_holds_126 (hn : nl a1 = true) : Wp mX12_holds d 126 (a0 :: a1 :: .int x :: L) S M N P Q = Wp mX12_holds d 129 (a0 :: a1 :: .int (x + 1) :: L) S M N P Q := wp_iinc rfl dX12_holds_126 rfl rfl (okst2 hn) rfl
theorem sX12_holds_129 : Wp mX12_holds d 129 L S M N P Q = Wp mX12_holds d 162 L S M N P Q := wp_goto rfl dX12_holds_129 rfl
theorem sX12_holds_132 (hn : nl a1 = true) : Wp mX12_holds d 132 (a0 :: a1 :: .int x :: L) S M N P Q = Wp mX12_holds d 135 (a0 :: a1 :: .int (x + (-1)) :: L) S M N P Q := wp_iinc rfl dX12_holds_132 rfl rfl (okst2 hn) rfl
theorem sX12_holds_135 : Wp mX12_holds d 135 (.ref r :: L) S M N P Q = Wp mX12_holds d 136 (.ref r :: L) (.ref r :: S) M N P Q := wp_aload_n rfl dX12_holds_135 rfl
theorem sX12_holds_136 (hs : shk r = (12, 0)) : Wp mX12_holds d 136 L (.ref r :: S) M N P Q = Wp mX12_holds d 139 L (.ref (P r 46) :: S) M N P Q := wp_getfield rfl dX12_holds_136 rfl rfl hs rfl
theorem sX12_holds_139 : Wp mX12_holds d 139 (a0 :: a1 :: .int x :: L) S M N P Q = Wp mX12_holds d 140 (a0 :: a1 :: .int x :: L) (.int x :: S) M N P Q := wp_iload_n rfl dX12_holds_139 rfl
theorem sX12_holds_140 : Wp mX12_holds d 140 L S M N P Q = Wp mX12_holds d 141 L (.int 1 :: S) M N P Q := wp_iconst rfl dX12_holds_140 rfl
theorem sX12_holds_141 : Wp mX12_holds d 141 L (.int z :: .int x :: S) M N P Q = Wp mX12_holds d 142 L (.int (x - z) :: S) M N P Q := wp_isub rfl dX12_holds_141
theorem sX12_holds_142 : Wp mX12_holds d 142 (a0 :: a1 :: a2 :: a3 :: .int x :: L) S M N P Q = Wp mX12_holds d 144 (a0 :: a1 :: a2 :: a3 :: .int x :: L) (.int x :: S) M N P Q := wp_iload rfl dX12_holds_142 rfl
theorem sX12_holds_144 : Wp mX12_holds d 144 (.ref r :: L) S M N P Q = Wp mX12_holds d 145 (.ref r :: L) (.ref r :: S) M N P Q := wp_aload_n rfl dX12_holds_144 rfl
theorem sX12_holds_145 (hs : shk r = (12, 0)) : Wp mX12_holds d 145 L (.ref r :: S) M N P Q = Wp mX12_holds d 148 L (.ref (P r 46) :: S) M N P Q := wp_getfield rfl dX12_holds_145 rfl rfl hs rfl
theorem sX12_holds_148 : Wp mX12_holds d 148 (a0 :: a1 :: .int x :: L) S M N P Q = Wp mX12_holds d 149 (a0 :: a1 :: .int x :: L) (.int x :: S) M N P Q := wp_iload_n rfl dX12_holds_148 rfl
theorem sX12_holds_149 : Wp mX12_holds d 149 L S M N P Q = Wp mX12_holds d 150 L (.int 1 :: S) M N P Q := wp_iconst rfl dX12_holds_149 rfl
theorem sX12_holds_150 : Wp mX12_holds d 150 L (.int z :: .int x :: S) M N P Q = Wp mX12_holds d 151 L (.int (x - z) :: S) M N P Q := wp_isub rfl dX12_holds_150
theorem sX12_holds_151 (hs : (shk r).1 = 100) : Wp mX12_holds d 151 L (.int j :: .ref r :: S) M N P Q = (vp_in j (shk r).2 ∧ Wp mX12_holds d 152 L (.int (M r j.toNatClampNeg) :: S) M N P Q) := wp_iaload rfl dX12_holds_151 (kd hs)
theorem sX12_holds_152 : Wp mX12_holds d 152 (.ref r :: L) S M N P Q = Wp mX12_holds d 153 (.ref r :: L) (.ref r :: S) M N P Q := wp_aload_n rfl dX12_holds_152 rfl
theorem sX12_holds_153 (hs : shk r = (12, 0)) : Wp mX12_holds d 153 L (.ref r :: S) M N P Q = Wp mX12_holds d 156 L (.ref (P r 46) :: S) M N P Q := wp_getfield rfl dX12_holds_153 rfl rfl hs rfl
theorem sX12_holds_156 : Wp mX12_holds d 156 (a0 :: a1 :: .int x :: L) S M N P Q = Wp mX12_holds d 157 (a0 :: a1 :: .int x :: L) (.int x :: S) M N P Q := wp_iload_n rfl dX12_holds_156 rfl
theorem sX12_holds_157 (hs : (shk r).1 = 100) : Wp mX12_holds d 157 L (.int j :: .ref r :: S) M N P Q = (vp_in j (shk r).2 ∧ Wp mX12_holds d 158 L (.int (M r j.toNatClampNeg) :: S) M N P Q) := wp_iaload rfl dX12_holds_157 (kd hs)
theorem sX12_holds_158 {x0 : Int32} {x1 : Int32} {x2 : Int32} (hS : stk S ≤ 8) : Wp mX12_holds (d + 1) 158 L (.int x2 :: .int x1 :: .int x0 :: S) M N P Q = Wp mX12_two d 0 [.int x0, .int x1, .int x2] [] M N P (fun v M' N' P' => Wp mX12_holds (d + 1) 161 L (v.toList ++ S) M' N' P' Q) := wp_callS (As := [.int x0, .int x1, .int x2]) rfl dX12_holds_158 rfl rfl rfl ⟨rfl, Nat.le_of_ble_eq_true rfl, Nat.le_of_ble_eq_true rfl⟩ rfl hS
theorem sX12_holds_161 (hs : (shk r).1 = 100) : Wp mX12_holds d 161 L (.int x :: .int j :: .ref r :: S) M N P Q = (vp_in j (shk r).2 ∧ Wp mX12_holds d 162 L S (up2 M r j.toNatClampNeg x) N P Q) := wp_iastore rfl dX12_holds_161 (kd hs)
theorem sX12_holds_162 (hn : nl a2 = true) : Wp mX12_holds d 162 (a0 :: a1 :: a2 :: .int x :: L) S M N P Q = Wp mX12_holds d 165 (a0 :: a1 :: a2 :: .int (x + 1) :: L) S M N P Q := wp_iinc rfl dX12_holds_162 rfl rfl (okst3 hn) rfl
theorem sX12_holds_165 : Wp mX12_holds d 165 L S M N P Q = Wp mX12_holds d 18 L S M N P Q := wp_goto rfl dX12_holds_165 rfl
theorem sX12_holds_168 : Wp mX12_holds d 168 (.ref r :: L) S M N P Q = Wp mX12_holds d 169 (.ref r :: L) (.ref r :: S) M N P Q := wp_aload_n rfl dX12_holds_168 rfl
theorem sX12_holds_169 (hs : shk r = (12, 0)) : Wp mX12_holds d 169 L (.ref r :: S) M N P Q = Wp mX12_holds d 172 L (.ref (P r 46) :: S) M N P Q := wp_getfield rfl dX12_holds_169 rfl rfl hs rfl
theorem sX12_holds_172 : Wp mX12_holds d 172 L S M N P Q = Wp mX12_holds d 173 L (.int 0 :: S) M N P Q := wp_iconst rfl dX12_holds_172 rfl
theorem sX12_holds_173 (hs : (shk r).1 = 100) : Wp mX12_holds d 173 L (.int j :: .ref r :: S) M N P Q = (vp_in j (shk r).2 ∧ Wp mX12_holds d 174 L (.int (M r j.toNatClampNeg) :: S) M N P Q) := wp_iaload rfl dX12_holds_173 (kd hs)
theorem sX12_holds_174 : Wp mX12_holds d 174 L (.int x :: S) M N P Q = (if x = 0 then Wp mX12_holds d 181 L S M N P Q else Wp mX12_holds d 177 L S M N P Q) := wp_if_eq rfl dX12_holds_174 rfl
theorem sX12_holds_177 : Wp mX12_holds d 177 L S M N P Q = Wp mX12_holds d 178 L (.int 1 :: S) M N P Q := wp_iconst rfl dX12_holds_177 rfl
theorem sX12_holds_178 : Wp mX12_holds d 178 L S M N P Q = Wp mX12_holds d 182 L S M N P Q := wp_goto rfl dX12_holds_178 rfl
theorem sX12_holds_181 : Wp mX12_holds d 181 L S M N P Q = Wp mX12_holds d 182 L (.int 0 :: S) M N P Q := wp_iconst rfl dX12_holds_181 rfl
theorem sX12_holds_182 (hb : bit x) : Wp mX12_holds d 182 L [.int x] M N P Q = Q (some (.int x)) M N P := wp_iret rfl dX12_holds_182 rfl (bit_n hb)
theorem sX12_claim_0 : Wp mX12_claim d 0 (.ref r :: L) S M N P Q = Wp mX12_claim d 1 (.ref r :: L) (.ref r :: S) M N P Q := wp_aload_n rfl dX12_claim_0 rfl
theorem sX12_claim_1 : Wp mX12_claim d 1 (a0 :: .int x :: L) S M N P Q = Wp mX12_claim d 2 (a0 :: .int x :: L) (.int x :: S) M N P Q := wp_iload_n rfl dX12_claim_1 rfl
theorem sX12_claim_2 {x0 : Int32} (hs : shk r = (12, 0)) (hS : stk S ≤ 8) : Wp mX12_claim (d + 1) 2 L (.int x0 :: .ref r :: S) M N P Q = Wp mX12_isPaper d 0 [.ref r, .int x0] [] M N P (fun v M' N' P' => Wp mX12_claim (d + 1) 5 L (v.toList ++ S) M' N' P' Q) := wp_callV (As := [.int x0]) rfl dX12_claim_2 rfl rfl (Or.inl ⟨_, _, _, hs, rfl⟩) rfl ⟨rfl, Nat.le_of_ble_eq_true rfl, Nat.le_of_ble_eq_true rfl⟩ rfl hS
theorem sX12_claim_5 : Wp mX12_claim d 5 L (.int x :: S) M N P Q = (if x = 0 then Wp mX12_claim d 17 L S M N P Q else Wp mX12_claim d 8 L S M N P Q) := wp_if_eq rfl dX12_claim_5 rfl
theorem sX12_claim_8 : Wp mX12_claim d 8 (.ref r :: L) S M N P Q = Wp mX12_claim d 9 (.ref r :: L) (.ref r :: S) M N P Q := wp_aload_n rfl dX12_claim_8 rfl
theorem sX12_claim_9 (hs : shk r = (12, 0)) : Wp mX12_claim d 9 L (.ref r :: S) M N P Q = Wp mX12_claim d 12 L (.int (M r 49) :: S) M N P Q := wp_getfield rfl dX12_claim_9 rfl rfl hs rfl
theorem sX12_claim_12 : Wp mX12_claim d 12 L S M N P Q = Wp mX12_claim d 14 L (.int 30 :: S) M N P Q := wp_bipush rfl dX12_claim_12 rfl
theorem sX12_claim_14 : Wp mX12_claim d 14 L (.int z :: .int x :: S) M N P Q = (if x = z then Wp mX12_claim d 17 L S M N P Q else Wp mX12_claim d 19 L S M N P Q) := wp_icmp_ne rfl dX12_claim_14 rfl
theorem sX12_claim_17 : Wp mX12_claim d 17 L S M N P Q = Wp mX12_claim d 18 L (.int (-1) :: S) M N P Q := wp_iconst rfl dX12_claim_17 rfl
theorem sX12_claim_18 : Wp mX12_claim d 18 L [.int x] M N P Q = Q (some (.int x)) M N P := wp_iret rfl dX12_claim_18 rfl rfl
theorem sX12_claim_19 : Wp mX12_claim d 19 L S M N P Q = Wp mX12_claim d 20 L (.int 0 :: S) M N P Q := wp_iconst rfl dX12_claim_19 rfl
theorem sX12_claim_20 (hn : nl a1 = true) : Wp mX12_claim d 20 (a0 :: a1 :: a2 :: L) (.int x :: S) M N P Q = Wp mX12_claim d 21 (a0 :: a1 :: .int x :: L) S M N P Q := wp_istore_n rfl dX12_claim_20 (lenGt2 ..) (okst2 hn) rfl
theorem sX12_claim_21 : Wp mX12_claim d 21 (a0 :: a1 :: .int x :: L) S M N P Q = Wp mX12_claim d 22 (a0 :: a1 :: .int x :: L) (.int x :: S) M N P Q := wp_iload_n rfl dX12_claim_21 rfl
theorem sX12_claim_22 : Wp mX12_claim d 22 (.ref r :: L) S M N P Q = Wp mX12_claim d 23 (.ref r :: L) (.ref r :: S) M N P Q := wp_aload_n rfl dX12_claim_22 rfl
theorem sX12_claim_23 (hs : shk r = (12, 0)) : Wp mX12_claim d 23 L (.ref r :: S) M N P Q = Wp mX12_claim d 26 L (.int (M r 49) :: S) M N P Q := wp_getfield rfl dX12_claim_23 rfl rfl hs rfl
theorem sX12_claim_26 : Wp mX12_claim d 26 L (.int z :: .int x :: S) M N P Q = (if z ≤ x then Wp mX12_claim d 47 L S M N P Q else Wp mX12_claim d 29 L S M N P Q) := wp_icmp_ge rfl dX12_claim_26 rfl
theorem sX12_claim_29 : Wp mX12_claim d 29 (.ref r :: L) S M N P Q = Wp mX12_claim d 30 (.ref r :: L) (.ref r :: S) M N P Q := wp_aload_n rfl dX12_claim_29 rfl
theorem sX12_claim_30 (hs : shk r = (12, 0)) : Wp mX12_claim d 30 L (.ref r :: S) M N P Q = Wp mX12_claim d 33 L (.ref (P r 48) :: S) M N P Q := wp_getfield rfl dX12_claim_30 rfl rfl hs rfl
theorem sX12_claim_33 : Wp mX12_claim d 33 (a0 :: a1 :: .int x :: L) S M N P Q = Wp mX12_claim d 34 (a0 :: a1 :: .int x :: L) (.int x :: S) M N P Q := wp_iload_n rfl dX12_claim_33 rfl
theorem sX12_claim_34 (hs : (shk r).1 = 100) : Wp mX12_claim d 34 L (.int j :: .ref r :: S) M N P Q = (vp_in j (shk r).2 ∧ Wp mX12_claim d 35 L (.int (M r j.toNatClampNeg) :: S) M N P Q) := wp_iaload rfl dX12_claim_34 (kd hs)
theorem sX12_claim_35 : Wp mX12_claim d 35 (a0 :: .int x :: L) S M N P Q = Wp mX12_claim d 36 (a0 :: .int x :: L) (.int x :: S) M N P Q := wp_iload_n rfl dX12_claim_35 rfl
theorem sX12_claim_36 : Wp mX12_claim d 36 L (.int z :: .int x :: S) M N P Q = (if x = z then Wp mX12_claim d 39 L S M N P Q else Wp mX12_claim d 41 L S M N P Q) := wp_icmp_ne rfl dX12_claim_36 rfl
theorem sX12_claim_39 : Wp mX12_claim d 39 L S M N P Q = Wp mX12_claim d 40 L (.int (-1) :: S) M N P Q := wp_iconst rfl dX12_claim_39 rfl
theorem sX12_claim_40 : Wp mX12_claim d 40 L [.int x] M N P Q = Q (some (.int x)) M N P := wp_iret rfl dX12_claim_40 rfl rfl
theorem sX12_claim_41 (hn : nl a1 = true) : Wp mX12_claim d 41 (a0 :: a1 :: .int x :: L) S M N P Q = Wp mX12_claim d 44 (a0 :: a1 :: .int (x + 1) :: L) S M N P Q := wp_iinc rfl dX12_claim_41 rfl rfl (okst2 hn) rfl
theorem sX12_claim_44 : Wp mX12_claim d 44 L S M N P Q = Wp mX12_claim d 21 L S M N P Q := wp_goto rfl dX12_claim_44 rfl
theorem sX12_claim_47 : Wp mX12_claim d 47 (.ref r :: L) S M N P Q = Wp mX12_claim d 48 (.ref r :: L) (.ref r :: S) M N P Q := wp_aload_n rfl dX12_claim_47 rfl
theorem sX12_claim_48 (hs : shk r = (12, 0)) : Wp mX12_claim d 48 L (.ref r :: S) M N P Q = Wp mX12_claim d 51 L (.ref (P r 48) :: S) M N P Q := wp_getfield rfl dX12_claim_48 rfl rfl hs rfl
theorem sX12_claim_51 : Wp mX12_claim d 51 (.ref r :: L) S M N P Q = Wp mX12_claim d 52 (.ref r :: L) (.ref r :: S) M N P Q := wp_aload_n rfl dX12_claim_51 rfl
theorem sX12_claim_52 (hs : shk r = (12, 0)) : Wp mX12_claim d 52 L (.ref r :: S) M N P Q = Wp mX12_claim d 55 L (.int (M r 49) :: S) M N P Q := wp_getfield rfl dX12_claim_52 rfl rfl hs rfl
theorem sX12_claim_55 : Wp mX12_claim d 55 (a0 :: .int x :: L) S M N P Q = Wp mX12_claim d 56 (a0 :: .int x :: L) (.int x :: S) M N P Q := wp_iload_n rfl dX12_claim_55 rfl
theorem sX12_claim_56 (hs : (shk r).1 = 100) : Wp mX12_claim d 56 L (.int x :: .int j :: .ref r :: S) M N P Q = (vp_in j (shk r).2 ∧ Wp mX12_claim d 57 L S (up2 M r j.toNatClampNeg x) N P Q) := wp_iastore rfl dX12_claim_56 (kd hs)
theorem sX12_claim_57 : Wp mX12_claim d 57 (.ref r :: L) S M N P Q = Wp mX12_claim d 58 (.ref r :: L) (.ref r :: S) M N P Q := wp_aload_n rfl dX12_claim_57 rfl
theorem sX12_claim_58 (hv : a0.category = 1) : Wp mX12_claim d 58 L (a0 :: S) M N P Q = Wp mX12_claim d 59 L (a0 :: a0 :: S) M N P Q := wp_dup rfl dX12_claim_58 hv
theorem sX12_claim_59 (hs : shk r = (12, 0)) : Wp mX12_claim d 59 L (.ref r :: S) M N P Q = Wp mX12_claim d 62 L (.int (M r 49) :: S) M N P Q := wp_getfield rfl dX12_claim_59 rfl rfl hs rfl
theorem sX12_claim_62 : Wp mX12_claim d 62 L S M N P Q = Wp mX12_claim d 63 L (.int 1 :: S) M N P Q := wp_iconst rfl dX12_claim_62 rfl
theorem sX12_claim_63 : Wp mX12_claim d 63 L (.int z :: .int x :: S) M N P Q = Wp mX12_claim d 64 L (.int (x + z) :: S) M N P Q := wp_iadd rfl dX12_claim_63
theorem sX12_claim_64 (hs : shk r = (12, 0)) : Wp mX12_claim d 64 L (.int x :: .ref r :: S) M N P Q = Wp mX12_claim d 67 L S (up2 M r 49 x) N P Q := wp_putI rfl dX12_claim_64 rfl rfl hs rfl ⟨_, _, _, _, rfl, by decide, rfl, tyX12_ok 49 (by decide), rfl, rfl⟩
theorem sX12_claim_67 : Wp mX12_claim d 67 (.ref r :: L) S M N P Q = Wp mX12_claim d 68 (.ref r :: L) (.ref r :: S) M N P Q := wp_aload_n rfl dX12_claim_67 rfl
theorem sX12_claim_68 (hs : shk r = (12, 0)) : Wp mX12_claim d 68 L (.ref r :: S) M N P Q = Wp mX12_claim d 71 L (.int (M r 49) :: S) M N P Q := wp_getfield rfl dX12_claim_68 rfl rfl hs rfl
theorem sX12_claim_71 : Wp mX12_claim d 71 L S M N P Q = Wp mX12_claim d 72 L (.int 1 :: S) M N P Q := wp_iconst rfl dX12_claim_71 rfl
theorem sX12_claim_72 : Wp mX12_claim d 72 L (.int z :: .int x :: S) M N P Q = Wp mX12_claim d 73 L (.int (x - z) :: S) M N P Q := wp_isub rfl dX12_claim_72
theorem sX12_claim_73 : Wp mX12_claim d 73 L [.int x] M N P Q = Q (some (.int x)) M N P := wp_iret rfl dX12_claim_73 rfl rfl
theorem sX12_look_0 : Wp mX12_look d 0 (a0 :: .int x :: L) S M N P Q = Wp mX12_look d 1 (a0 :: .int x :: L) (.int x :: S) M N P Q := wp_iload_n rfl dX12_look_0 rfl
theorem sX12_look_1 : Wp mX12_look d 1 L (.int x :: S) M N P Q = (if x < 0 then Wp mX12_look d 26 L S M N P Q else Wp mX12_look d 4 L S M N P Q) := wp_if_lt rfl dX12_look_1 rfl
theorem sX12_look_4 : Wp mX12_look d 4 (a0 :: .int x :: L) S M N P Q = Wp mX12_look d 5 (a0 :: .int x :: L) (.int x :: S) M N P Q := wp_iload_n rfl dX12_look_4 rfl
theorem sX12_look_5 : Wp mX12_look d 5 (.ref r :: L) S M N P Q = Wp mX12_look d 6 (.ref r :: L) (.ref r :: S) M N P Q := wp_aload_n rfl dX12_look_5 rfl
theorem sX12_look_6 (hs : shk r = (12, 0)) : Wp mX12_look d 6 L (.ref r :: S) M N P Q = Wp mX12_look d 9 L (.int (M r 49) :: S) M N P Q := wp_getfield rfl dX12_look_6 rfl rfl hs rfl
theorem sX12_look_9 : Wp mX12_look d 9 L (.int z :: .int x :: S) M N P Q = (if z ≤ x then Wp mX12_look d 26 L S M N P Q else Wp mX12_look d 12 L S M N P Q) := wp_icmp_ge rfl dX12_look_9 rfl
theorem sX12_look_12 : Wp mX12_look d 12 (.ref r :: L) S M N P Q = Wp mX12_look d 13 (.ref r :: L) (.ref r :: S) M N P Q := wp_aload_n rfl dX12_look_12 rfl
theorem sX12_look_13 : Wp mX12_look d 13 (.ref r :: L) S M N P Q = Wp mX12_look d 14 (.ref r :: L) (.ref r :: S) M N P Q := wp_aload_n rfl dX12_look_13 rfl
theorem sX12_look_14 (hs : shk r = (12, 0)) : Wp mX12_look d 14 L (.ref r :: S) M N P Q = Wp mX12_look d 17 L (.ref (P r 48) :: S) M N P Q := wp_getfield rfl dX12_look_14 rfl rfl hs rfl
theorem sX12_look_17 : Wp mX12_look d 17 (a0 :: .int x :: L) S M N P Q = Wp mX12_look d 18 (a0 :: .int x :: L) (.int x :: S) M N P Q := wp_iload_n rfl dX12_look_17 rfl
theorem sX12_look_18 (hs : (shk r).1 = 100) : Wp mX12_look d 18 L (.int j :: .ref r :: S) M N P Q = (vp_in j (shk r).2 ∧ Wp mX12_look d 19 L (.int (M r j.toNatClampNeg) :: S) M N P Q) := wp_iaload rfl dX12_look_18 (kd hs)
theorem sX12_look_19 : Wp mX12_look d 19 (a0 :: a1 :: .int x :: L) S M N P Q = Wp mX12_look d 20 (a0 :: a1 :: .int x :: L) (.int x :: S) M N P Q := wp_iload_n rfl dX12_look_19 rfl
theorem sX12_look_20 {x0 : Int32} {x1 : Int32} (hs : shk r = (12, 0)) (hS : stk S ≤ 8) : Wp mX12_look (d + 1) 20 L (.int x1 :: .int x0 :: .ref r :: S) M N P Q = Wp mX12_loose d 0 [.ref r, .int x0, .int x1] [] M N P (fun v M' N' P' => Wp mX12_look (d + 1) 23 L (v.toList ++ S) M' N' P' Q) := wp_callV (As := [.int x0, .int x1]) rfl dX12_look_20 rfl rfl (Or.inl ⟨_, _, _, hs, rfl⟩) rfl ⟨rfl, Nat.le_of_ble_eq_true rfl, Nat.le_of_ble_eq_true rfl⟩ rfl hS
theorem sX12_look_23 : Wp mX12_look d 23 L (.int x :: S) M N P Q = (if x = 0 then Wp mX12_look d 28 L S M N P Q else Wp mX12_look d 26 L S M N P Q) := wp_if_eq rfl dX12_look_23 rfl
theorem sX12_look_26 : Wp mX12_look d 26 L S M N P Q = Wp mX12_look d 27 L (.int 0 :: S) M N P Q := wp_iconst rfl dX12_look_26 rfl
theorem sX12_look_27 (hb : bit x) : Wp mX12_look d 27 L [.int x] M N P Q = Q (some (.int x)) M N P := wp_iret rfl dX12_look_27 rfl (bit_n hb)
theorem sX12_look_28 : Wp mX12_look d 28 (.ref r :: L) S M N P Q = Wp mX12_look d 29 (.ref r :: L) (.ref r :: S) M N P Q := wp_aload_n rfl dX12_look_28 rfl
theorem sX12_look_29 (hs : shk r = (12, 0)) : Wp mX12_look d 29 L (.ref r :: S) M N P Q = Wp mX12_look d 32 L (.ref (P r 48) :: S) M N P Q := wp_getfield rfl dX12_look_29 rfl rfl hs rfl
theorem sX12_look_32 : Wp mX12_look d 32 (a0 :: .int x :: L) S M N P Q = Wp mX12_look d 33 (a0 :: .int x :: L) (.int x :: S) M N P Q := wp_iload_n rfl dX12_look_32 rfl
theorem sX12_look_33 (hs : (shk r).1 = 100) : Wp mX12_look d 33 L (.int j :: .ref r :: S) M N P Q = (vp_in j (shk r).2 ∧ Wp mX12_look d 34 L (.int (M r j.toNatClampNeg) :: S) M N P Q) := wp_iaload rfl dX12_look_33 (kd hs)
theorem sX12_look_34 (hn : nl a2 = true) : Wp mX12_look d 34 (a0 :: a1 :: a2 :: a3 :: L) (.int x :: S) M N P Q = Wp mX12_look d 35 (a0 :: a1 :: a2 :: .int x :: L) S M N P Q := wp_istore_n rfl dX12_look_34 (lenGt3 ..) (okst3 hn) rfl
theorem sX12_look_35 : Wp mX12_look d 35 (.ref r :: L) S M N P Q = Wp mX12_look d 36 (.ref r :: L) (.ref r :: S) M N P Q := wp_aload_n rfl dX12_look_35 rfl
theorem sX12_look_36 (hs : shk r = (12, 0)) : Wp mX12_look d 36 L (.ref r :: S) M N P Q = Wp mX12_look d 39 L (.ref (P r 9) :: S) M N P Q := wp_getfield rfl dX12_look_36 rfl rfl hs rfl
theorem sX12_look_39 : Wp mX12_look d 39 (a0 :: a1 :: a2 :: .int x :: L) S M N P Q = Wp mX12_look d 40 (a0 :: a1 :: a2 :: .int x :: L) (.int x :: S) M N P Q := wp_iload_n rfl dX12_look_39 rfl
theorem sX12_look_40 (hs : (shk r).1 = 100) : Wp mX12_look d 40 L (.int j :: .ref r :: S) M N P Q = (vp_in j (shk r).2 ∧ Wp mX12_look d 41 L (.int (M r j.toNatClampNeg) :: S) M N P Q) := wp_iaload rfl dX12_look_40 (kd hs)
theorem sX12_look_41 (hn : nl a3 = true) : Wp mX12_look d 41 (a0 :: a1 :: a2 :: a3 :: a4 :: L) (.int x :: S) M N P Q = Wp mX12_look d 43 (a0 :: a1 :: a2 :: a3 :: .int x :: L) S M N P Q := wp_istore rfl dX12_look_41 (lenGt4 ..) (okst4 hn) rfl
theorem sX12_look_43 : Wp mX12_look d 43 (.ref r :: L) S M N P Q = Wp mX12_look d 44 (.ref r :: L) (.ref r :: S) M N P Q := wp_aload_n rfl dX12_look_43 rfl
theorem sX12_look_44 : Wp mX12_look d 44 (a0 :: a1 :: a2 :: a3 :: .int x :: L) S M N P Q = Wp mX12_look d 46 (a0 :: a1 :: a2 :: a3 :: .int x :: L) (.int x :: S) M N P Q := wp_iload rfl dX12_look_44 rfl
theorem sX12_look_46 : Wp mX12_look d 46 (a0 :: a1 :: .int x :: L) S M N P Q = Wp mX12_look d 47 (a0 :: a1 :: .int x :: L) (.int x :: S) M N P Q := wp_iload_n rfl dX12_look_46 rfl
theorem sX12_look_47 : Wp mX12_look d 47 (a0 :: a1 :: .int x :: L) S M N P Q = Wp mX12_look d 48 (a0 :: a1 :: .int x :: L) (.int x :: S) M N P Q := wp_iload_n rfl dX12_look_47 rfl
theorem sX12_look_48 {x0 : Int32} {x1 : Int32} {x2 : Int32} (hs : shk r = (12, 0)) (hS : stk S ≤ 8) : Wp mX12_look (d + 1) 48 L (.int x2 :: .int x1 :: .int x0 :: .ref r :: S) M N P Q = Wp mX12_follow d 0 [.ref r, .int x0, .int x1, .int x2, .float 0, .float 0, .float 0, .float 0] [] M N P (fun v M' N' P' => Wp mX12_look (d + 1) 51 L (v.toList ++ S) M' N' P' Q) := wp_callV (As := [.int x0, .int x1, .int x2]) rfl dX12_look_48 rfl rfl (Or.inl ⟨_, _, _, hs, rfl⟩) rfl ⟨rfl, Nat.le_of_ble_eq_true rfl, Nat.le_of_ble_eq_true rfl⟩ rfl hS
theorem sX12_look_51 (hn : nl a4 = true) : Wp mX12_look d 51 (a0 :: a1 :: a2 :: a3 :: a4 :: a5 :: L) (.int x :: S) M N P Q = Wp mX12_look d 53 (a0 :: a1 :: a2 :: a3 :: a4 :: .int x :: L) S M N P Q := wp_istore rfl dX12_look_51 (lenGt5 ..) (okst5 hn) rfl
theorem sX12_look_53 : Wp mX12_look d 53 L S M N P Q = Wp mX12_look d 54 L (.int 0 :: S) M N P Q := wp_iconst rfl dX12_look_53 rfl
theorem sX12_look_54 (hn : nl a5 = true) : Wp mX12_look d 54 (a0 :: a1 :: a2 :: a3 :: a4 :: a5 :: a6 :: L) (.int x :: S) M N P Q = Wp mX12_look d 56 (a0 :: a1 :: a2 :: a3 :: a4 :: a5 :: .int x :: L) S M N P Q := wp_istore rfl dX12_look_54 (lenGt6 ..) (okst6 hn) rfl
theorem sX12_look_56 : Wp mX12_look d 56 L S M N P Q = Wp mX12_look d 57 L (.int 0 :: S) M N P Q := wp_iconst rfl dX12_look_56 rfl
theorem sX12_look_57 (hn : nl a6 = true) : Wp mX12_look d 57 (a0 :: a1 :: a2 :: a3 :: a4 :: a5 :: a6 :: a7 :: L) (.int x :: S) M N P Q = Wp mX12_look d 59 (a0 :: a1 :: a2 :: a3 :: a4 :: a5 :: a6 :: .int x :: L) S M N P Q := wp_istore rfl dX12_look_57 (lenGt7 ..) (okst7 hn) rfl
theorem sX12_look_59 : Wp mX12_look d 59 L S M N P Q = Wp mX12_look d 60 L (.int 0 :: S) M N P Q := wp_iconst rfl dX12_look_59 rfl
theorem sX12_look_60 (hn : nl a7 = true) : Wp mX12_look d 60 (a0 :: a1 :: a2 :: a3 :: a4 :: a5 :: a6 :: a7 :: a8 :: L) (.int x :: S) M N P Q = Wp mX12_look d 62 (a0 :: a1 :: a2 :: a3 :: a4 :: a5 :: a6 :: a7 :: .int x :: L) S M N P Q := wp_istore rfl dX12_look_60 (lenGt8 ..) (okst8 hn) rfl
theorem sX12_look_62 : Wp mX12_look d 62 L S M N P Q = Wp mX12_look d 63 L (.int 0 :: S) M N P Q := wp_iconst rfl dX12_look_62 rfl
theorem sX12_look_63 (hn : nl a8 = true) : Wp mX12_look d 63 (a0 :: a1 :: a2 :: a3 :: a4 :: a5 :: a6 :: a7 :: a8 :: a9 :: L) (.int x :: S) M N P Q = Wp mX12_look d 65 (a0 :: a1 :: a2 :: a3 :: a4 :: a5 :: a6 :: a7 :: a8 :: .int x :: L) S M N P Q := wp_istore rfl dX12_look_63 (lenGt9 ..) (okst9 hn) rfl
theorem sX12_look_65 : Wp mX12_look d 65 (a0 :: a1 :: a2 :: a3 :: a4 :: a5 :: a6 :: a7 :: a8 :: .int x :: L) S M N P Q = Wp mX12_look d 67 (a0 :: a1 :: a2 :: a3 :: a4 :: a5 :: a6 :: a7 :: a8 :: .int x :: L) (.int x :: S) M N P Q := wp_iload rfl dX12_look_65 rfl
theorem sX12_look_67 : Wp mX12_look d 67 (.ref r :: L) S M N P Q = Wp mX12_look d 68 (.ref r :: L) (.ref r :: S) M N P Q := wp_aload_n rfl dX12_look_67 rfl
theorem sX12_look_68 (hs : shk r = (12, 0)) : Wp mX12_look d 68 L (.ref r :: S) M N P Q = Wp mX12_look d 71 L (.int (M r 20) :: S) M N P Q := wp_getfield rfl dX12_look_68 rfl rfl hs rfl
theorem sX12_look_71 : Wp mX12_look d 71 L (.int z :: .int x :: S) M N P Q = (if z ≤ x then Wp mX12_look d 173 L S M N P Q else Wp mX12_look d 74 L S M N P Q) := wp_icmp_ge rfl dX12_look_71 rfl
theorem sX12_look_74 : Wp mX12_look d 74 (.ref r :: L) S M N P Q = Wp mX12_look d 75 (.ref r :: L) (.ref r :: S) M N P Q := wp_aload_n rfl dX12_look_74 rfl
theorem sX12_look_75 (hs : shk r = (12, 0)) : Wp mX12_look d 75 L (.ref r :: S) M N P Q = Wp mX12_look d 78 L (.ref (P r 17) :: S) M N P Q := wp_getfield rfl dX12_look_75 rfl rfl hs rfl
theorem sX12_look_78 : Wp mX12_look d 78 (a0 :: a1 :: a2 :: a3 :: a4 :: a5 :: a6 :: a7 :: a8 :: .int x :: L) S M N P Q = Wp mX12_look d 80 (a0 :: a1 :: a2 :: a3 :: a4 :: a5 :: a6 :: a7 :: a8 :: .int x :: L) (.int x :: S) M N P Q := wp_iload rfl dX12_look_78 rfl
theorem sX12_look_80 (hs : (shk r).1 = 100) : Wp mX12_look d 80 L (.int j :: .ref r :: S) M N P Q = (vp_in j (shk r).2 ∧ Wp mX12_look d 81 L (.int (M r j.toNatClampNeg) :: S) M N P Q) := wp_iaload rfl dX12_look_80 (kd hs)
theorem sX12_look_81 (hn : nl a9 = true) : Wp mX12_look d 81 (a0 :: a1 :: a2 :: a3 :: a4 :: a5 :: a6 :: a7 :: a8 :: a9 :: a10 :: L) (.int x :: S) M N P Q = Wp mX12_look d 83 (a0 :: a1 :: a2 :: a3 :: a4 :: a5 :: a6 :: a7 :: a8 :: a9 :: .int x :: L) S M N P Q := wp_istore rfl dX12_look_81 (lenGt10 ..) (okst10 hn) rfl
theorem sX12_look_83 : Wp mX12_look d 83 (a0 :: a1 :: a2 :: a3 :: a4 :: a5 :: a6 :: a7 :: a8 :: a9 :: .int x :: L) S M N P Q = Wp mX12_look d 85 (a0 :: a1 :: a2 :: a3 :: a4 :: a5 :: a6 :: a7 :: a8 :: a9 :: .int x :: L) (.int x :: S) M N P Q := wp_iload rfl dX12_look_83 rfl
theorem sX12_look_85 : Wp mX12_look d 85 (a0 :: a1 :: a2 :: .int x :: L) S M N P Q = Wp mX12_look d 86 (a0 :: a1 :: a2 :: .int x :: L) (.int x :: S) M N P Q := wp_iload_n rfl dX12_look_85 rfl
theorem sX12_look_86 : Wp mX12_look d 86 L (.int z :: .int x :: S) M N P Q = (if x = z then Wp mX12_look d 89 L S M N P Q else Wp mX12_look d 95 L S M N P Q) := wp_icmp_ne rfl dX12_look_86 rfl
theorem sX12_look_89 : Wp mX12_look d 89 L S M N P Q = Wp mX12_look d 90 L (.int 1 :: S) M N P Q := wp_iconst rfl dX12_look_89 rfl
theorem sX12_look_90 (hn : nl a7 = true) : Wp mX12_look d 90 (a0 :: a1 :: a2 :: a3 :: a4 :: a5 :: a6 :: a7 :: a8 :: L) (.int x :: S) M N P Q = Wp mX12_look d 92 (a0 :: a1 :: a2 :: a3 :: a4 :: a5 :: a6 :: a7 :: .int x :: L) S M N P Q := wp_istore rfl dX12_look_90 (lenGt8 ..) (okst8 hn) rfl
theorem sX12_look_92 : Wp mX12_look d 92 L S M N P Q = Wp mX12_look d 167 L S M N P Q := wp_goto rfl dX12_look_92 rfl
theorem sX12_look_95 : Wp mX12_look d 95 (a0 :: a1 :: a2 :: a3 :: a4 :: a5 :: a6 :: a7 :: .int x :: L) S M N P Q = Wp mX12_look d 97 (a0 :: a1 :: a2 :: a3 :: a4 :: a5 :: a6 :: a7 :: .int x :: L) (.int x :: S) M N P Q := wp_iload rfl dX12_look_95 rfl
theorem sX12_look_97 : Wp mX12_look d 97 L (.int x :: S) M N P Q = (if x = 0 then Wp mX12_look d 100 L S M N P Q else Wp mX12_look d 138 L S M N P Q) := wp_if_ne rfl dX12_look_97 rfl
theorem sX12_look_100 : Wp mX12_look d 100 (.ref r :: L) S M N P Q = Wp mX12_look d 101 (.ref r :: L) (.ref r :: S) M N P Q := wp_aload_n rfl dX12_look_100 rfl
theorem sX12_look_101 (hs : shk r = (12, 0)) : Wp mX12_look d 101 L (.ref r :: S) M N P Q = Wp mX12_look d 104 L (.ref (P r 18) :: S) M N P Q := wp_getfield rfl dX12_look_101 rfl rfl hs rfl
theorem sX12_look_104 : Wp mX12_look d 104 (a0 :: a1 :: a2 :: a3 :: a4 :: a5 :: a6 :: a7 :: a8 :: a9 :: .int x :: L) S M N P Q = Wp mX12_look d 106 (a0 :: a1 :: a2 :: a3 :: a4 :: a5 :: a6 :: a7 :: a8 :: a9 :: .int x :: L) (.int x :: S) M N P Q := wp_iload rfl dX12_look_104 rfl
theorem sX12_look_106 (hc : isB (shk r).1 = true) : Wp mX12_look d 106 L (.int j :: .ref r :: S) M N P Q = (vp_in j (shk r).2 ∧ Wp mX12_look d 107 L (.int (M r j.toNatClampNeg) :: S) M N P Q) := wp_baload rfl dX12_look_106 (isB_or hc) (kd rfl)
theorem sX12_look_107 : Wp mX12_look d 107 L (.int x :: S) M N P Q = (if x = 0 then Wp mX12_look d 110 L S M N P Q else Wp mX12_look d 138 L S M N P Q) := wp_if_ne rfl dX12_look_107 rfl
theorem sX12_look_110 : Wp mX12_look d 110 (.ref r :: L) S M N P Q = Wp mX12_look d 111 (.ref r :: L) (.ref r :: S) M N P Q := wp_aload_n rfl dX12_look_110 rfl
theorem sX12_look_111 (hs : shk r = (12, 0)) : Wp mX12_look d 111 L (.ref r :: S) M N P Q = Wp mX12_look d 114 L (.ref (P r 11) :: S) M N P Q := wp_getfield rfl dX12_look_111 rfl rfl hs rfl
theorem sX12_look_114 : Wp mX12_look d 114 (a0 :: a1 :: a2 :: a3 :: a4 :: a5 :: a6 :: a7 :: a8 :: a9 :: .int x :: L) S M N P Q = Wp mX12_look d 116 (a0 :: a1 :: a2 :: a3 :: a4 :: a5 :: a6 :: a7 :: a8 :: a9 :: .int x :: L) (.int x :: S) M N P Q := wp_iload rfl dX12_look_114 rfl
theorem sX12_look_116 (hs : (shk r).1 = 100) : Wp mX12_look d 116 L (.int j :: .ref r :: S) M N P Q = (vp_in j (shk r).2 ∧ Wp mX12_look d 117 L (.int (M r j.toNatClampNeg) :: S) M N P Q) := wp_iaload rfl dX12_look_116 (kd hs)
theorem sX12_look_117 : Wp mX12_look d 117 (.ref r :: L) S M N P Q = Wp mX12_look d 118 (.ref r :: L) (.ref r :: S) M N P Q := wp_aload_n rfl dX12_look_117 rfl
theorem sX12_look_118 (hs : shk r = (12, 0)) : Wp mX12_look d 118 L (.ref r :: S) M N P Q = Wp mX12_look d 121 L (.ref (P r 10) :: S) M N P Q := wp_getfield rfl dX12_look_118 rfl rfl hs rfl
theorem sX12_look_121 : Wp mX12_look d 121 (a0 :: a1 :: a2 :: .int x :: L) S M N P Q = Wp mX12_look d 122 (a0 :: a1 :: a2 :: .int x :: L) (.int x :: S) M N P Q := wp_iload_n rfl dX12_look_121 rfl
theorem sX12_look_122 (hs : (shk r).1 = 100) : Wp mX12_look d 122 L (.int j :: .ref r :: S) M N P Q = (vp_in j (shk r).2 ∧ Wp mX12_look d 123 L (.int (M r j.toNatClampNeg) :: S) M N P Q) := wp_iaload rfl dX12_look_122 (kd hs)
theorem sX12_look_123 : Wp mX12_look d 123 L (.int z :: .int x :: S) M N P Q = (if x = z then Wp mX12_look d 126 L S M N P Q else Wp mX12_look d 138 L S M N P Q) := wp_icmp_ne rfl dX12_look_123 rfl
theorem sX12_look_126 : Wp mX12_look d 126 (.ref r :: L) S M N P Q = Wp mX12_look d 127 (.ref r :: L) (.ref r :: S) M N P Q := wp_aload_n rfl dX12_look_126 rfl
theorem sX12_look_127 (hs : shk r = (12, 0)) : Wp mX12_look d 127 L (.ref r :: S) M N P Q = Wp mX12_look d 130 L (.ref (P r 12) :: S) M N P Q := wp_getfield rfl dX12_look_127 rfl rfl hs rfl
theorem sX12_look_130 : Wp mX12_look d 130 (a0 :: a1 :: a2 :: a3 :: a4 :: a5 :: a6 :: a7 :: a8 :: a9 :: .int x :: L) S M N P Q = Wp mX12_look d 132 (a0 :: a1 :: a2 :: a3 :: a4 :: a5 :: a6 :: a7 :: a8 :: a9 :: .int x :: L) (.int x :: S) M N P Q := wp_iload rfl dX12_look_130 rfl
theorem sX12_look_132 (hs : (shk r).1 = 100) : Wp mX12_look d 132 L (.int j :: .ref r :: S) M N P Q = (vp_in j (shk r).2 ∧ Wp mX12_look d 133 L (.int (M r j.toNatClampNeg) :: S) M N P Q) := wp_iaload rfl dX12_look_132 (kd hs)
theorem sX12_look_133 (hn : nl a5 = true) : Wp mX12_look d 133 (a0 :: a1 :: a2 :: a3 :: a4 :: a5 :: a6 :: L) (.int x :: S) M N P Q = Wp mX12_look d 135 (a0 :: a1 :: a2 :: a3 :: a4 :: a5 :: .int x :: L) S M N P Q := wp_istore rfl dX12_look_133 (lenGt6 ..) (okst6 hn) rfl
theorem sX12_look_135 : Wp mX12_look d 135 L S M N P Q = Wp mX12_look d 167 L S M N P Q := wp_goto rfl dX12_look_135 rfl
theorem sX12_look_138 : Wp mX12_look d 138 (a0 :: a1 :: a2 :: a3 :: a4 :: a5 :: a6 :: a7 :: .int x :: L) S M N P Q = Wp mX12_look d 140 (a0 :: a1 :: a2 :: a3 :: a4 :: a5 :: a6 :: a7 :: .int x :: L) (.int x :: S) M N P Q := wp_iload rfl dX12_look_138 rfl
theorem sX12_look_140 : Wp mX12_look d 140 L (.int x :: S) M N P Q = (if x = 0 then Wp mX12_look d 167 L S M N P Q else Wp mX12_look d 143 L S M N P Q) := wp_if_eq rfl dX12_look_140 rfl
theorem sX12_look_143 : Wp mX12_look d 143 (.ref r :: L) S M N P Q = Wp mX12_look d 144 (.ref r :: L) (.ref r :: S) M N P Q := wp_aload_n rfl dX12_look_143 rfl
theorem sX12_look_144 (hs : shk r = (12, 0)) : Wp mX12_look d 144 L (.ref r :: S) M N P Q = Wp mX12_look d 147 L (.ref (P r 18) :: S) M N P Q := wp_getfield rfl dX12_look_144 rfl rfl hs rfl
theorem sX12_look_147 : Wp mX12_look d 147 (a0 :: a1 :: a2 :: a3 :: a4 :: a5 :: a6 :: a7 :: a8 :: a9 :: .int x :: L) S M N P Q = Wp mX12_look d 149 (a0 :: a1 :: a2 :: a3 :: a4 :: a5 :: a6 :: a7 :: a8 :: a9 :: .int x :: L) (.int x :: S) M N P Q := wp_iload rfl dX12_look_147 rfl
theorem sX12_look_149 (hc : isB (shk r).1 = true) : Wp mX12_look d 149 L (.int j :: .ref r :: S) M N P Q = (vp_in j (shk r).2 ∧ Wp mX12_look d 150 L (.int (M r j.toNatClampNeg) :: S) M N P Q) := wp_baload rfl dX12_look_149 (isB_or hc) (kd rfl)
theorem sX12_look_150 : Wp mX12_look d 150 L (.int x :: S) M N P Q = (if x = 0 then Wp mX12_look d 153 L S M N P Q else Wp mX12_look d 167 L S M N P Q) := wp_if_ne rfl dX12_look_150 rfl
theorem sX12_look_153 : Wp mX12_look d 153 (.ref r :: L) S M N P Q = Wp mX12_look d 154 (.ref r :: L) (.ref r :: S) M N P Q := wp_aload_n rfl dX12_look_153 rfl
theorem sX12_look_154 (hs : shk r = (12, 0)) : Wp mX12_look d 154 L (.ref r :: S) M N P Q = Wp mX12_look d 157 L (.ref (P r 12) :: S) M N P Q := wp_getfield rfl dX12_look_154 rfl rfl hs rfl
theorem sX12_look_157 : Wp mX12_look d 157 (a0 :: a1 :: a2 :: a3 :: a4 :: a5 :: a6 :: a7 :: a8 :: a9 :: .int x :: L) S M N P Q = Wp mX12_look d 159 (a0 :: a1 :: a2 :: a3 :: a4 :: a5 :: a6 :: a7 :: a8 :: a9 :: .int x :: L) (.int x :: S) M N P Q := wp_iload rfl dX12_look_157 rfl
theorem sX12_look_159 (hs : (shk r).1 = 100) : Wp mX12_look d 159 L (.int j :: .ref r :: S) M N P Q = (vp_in j (shk r).2 ∧ Wp mX12_look d 160 L (.int (M r j.toNatClampNeg) :: S) M N P Q) := wp_iaload rfl dX12_look_159 (kd hs)
theorem sX12_look_160 : Wp mX12_look d 160 (a0 :: a1 :: .int x :: L) S M N P Q = Wp mX12_look d 161 (a0 :: a1 :: .int x :: L) (.int x :: S) M N P Q := wp_iload_n rfl dX12_look_160 rfl
theorem sX12_look_161 : Wp mX12_look d 161 L (.int z :: .int x :: S) M N P Q = (if z < x then Wp mX12_look d 167 L S M N P Q else Wp mX12_look d 164 L S M N P Q) := wp_icmp_gt rfl dX12_look_161 rfl
theorem sX12_look_164 (hn : nl a6 = true) : Wp mX12_look d 164 (a0 :: a1 :: a2 :: a3 :: a4 :: a5 :: a6 :: .int x :: L) S M N P Q = Wp mX12_look d 167 (a0 :: a1 :: a2 :: a3 :: a4 :: a5 :: a6 :: .int (x + 1) :: L) S M N P Q := wp_iinc rfl dX12_look_164 rfl rfl (okst7 hn) rfl
theorem sX12_look_167 (hn : nl a8 = true) : Wp mX12_look d 167 (a0 :: a1 :: a2 :: a3 :: a4 :: a5 :: a6 :: a7 :: a8 :: .int x :: L) S M N P Q = Wp mX12_look d 170 (a0 :: a1 :: a2 :: a3 :: a4 :: a5 :: a6 :: a7 :: a8 :: .int (x + 1) :: L) S M N P Q := wp_iinc rfl dX12_look_167 rfl rfl (okst9 hn) rfl
theorem sX12_look_170 : Wp mX12_look d 170 L S M N P Q = Wp mX12_look d 65 L S M N P Q := wp_goto rfl dX12_look_170 rfl
theorem sX12_look_173 : Wp mX12_look d 173 (.ref r :: L) S M N P Q = Wp mX12_look d 174 (.ref r :: L) (.ref r :: S) M N P Q := wp_aload_n rfl dX12_look_173 rfl
theorem sX12_look_174 (hs : shk r = (12, 0)) : Wp mX12_look d 174 L (.ref r :: S) M N P Q = Wp mX12_look d 177 L (.ref (P r 47) :: S) M N P Q := wp_getfield rfl dX12_look_174 rfl rfl hs rfl
theorem sX12_look_177 : Wp mX12_look d 177 L S M N P Q = Wp mX12_look d 178 L (.int 0 :: S) M N P Q := wp_iconst rfl dX12_look_177 rfl
theorem sX12_look_178 : Wp mX12_look d 178 (.ref r :: L) S M N P Q = Wp mX12_look d 179 (.ref r :: L) (.ref r :: S) M N P Q := wp_aload_n rfl dX12_look_178 rfl
theorem sX12_look_179 (hs : shk r = (12, 0)) : Wp mX12_look d 179 L (.ref r :: S) M N P Q = Wp mX12_look d 182 L (.ref (P r 13) :: S) M N P Q := wp_getfield rfl dX12_look_179 rfl rfl hs rfl
theorem sX12_look_182 : Wp mX12_look d 182 (a0 :: a1 :: a2 :: .int x :: L) S M N P Q = Wp mX12_look d 183 (a0 :: a1 :: a2 :: .int x :: L) (.int x :: S) M N P Q := wp_iload_n rfl dX12_look_182 rfl
theorem sX12_look_183 (hs : (shk r).1 = 100) : Wp mX12_look d 183 L (.int j :: .ref r :: S) M N P Q = (vp_in j (shk r).2 ∧ Wp mX12_look d 184 L (.int (M r j.toNatClampNeg) :: S) M N P Q) := wp_iaload rfl dX12_look_183 (kd hs)
theorem sX12_look_184 : Wp mX12_look d 184 L S M N P Q = Wp mX12_look d 185 L (.int 1 :: S) M N P Q := wp_iconst rfl dX12_look_184 rfl
theorem sX12_look_185 : Wp mX12_look d 185 L (.int z :: .int x :: S) M N P Q = (if x = z then Wp mX12_look d 188 L S M N P Q else Wp mX12_look d 192 L S M N P Q) := wp_icmp_ne rfl dX12_look_185 rfl
theorem sX12_look_188 : Wp mX12_look d 188 L S M N P Q = Wp mX12_look d 189 L (.int 1 :: S) M N P Q := wp_iconst rfl dX12_look_188 rfl
theorem sX12_look_189 : Wp mX12_look d 189 L S M N P Q = Wp mX12_look d 193 L S M N P Q := wp_goto rfl dX12_look_189 rfl
theorem sX12_look_192 : Wp mX12_look d 192 L S M N P Q = Wp mX12_look d 193 L (.int 0 :: S) M N P Q := wp_iconst rfl dX12_look_192 rfl
theorem sX12_look_193 (hs : (shk r).1 = 100) : Wp mX12_look d 193 L (.int x :: .int j :: .ref r :: S) M N P Q = (vp_in j (shk r).2 ∧ Wp mX12_look d 194 L S (up2 M r j.toNatClampNeg x) N P Q) := wp_iastore rfl dX12_look_193 (kd hs)
theorem sX12_look_194 : Wp mX12_look d 194 (.ref r :: L) S M N P Q = Wp mX12_look d 195 (.ref r :: L) (.ref r :: S) M N P Q := wp_aload_n rfl dX12_look_194 rfl
theorem sX12_look_195 (hs : shk r = (12, 0)) : Wp mX12_look d 195 L (.ref r :: S) M N P Q = Wp mX12_look d 198 L (.ref (P r 47) :: S) M N P Q := wp_getfield rfl dX12_look_195 rfl rfl hs rfl
theorem sX12_look_198 : Wp mX12_look d 198 L S M N P Q = Wp mX12_look d 199 L (.int 1 :: S) M N P Q := wp_iconst rfl dX12_look_198 rfl
theorem sX12_look_199 : Wp mX12_look d 199 (.ref r :: L) S M N P Q = Wp mX12_look d 200 (.ref r :: L) (.ref r :: S) M N P Q := wp_aload_n rfl dX12_look_199 rfl
theorem sX12_look_200 (hs : shk r = (12, 0)) : Wp mX12_look d 200 L (.ref r :: S) M N P Q = Wp mX12_look d 203 L (.ref (P r 13) :: S) M N P Q := wp_getfield rfl dX12_look_200 rfl rfl hs rfl
theorem sX12_look_203 : Wp mX12_look d 203 (a0 :: a1 :: a2 :: .int x :: L) S M N P Q = Wp mX12_look d 204 (a0 :: a1 :: a2 :: .int x :: L) (.int x :: S) M N P Q := wp_iload_n rfl dX12_look_203 rfl
theorem sX12_look_204 (hs : (shk r).1 = 100) : Wp mX12_look d 204 L (.int j :: .ref r :: S) M N P Q = (vp_in j (shk r).2 ∧ Wp mX12_look d 205 L (.int (M r j.toNatClampNeg) :: S) M N P Q) := wp_iaload rfl dX12_look_204 (kd hs)
theorem sX12_look_205 : Wp mX12_look d 205 L S M N P Q = Wp mX12_look d 206 L (.int 2 :: S) M N P Q := wp_iconst rfl dX12_look_205 rfl
theorem sX12_look_206 : Wp mX12_look d 206 L (.int z :: .int x :: S) M N P Q = (if x = z then Wp mX12_look d 209 L S M N P Q else Wp mX12_look d 213 L S M N P Q) := wp_icmp_ne rfl dX12_look_206 rfl
theorem sX12_look_209 : Wp mX12_look d 209 L S M N P Q = Wp mX12_look d 210 L (.int 1 :: S) M N P Q := wp_iconst rfl dX12_look_209 rfl
theorem sX12_look_210 : Wp mX12_look d 210 L S M N P Q = Wp mX12_look d 214 L S M N P Q := wp_goto rfl dX12_look_210 rfl
theorem sX12_look_213 : Wp mX12_look d 213 L S M N P Q = Wp mX12_look d 214 L (.int 0 :: S) M N P Q := wp_iconst rfl dX12_look_213 rfl
theorem sX12_look_214 (hs : (shk r).1 = 100) : Wp mX12_look d 214 L (.int x :: .int j :: .ref r :: S) M N P Q = (vp_in j (shk r).2 ∧ Wp mX12_look d 215 L S (up2 M r j.toNatClampNeg x) N P Q) := wp_iastore rfl dX12_look_214 (kd hs)
theorem sX12_look_215 : Wp mX12_look d 215 (.ref r :: L) S M N P Q = Wp mX12_look d 216 (.ref r :: L) (.ref r :: S) M N P Q := wp_aload_n rfl dX12_look_215 rfl
theorem sX12_look_216 : Wp mX12_look d 216 (.ref r :: L) S M N P Q = Wp mX12_look d 217 (.ref r :: L) (.ref r :: S) M N P Q := wp_aload_n rfl dX12_look_216 rfl
theorem sX12_look_217 (hs : shk r = (12, 0)) : Wp mX12_look d 217 L (.ref r :: S) M N P Q = Wp mX12_look d 220 L (.ref (P r 14) :: S) M N P Q := wp_getfield rfl dX12_look_217 rfl rfl hs rfl
theorem sX12_look_220 : Wp mX12_look d 220 (a0 :: a1 :: a2 :: .int x :: L) S M N P Q = Wp mX12_look d 221 (a0 :: a1 :: a2 :: .int x :: L) (.int x :: S) M N P Q := wp_iload_n rfl dX12_look_220 rfl
theorem sX12_look_221 (hs : (shk r).1 = 100) : Wp mX12_look d 221 L (.int j :: .ref r :: S) M N P Q = (vp_in j (shk r).2 ∧ Wp mX12_look d 222 L (.int (M r j.toNatClampNeg) :: S) M N P Q) := wp_iaload rfl dX12_look_221 (kd hs)
theorem sX12_look_222 : Wp mX12_look d 222 (.ref r :: L) S M N P Q = Wp mX12_look d 223 (.ref r :: L) (.ref r :: S) M N P Q := wp_aload_n rfl dX12_look_222 rfl
theorem sX12_look_223 (hs : shk r = (12, 0)) : Wp mX12_look d 223 L (.ref r :: S) M N P Q = Wp mX12_look d 226 L (.ref (P r 12) :: S) M N P Q := wp_getfield rfl dX12_look_223 rfl rfl hs rfl
theorem sX12_look_226 : Wp mX12_look d 226 (a0 :: a1 :: a2 :: .int x :: L) S M N P Q = Wp mX12_look d 227 (a0 :: a1 :: a2 :: .int x :: L) (.int x :: S) M N P Q := wp_iload_n rfl dX12_look_226 rfl
theorem sX12_look_227 (hs : (shk r).1 = 100) : Wp mX12_look d 227 L (.int j :: .ref r :: S) M N P Q = (vp_in j (shk r).2 ∧ Wp mX12_look d 228 L (.int (M r j.toNatClampNeg) :: S) M N P Q) := wp_iaload rfl dX12_look_227 (kd hs)
theorem sX12_look_228 : Wp mX12_look d 228 L S M N P Q = Wp mX12_look d 231 L (.int 365 :: S) M N P Q := wp_sipush rfl dX12_look_228 rfl
theorem sX12_look_231 : Wp mX12_look d 231 L (.int z :: .int x :: S) M N P Q = (¬ z = 0 ∧ Wp mX12_look d 232 L (.int (x / z) :: S) M N P Q) := wp_idiv rfl dX12_look_231
theorem sX12_look_232 : Wp mX12_look d 232 L S M N P Q = Wp mX12_look d 234 L (.int 99 :: S) M N P Q := wp_bipush rfl dX12_look_232 rfl
theorem sX12_look_234 {x0 : Int32} {x1 : Int32} {x2 : Int32} (hs : shk r = (12, 0)) (hS : stk S ≤ 8) : Wp mX12_look (d + 1) 234 L (.int x2 :: .int x1 :: .int x0 :: .ref r :: S) M N P Q = Wp mX12_turned d 0 [.ref r, .int x0, .int x1, .int x2] [] M N P (fun v M' N' P' => Wp mX12_look (d + 1) 237 L (v.toList ++ S) M' N' P' Q) := wp_callV (As := [.int x0, .int x1, .int x2]) rfl dX12_look_234 rfl rfl (Or.inl ⟨_, _, _, hs, rfl⟩) rfl ⟨rfl, Nat.le_of_ble_eq_true rfl, Nat.le_of_ble_eq_true rfl⟩ rfl hS
theorem sX12_look_237 (hn : nl a8 = true) : Wp mX12_look d 237 (a0 :: a1 :: a2 :: a3 :: a4 :: a5 :: a6 :: a7 :: a8 :: a9 :: a10 :: L) (.long lx :: S) M N P Q = Wp mX12_look d 239 (a0 :: a1 :: a2 :: a3 :: a4 :: a5 :: a6 :: a7 :: a8 :: .long lx :: .float 0 :: L) S M N P Q := wp_lstore rfl dX12_look_237 (lenGt10 ..) (okst9 hn) rfl
theorem sX12_look_239 : Wp mX12_look d 239 (.ref r :: L) S M N P Q = Wp mX12_look d 240 (.ref r :: L) (.ref r :: S) M N P Q := wp_aload_n rfl dX12_look_239 rfl
theorem sX12_look_240 (hs : shk r = (12, 0)) : Wp mX12_look d 240 L (.ref r :: S) M N P Q = Wp mX12_look d 243 L (.ref (P r 47) :: S) M N P Q := wp_getfield rfl dX12_look_240 rfl rfl hs rfl
theorem sX12_look_243 : Wp mX12_look d 243 L S M N P Q = Wp mX12_look d 244 L (.int 2 :: S) M N P Q := wp_iconst rfl dX12_look_243 rfl
theorem sX12_look_244 : Wp mX12_look d 244 (a0 :: a1 :: a2 :: a3 :: a4 :: a5 :: a6 :: a7 :: a8 :: .long lx :: L) S M N P Q = Wp mX12_look d 246 (a0 :: a1 :: a2 :: a3 :: a4 :: a5 :: a6 :: a7 :: a8 :: .long lx :: L) (.long lx :: S) M N P Q := wp_lload rfl dX12_look_244 rfl
theorem sX12_look_246 : Wp mX12_look d 246 L S M N P Q = Wp mX12_look d 249 L (.long (2147483647) :: S) M N P Q := wp_ldc2_w rfl dX12_look_246 rfl rfl
theorem sX12_look_249 : Wp mX12_look d 249 L (.long lz :: .long lx :: S) M N P Q = Wp mX12_look d 250 L (.int (lg_cmp lx lz) :: S) M N P Q := wp_lcmp rfl dX12_look_249
theorem sX12_look_250 : Wp mX12_look d 250 L (.int x :: S) M N P Q = (if x ≤ 0 then Wp mX12_look d 259 L S M N P Q else Wp mX12_look d 253 L S M N P Q) := wp_if_le rfl dX12_look_250 rfl
theorem sX12_look_253 : Wp mX12_look d 253 L S M N P Q = Wp mX12_look d 256 L (.int (2147483647) :: S) M N P Q := wp_ldc_w rfl dX12_look_253 rfl rfl
theorem sX12_look_256 : Wp mX12_look d 256 L S M N P Q = Wp mX12_look d 262 L S M N P Q := wp_goto rfl dX12_look_256 rfl
theorem sX12_look_259 : Wp mX12_look d 259 (a0 :: a1 :: a2 :: a3 :: a4 :: a5 :: a6 :: a7 :: a8 :: .long lx :: L) S M N P Q = Wp mX12_look d 261 (a0 :: a1 :: a2 :: a3 :: a4 :: a5 :: a6 :: a7 :: a8 :: .long lx :: L) (.long lx :: S) M N P Q := wp_lload rfl dX12_look_259 rfl
theorem sX12_look_261 : Wp mX12_look d 261 L (.long lx :: S) M N P Q = Wp mX12_look d 262 L (.int lx.toInt32 :: S) M N P Q := wp_l2i rfl dX12_look_261
theorem sX12_look_262 (hs : (shk r).1 = 100) : Wp mX12_look d 262 L (.int x :: .int j :: .ref r :: S) M N P Q = (vp_in j (shk r).2 ∧ Wp mX12_look d 263 L S (up2 M r j.toNatClampNeg x) N P Q) := wp_iastore rfl dX12_look_262 (kd hs)
theorem sX12_look_263 : Wp mX12_look d 263 (.ref r :: L) S M N P Q = Wp mX12_look d 264 (.ref r :: L) (.ref r :: S) M N P Q := wp_aload_n rfl dX12_look_263 rfl
theorem sX12_look_264 (hs : shk r = (12, 0)) : Wp mX12_look d 264 L (.ref r :: S) M N P Q = Wp mX12_look d 267 L (.ref (P r 47) :: S) M N P Q := wp_getfield rfl dX12_look_264 rfl rfl hs rfl
theorem sX12_look_267 : Wp mX12_look d 267 L S M N P Q = Wp mX12_look d 268 L (.int 3 :: S) M N P Q := wp_iconst rfl dX12_look_267 rfl
theorem sX12_look_268 : Wp mX12_look d 268 (.ref r :: L) S M N P Q = Wp mX12_look d 269 (.ref r :: L) (.ref r :: S) M N P Q := wp_aload_n rfl dX12_look_268 rfl
theorem sX12_look_269 (hs : shk r = (12, 0)) : Wp mX12_look d 269 L (.ref r :: S) M N P Q = Wp mX12_look d 272 L (.ref (P r 4) :: S) M N P Q := wp_getfield rfl dX12_look_269 rfl rfl hs rfl
theorem sX12_look_272 : Wp mX12_look d 272 (a0 :: a1 :: a2 :: a3 :: .int x :: L) S M N P Q = Wp mX12_look d 274 (a0 :: a1 :: a2 :: a3 :: .int x :: L) (.int x :: S) M N P Q := wp_iload rfl dX12_look_272 rfl
theorem sX12_look_274 (hs : (shk r).1 = 100) : Wp mX12_look d 274 L (.int j :: .ref r :: S) M N P Q = (vp_in j (shk r).2 ∧ Wp mX12_look d 275 L (.int (M r j.toNatClampNeg) :: S) M N P Q) := wp_iaload rfl dX12_look_274 (kd hs)
theorem sX12_look_275 (hs : (shk r).1 = 100) : Wp mX12_look d 275 L (.int x :: .int j :: .ref r :: S) M N P Q = (vp_in j (shk r).2 ∧ Wp mX12_look d 276 L S (up2 M r j.toNatClampNeg x) N P Q) := wp_iastore rfl dX12_look_275 (kd hs)
theorem sX12_look_276 : Wp mX12_look d 276 (.ref r :: L) S M N P Q = Wp mX12_look d 277 (.ref r :: L) (.ref r :: S) M N P Q := wp_aload_n rfl dX12_look_276 rfl
theorem sX12_look_277 (hs : shk r = (12, 0)) : Wp mX12_look d 277 L (.ref r :: S) M N P Q = Wp mX12_look d 280 L (.ref (P r 47) :: S) M N P Q := wp_getfield rfl dX12_look_277 rfl rfl hs rfl
theorem sX12_look_280 : Wp mX12_look d 280 L S M N P Q = Wp mX12_look d 281 L (.int 4 :: S) M N P Q := wp_iconst rfl dX12_look_280 rfl
theorem sX12_look_281 : Wp mX12_look d 281 (.ref r :: L) S M N P Q = Wp mX12_look d 282 (.ref r :: L) (.ref r :: S) M N P Q := wp_aload_n rfl dX12_look_281 rfl
theorem sX12_look_282 (hs : shk r = (12, 0)) : Wp mX12_look d 282 L (.ref r :: S) M N P Q = Wp mX12_look d 285 L (.ref (P r 12) :: S) M N P Q := wp_getfield rfl dX12_look_282 rfl rfl hs rfl
theorem sX12_look_285 : Wp mX12_look d 285 (a0 :: a1 :: a2 :: .int x :: L) S M N P Q = Wp mX12_look d 286 (a0 :: a1 :: a2 :: .int x :: L) (.int x :: S) M N P Q := wp_iload_n rfl dX12_look_285 rfl
theorem sX12_look_286 (hs : (shk r).1 = 100) : Wp mX12_look d 286 L (.int j :: .ref r :: S) M N P Q = (vp_in j (shk r).2 ∧ Wp mX12_look d 287 L (.int (M r j.toNatClampNeg) :: S) M N P Q) := wp_iaload rfl dX12_look_286 (kd hs)
theorem sX12_look_287 : Wp mX12_look d 287 L S M N P Q = Wp mX12_look d 290 L (.int 365 :: S) M N P Q := wp_sipush rfl dX12_look_287 rfl
theorem sX12_look_290 : Wp mX12_look d 290 L (.int z :: .int x :: S) M N P Q = (¬ z = 0 ∧ Wp mX12_look d 291 L (.int (x / z) :: S) M N P Q) := wp_idiv rfl dX12_look_290
theorem sX12_look_291 (hs : (shk r).1 = 100) : Wp mX12_look d 291 L (.int x :: .int j :: .ref r :: S) M N P Q = (vp_in j (shk r).2 ∧ Wp mX12_look d 292 L S (up2 M r j.toNatClampNeg x) N P Q) := wp_iastore rfl dX12_look_291 (kd hs)
theorem sX12_look_292 : Wp mX12_look d 292 (.ref r :: L) S M N P Q = Wp mX12_look d 293 (.ref r :: L) (.ref r :: S) M N P Q := wp_aload_n rfl dX12_look_292 rfl
theorem sX12_look_293 (hs : shk r = (12, 0)) : Wp mX12_look d 293 L (.ref r :: S) M N P Q = Wp mX12_look d 296 L (.ref (P r 47) :: S) M N P Q := wp_getfield rfl dX12_look_293 rfl rfl hs rfl
theorem sX12_look_296 : Wp mX12_look d 296 L S M N P Q = Wp mX12_look d 297 L (.int 5 :: S) M N P Q := wp_iconst rfl dX12_look_296 rfl
theorem sX12_look_297 : Wp mX12_look d 297 (.ref r :: L) S M N P Q = Wp mX12_look d 298 (.ref r :: L) (.ref r :: S) M N P Q := wp_aload_n rfl dX12_look_297 rfl
theorem sX12_look_298 (hs : shk r = (12, 0)) : Wp mX12_look d 298 L (.ref r :: S) M N P Q = Wp mX12_look d 301 L (.ref (P r 12) :: S) M N P Q := wp_getfield rfl dX12_look_298 rfl rfl hs rfl
theorem sX12_look_301 : Wp mX12_look d 301 (a0 :: a1 :: a2 :: .int x :: L) S M N P Q = Wp mX12_look d 302 (a0 :: a1 :: a2 :: .int x :: L) (.int x :: S) M N P Q := wp_iload_n rfl dX12_look_301 rfl
theorem sX12_look_302 (hs : (shk r).1 = 100) : Wp mX12_look d 302 L (.int j :: .ref r :: S) M N P Q = (vp_in j (shk r).2 ∧ Wp mX12_look d 303 L (.int (M r j.toNatClampNeg) :: S) M N P Q) := wp_iaload rfl dX12_look_302 (kd hs)
theorem sX12_look_303 : Wp mX12_look d 303 (a0 :: a1 :: a2 :: a3 :: a4 :: a5 :: .int x :: L) S M N P Q = Wp mX12_look d 305 (a0 :: a1 :: a2 :: a3 :: a4 :: a5 :: .int x :: L) (.int x :: S) M N P Q := wp_iload rfl dX12_look_303 rfl
theorem sX12_look_305 : Wp mX12_look d 305 L (.int z :: .int x :: S) M N P Q = Wp mX12_look d 306 L (.int (x - z) :: S) M N P Q := wp_isub rfl dX12_look_305
theorem sX12_look_306 : Wp mX12_look d 306 L S M N P Q = Wp mX12_look d 309 L (.int 365 :: S) M N P Q := wp_sipush rfl dX12_look_306 rfl
theorem sX12_look_309 : Wp mX12_look d 309 L (.int z :: .int x :: S) M N P Q = (¬ z = 0 ∧ Wp mX12_look d 310 L (.int (x / z) :: S) M N P Q) := wp_idiv rfl dX12_look_309
theorem sX12_look_310 (hs : (shk r).1 = 100) : Wp mX12_look d 310 L (.int x :: .int j :: .ref r :: S) M N P Q = (vp_in j (shk r).2 ∧ Wp mX12_look d 311 L S (up2 M r j.toNatClampNeg x) N P Q) := wp_iastore rfl dX12_look_310 (kd hs)
theorem sX12_look_311 : Wp mX12_look d 311 (.ref r :: L) S M N P Q = Wp mX12_look d 312 (.ref r :: L) (.ref r :: S) M N P Q := wp_aload_n rfl dX12_look_311 rfl
theorem sX12_look_312 (hs : shk r = (12, 0)) : Wp mX12_look d 312 L (.ref r :: S) M N P Q = Wp mX12_look d 315 L (.ref (P r 47) :: S) M N P Q := wp_getfield rfl dX12_look_312 rfl rfl hs rfl
theorem sX12_look_315 : Wp mX12_look d 315 L S M N P Q = Wp mX12_look d 317 L (.int 6 :: S) M N P Q := wp_bipush rfl dX12_look_315 rfl
theorem sX12_look_317 : Wp mX12_look d 317 (a0 :: a1 :: a2 :: a3 :: a4 :: a5 :: a6 :: .int x :: L) S M N P Q = Wp mX12_look d 319 (a0 :: a1 :: a2 :: a3 :: a4 :: a5 :: a6 :: .int x :: L) (.int x :: S) M N P Q := wp_iload rfl dX12_look_317 rfl
theorem sX12_look_319 (hs : (shk r).1 = 100) : Wp mX12_look d 319 L (.int x :: .int j :: .ref r :: S) M N P Q = (vp_in j (shk r).2 ∧ Wp mX12_look d 320 L S (up2 M r j.toNatClampNeg x) N P Q) := wp_iastore rfl dX12_look_319 (kd hs)
theorem sX12_look_320 : Wp mX12_look d 320 (.ref r :: L) S M N P Q = Wp mX12_look d 321 (.ref r :: L) (.ref r :: S) M N P Q := wp_aload_n rfl dX12_look_320 rfl
theorem sX12_look_321 (hs : shk r = (12, 0)) : Wp mX12_look d 321 L (.ref r :: S) M N P Q = Wp mX12_look d 324 L (.ref (P r 47) :: S) M N P Q := wp_getfield rfl dX12_look_321 rfl rfl hs rfl
theorem sX12_look_324 : Wp mX12_look d 324 L S M N P Q = Wp mX12_look d 326 L (.int 7 :: S) M N P Q := wp_bipush rfl dX12_look_324 rfl
theorem sX12_look_326 : Wp mX12_look d 326 (a0 :: a1 :: a2 :: a3 :: a4 :: .int x :: L) S M N P Q = Wp mX12_look d 328 (a0 :: a1 :: a2 :: a3 :: a4 :: .int x :: L) (.int x :: S) M N P Q := wp_iload rfl dX12_look_326 rfl
theorem sX12_look_328 : Wp mX12_look d 328 (.ref r :: L) S M N P Q = Wp mX12_look d 329 (.ref r :: L) (.ref r :: S) M N P Q := wp_aload_n rfl dX12_look_328 rfl
theorem sX12_look_329 (hs : shk r = (12, 0)) : Wp mX12_look d 329 L (.ref r :: S) M N P Q = Wp mX12_look d 332 L (.ref (P r 11) :: S) M N P Q := wp_getfield rfl dX12_look_329 rfl rfl hs rfl
theorem sX12_look_332 : Wp mX12_look d 332 (a0 :: a1 :: a2 :: .int x :: L) S M N P Q = Wp mX12_look d 333 (a0 :: a1 :: a2 :: .int x :: L) (.int x :: S) M N P Q := wp_iload_n rfl dX12_look_332 rfl
theorem sX12_look_333 (hs : (shk r).1 = 100) : Wp mX12_look d 333 L (.int j :: .ref r :: S) M N P Q = (vp_in j (shk r).2 ∧ Wp mX12_look d 334 L (.int (M r j.toNatClampNeg) :: S) M N P Q) := wp_iaload rfl dX12_look_333 (kd hs)
theorem sX12_look_334 : Wp mX12_look d 334 L (.int z :: .int x :: S) M N P Q = (if x = z then Wp mX12_look d 337 L S M N P Q else Wp mX12_look d 341 L S M N P Q) := wp_icmp_ne rfl dX12_look_334 rfl
theorem sX12_look_337 : Wp mX12_look d 337 L S M N P Q = Wp mX12_look d 338 L (.int 1 :: S) M N P Q := wp_iconst rfl dX12_look_337 rfl
theorem sX12_look_338 : Wp mX12_look d 338 L S M N P Q = Wp mX12_look d 342 L S M N P Q := wp_goto rfl dX12_look_338 rfl
theorem sX12_look_341 : Wp mX12_look d 341 L S M N P Q = Wp mX12_look d 342 L (.int 0 :: S) M N P Q := wp_iconst rfl dX12_look_341 rfl
theorem sX12_look_342 (hs : (shk r).1 = 100) : Wp mX12_look d 342 L (.int x :: .int j :: .ref r :: S) M N P Q = (vp_in j (shk r).2 ∧ Wp mX12_look d 343 L S (up2 M r j.toNatClampNeg x) N P Q) := wp_iastore rfl dX12_look_342 (kd hs)
theorem sX12_look_343 : Wp mX12_look d 343 (.ref r :: L) S M N P Q = Wp mX12_look d 344 (.ref r :: L) (.ref r :: S) M N P Q := wp_aload_n rfl dX12_look_343 rfl
theorem sX12_look_344 (hs : shk r = (12, 0)) : Wp mX12_look d 344 L (.ref r :: S) M N P Q = Wp mX12_look d 347 L (.ref (P r 47) :: S) M N P Q := wp_getfield rfl dX12_look_344 rfl rfl hs rfl
theorem sX12_look_347 : Wp mX12_look d 347 L S M N P Q = Wp mX12_look d 349 L (.int 8 :: S) M N P Q := wp_bipush rfl dX12_look_347 rfl
theorem sX12_look_349 : Wp mX12_look d 349 (.ref r :: L) S M N P Q = Wp mX12_look d 350 (.ref r :: L) (.ref r :: S) M N P Q := wp_aload_n rfl dX12_look_349 rfl
theorem sX12_look_350 : Wp mX12_look d 350 (.ref r :: L) S M N P Q = Wp mX12_look d 351 (.ref r :: L) (.ref r :: S) M N P Q := wp_aload_n rfl dX12_look_350 rfl
theorem sX12_look_351 (hs : shk r = (12, 0)) : Wp mX12_look d 351 L (.ref r :: S) M N P Q = Wp mX12_look d 354 L (.ref (P r 10) :: S) M N P Q := wp_getfield rfl dX12_look_351 rfl rfl hs rfl
theorem sX12_look_354 : Wp mX12_look d 354 (a0 :: a1 :: a2 :: .int x :: L) S M N P Q = Wp mX12_look d 355 (a0 :: a1 :: a2 :: .int x :: L) (.int x :: S) M N P Q := wp_iload_n rfl dX12_look_354 rfl
theorem sX12_look_355 (hs : (shk r).1 = 100) : Wp mX12_look d 355 L (.int j :: .ref r :: S) M N P Q = (vp_in j (shk r).2 ∧ Wp mX12_look d 356 L (.int (M r j.toNatClampNeg) :: S) M N P Q) := wp_iaload rfl dX12_look_355 (kd hs)
theorem sX12_look_356 : Wp mX12_look d 356 (a0 :: a1 :: .int x :: L) S M N P Q = Wp mX12_look d 357 (a0 :: a1 :: .int x :: L) (.int x :: S) M N P Q := wp_iload_n rfl dX12_look_356 rfl
theorem sX12_look_357 {x0 : Int32} {x1 : Int32} (hs : shk r = (12, 0)) (hS : stk S ≤ 8) : Wp mX12_look (d + 1) 357 L (.int x1 :: .int x0 :: .ref r :: S) M N P Q = Wp mX12_isDead d 0 [.ref r, .int x0, .int x1] [] M N P (fun v M' N' P' => Wp mX12_look (d + 1) 360 L (v.toList ++ S) M' N' P' Q) := wp_callV (As := [.int x0, .int x1]) rfl dX12_look_357 rfl rfl (Or.inl ⟨_, _, _, hs, rfl⟩) rfl ⟨rfl, Nat.le_of_ble_eq_true rfl, Nat.le_of_ble_eq_true rfl⟩ rfl hS
theorem sX12_look_360 : Wp mX12_look d 360 L (.int x :: S) M N P Q = (if x = 0 then Wp mX12_look d 367 L S M N P Q else Wp mX12_look d 363 L S M N P Q) := wp_if_eq rfl dX12_look_360 rfl
theorem sX12_look_363 : Wp mX12_look d 363 L S M N P Q = Wp mX12_look d 364 L (.int 1 :: S) M N P Q := wp_iconst rfl dX12_look_363 rfl
theorem sX12_look_364 : Wp mX12_look d 364 L S M N P Q = Wp mX12_look d 368 L S M N P Q := wp_goto rfl dX12_look_364 rfl
theorem sX12_look_367 : Wp mX12_look d 367 L S M N P Q = Wp mX12_look d 368 L (.int 0 :: S) M N P Q := wp_iconst rfl dX12_look_367 rfl
theorem sX12_look_368 (hs : (shk r).1 = 100) : Wp mX12_look d 368 L (.int x :: .int j :: .ref r :: S) M N P Q = (vp_in j (shk r).2 ∧ Wp mX12_look d 369 L S (up2 M r j.toNatClampNeg x) N P Q) := wp_iastore rfl dX12_look_368 (kd hs)
theorem sX12_look_369 : Wp mX12_look d 369 L S M N P Q = Wp mX12_look d 370 L (.int 1 :: S) M N P Q := wp_iconst rfl dX12_look_369 rfl
theorem sX12_look_370 (hb : bit x) : Wp mX12_look d 370 L [.int x] M N P Q = Q (some (.int x)) M N P := wp_iret rfl dX12_look_370 rfl (bit_n hb)
theorem sX12_lineFor_0 : Wp mX12_lineFor d 0 L S M N P Q = Wp mX12_lineFor d 2 L (.int 16 :: S) M N P Q := wp_bipush rfl dX12_lineFor_0 rfl
theorem sX12_lineFor_2 : Wp mX12_lineFor d 2 (.ref r :: L) S M N P Q = Wp mX12_lineFor d 3 (.ref r :: L) (.ref r :: S) M N P Q := wp_aload_n rfl dX12_lineFor_2 rfl
theorem sX12_lineFor_3 (hs : shk r = (12, 0)) : Wp mX12_lineFor d 3 L (.ref r :: S) M N P Q = Wp mX12_lineFor d 6 L (.int (M r 39) :: S) M N P Q := wp_getfield rfl dX12_lineFor_3 rfl rfl hs rfl
theorem sX12_lineFor_6 : Wp mX12_lineFor d 6 L (.int z :: .int x :: S) M N P Q = Wp mX12_lineFor d 7 L (.int (x * z) :: S) M N P Q := wp_imul rfl dX12_lineFor_6
theorem sX12_lineFor_7 (hn : nl a0 = true) : Wp mX12_lineFor d 7 (a0 :: a1 :: L) (.int x :: S) M N P Q = Wp mX12_lineFor d 8 (a0 :: .int x :: L) S M N P Q := wp_istore_n rfl dX12_lineFor_7 (lenGt1 ..) (okst1 hn) rfl
theorem sX12_lineFor_8 : Wp mX12_lineFor d 8 (a0 :: .int x :: L) S M N P Q = Wp mX12_lineFor d 9 (a0 :: .int x :: L) (.int x :: S) M N P Q := wp_iload_n rfl dX12_lineFor_8 rfl
theorem sX12_lineFor_9 : Wp mX12_lineFor d 9 L S M N P Q = Wp mX12_lineFor d 11 L (.int 16 :: S) M N P Q := wp_bipush rfl dX12_lineFor_9 rfl
theorem sX12_lineFor_11 : Wp mX12_lineFor d 11 (.ref r :: L) S M N P Q = Wp mX12_lineFor d 12 (.ref r :: L) (.ref r :: S) M N P Q := wp_aload_n rfl dX12_lineFor_11 rfl
theorem sX12_lineFor_12 (hs : shk r = (12, 0)) : Wp mX12_lineFor d 12 L (.ref r :: S) M N P Q = Wp mX12_lineFor d 15 L (.int (M r 39) :: S) M N P Q := wp_getfield rfl dX12_lineFor_12 rfl rfl hs rfl
theorem sX12_lineFor_15 : Wp mX12_lineFor d 15 L (.int z :: .int x :: S) M N P Q = Wp mX12_lineFor d 16 L (.int (x * z) :: S) M N P Q := wp_imul rfl dX12_lineFor_15
theorem sX12_lineFor_16 : Wp mX12_lineFor d 16 (.ref r :: L) S M N P Q = Wp mX12_lineFor d 17 (.ref r :: L) (.ref r :: S) M N P Q := wp_aload_n rfl dX12_lineFor_16 rfl
theorem sX12_lineFor_17 (hs : shk r = (12, 0)) : Wp mX12_lineFor d 17 L (.ref r :: S) M N P Q = Wp mX12_lineFor d 20 L (.ref (P r 32) :: S) M N P Q := wp_getfield rfl dX12_lineFor_17 rfl rfl hs rfl
theorem sX12_lineFor_20 : Wp mX12_lineFor d 20 (.ref r :: L) S M N P Q = Wp mX12_lineFor d 21 (.ref r :: L) (.ref r :: S) M N P Q := wp_aload_n rfl dX12_lineFor_20 rfl
theorem sX12_lineFor_21 (hs : shk r = (12, 0)) : Wp mX12_lineFor d 21 L (.ref r :: S) M N P Q = Wp mX12_lineFor d 24 L (.int (M r 39) :: S) M N P Q := wp_getfield rfl dX12_lineFor_21 rfl rfl hs rfl
theorem sX12_lineFor_24 (hs : (shk r).1 = 100) : Wp mX12_lineFor d 24 L (.int j :: .ref r :: S) M N P Q = (vp_in j (shk r).2 ∧ Wp mX12_lineFor d 25 L (.int (M r j.toNatClampNeg) :: S) M N P Q) := wp_iaload rfl dX12_lineFor_24 (kd hs)
theorem sX12_lineFor_25 : Wp mX12_lineFor d 25 L (.int z :: .int x :: S) M N P Q = Wp mX12_lineFor d 26 L (.int (x + z) :: S) M N P Q := wp_iadd rfl dX12_lineFor_25
theorem sX12_lineFor_26 : Wp mX12_lineFor d 26 L (.int z :: .int x :: S) M N P Q = (if z ≤ x then Wp mX12_lineFor d 45 L S M N P Q else Wp mX12_lineFor d 29 L S M N P Q) := wp_icmp_ge rfl dX12_lineFor_26 rfl
theorem sX12_lineFor_29 : Wp mX12_lineFor d 29 (.ref r :: L) S M N P Q = Wp mX12_lineFor d 30 (.ref r :: L) (.ref r :: S) M N P Q := wp_aload_n rfl dX12_lineFor_29 rfl
theorem sX12_lineFor_30 : Wp mX12_lineFor d 30 (a0 :: .int x :: L) S M N P Q = Wp mX12_lineFor d 31 (a0 :: .int x :: L) (.int x :: S) M N P Q := wp_iload_n rfl dX12_lineFor_30 rfl
theorem sX12_lineFor_31 {x0 : Int32} (hs : shk r = (12, 0)) (hS : stk S ≤ 8) : Wp mX12_lineFor (d + 1) 31 L (.int x0 :: .ref r :: S) M N P Q = Wp mX12_holds d 0 [.ref r, .int x0, .float 0, .float 0, .float 0] [] M N P (fun v M' N' P' => Wp mX12_lineFor (d + 1) 34 L (v.toList ++ S) M' N' P' Q) := wp_callV (As := [.int x0]) rfl dX12_lineFor_31 rfl rfl (Or.inl ⟨_, _, _, hs, rfl⟩) rfl ⟨rfl, Nat.le_of_ble_eq_true rfl, Nat.le_of_ble_eq_true rfl⟩ rfl hS
theorem sX12_lineFor_34 : Wp mX12_lineFor d 34 L (.int x :: S) M N P Q = (if x = 0 then Wp mX12_lineFor d 39 L S M N P Q else Wp mX12_lineFor d 37 L S M N P Q) := wp_if_eq rfl dX12_lineFor_34 rfl
theorem sX12_lineFor_37 : Wp mX12_lineFor d 37 (a0 :: .int x :: L) S M N P Q = Wp mX12_lineFor d 38 (a0 :: .int x :: L) (.int x :: S) M N P Q := wp_iload_n rfl dX12_lineFor_37 rfl
theorem sX12_lineFor_38 : Wp mX12_lineFor d 38 L [.int x] M N P Q = Q (some (.int x)) M N P := wp_iret rfl dX12_lineFor_38 rfl rfl
theorem sX12_lineFor_39 (hn : nl a0 = true) : Wp mX12_lineFor d 39 (a0 :: .int x :: L) S M N P Q = Wp mX12_lineFor d 42 (a0 :: .int (x + 1) :: L) S M N P Q := wp_iinc rfl dX12_lineFor_39 rfl rfl (okst1 hn) rfl
theorem sX12_lineFor_42 : Wp mX12_lineFor d 42 L S M N P Q = Wp mX12_lineFor d 8 L S M N P Q := wp_goto rfl dX12_lineFor_42 rfl
theorem sX12_lineFor_45 : Wp mX12_lineFor d 45 L S M N P Q = Wp mX12_lineFor d 46 L (.int (-1) :: S) M N P Q := wp_iconst rfl dX12_lineFor_45 rfl
theorem sX12_lineFor_46 : Wp mX12_lineFor d 46 L [.int x] M N P Q = Q (some (.int x)) M N P := wp_iret rfl dX12_lineFor_46 rfl rfl
theorem sX12_ruling_0 : Wp mX12_ruling d 0 (.ref r :: L) S M N P Q = Wp mX12_ruling d 1 (.ref r :: L) (.ref r :: S) M N P Q := wp_aload_n rfl dX12_ruling_0 rfl
theorem sX12_ruling_1 : Wp mX12_ruling d 1 (a0 :: .int x :: L) S M N P Q = Wp mX12_ruling d 2 (a0 :: .int x :: L) (.int x :: S) M N P Q := wp_iload_n rfl dX12_ruling_1 rfl
theorem sX12_ruling_2 : Wp mX12_ruling d 2 (a0 :: a1 :: .int x :: L) S M N P Q = Wp mX12_ruling d 3 (a0 :: a1 :: .int x :: L) (.int x :: S) M N P Q := wp_iload_n rfl dX12_ruling_2 rfl
theorem sX12_ruling_3 {x0 : Int32} {x1 : Int32} (hs : shk r = (12, 0)) (hS : stk S ≤ 8) : Wp mX12_ruling (d + 1) 3 L (.int x1 :: .int x0 :: .ref r :: S) M N P Q = Wp mX12_look d 0 [.ref r, .int x0, .int x1, .float 0, .float 0, .float 0, .float 0, .float 0, .float 0, .float 0, .float 0] [] M N P (fun v M' N' P' => Wp mX12_ruling (d + 1) 6 L (v.toList ++ S) M' N' P' Q) := wp_callV (As := [.int x0, .int x1]) rfl dX12_ruling_3 rfl rfl (Or.inl ⟨_, _, _, hs, rfl⟩) rfl ⟨rfl, Nat.le_of_ble_eq_true rfl, Nat.le_of_ble_eq_true rfl⟩ rfl hS
theorem sX12_ruling_6 : Wp mX12_ruling d 6 L (.int x :: S) M N P Q = (if x = 0 then Wp mX12_ruling d 9 L S M N P Q else Wp mX12_ruling d 11 L S M N P Q) := wp_if_ne rfl dX12_ruling_6 rfl
theorem sX12_ruling_9 : Wp mX12_ruling d 9 L S M N P Q = Wp mX12_ruling d 10 L (.int (-1) :: S) M N P Q := wp_iconst rfl dX12_ruling_9 rfl
theorem sX12_ruling_10 : Wp mX12_ruling d 10 L [.int x] M N P Q = Q (some (.int x)) M N P := wp_iret rfl dX12_ruling_10 rfl rfl
theorem sX12_ruling_11 : Wp mX12_ruling d 11 (.ref r :: L) S M N P Q = Wp mX12_ruling d 12 (.ref r :: L) (.ref r :: S) M N P Q := wp_aload_n rfl dX12_ruling_11 rfl
theorem sX12_ruling_12 (hs : shk r = (12, 0)) (hS : stk S ≤ 8) : Wp mX12_ruling (d + 1) 12 L (.ref r :: S) M N P Q = Wp mX12_lineFor d 0 [.ref r, .float 0] [] M N P (fun v M' N' P' => Wp mX12_ruling (d + 1) 15 L (v.toList ++ S) M' N' P' Q) := wp_callV (As := []) rfl dX12_ruling_12 rfl rfl (Or.inl ⟨_, _, _, hs, rfl⟩) rfl ⟨rfl, Nat.le_of_ble_eq_true rfl, Nat.le_of_ble_eq_true rfl⟩ rfl hS
theorem sX12_ruling_15 (hn : nl a2 = true) : Wp mX12_ruling d 15 (a0 :: a1 :: a2 :: a3 :: L) (.int x :: S) M N P Q = Wp mX12_ruling d 16 (a0 :: a1 :: a2 :: .int x :: L) S M N P Q := wp_istore_n rfl dX12_ruling_15 (lenGt3 ..) (okst3 hn) rfl
theorem sX12_ruling_16 : Wp mX12_ruling d 16 (a0 :: a1 :: a2 :: .int x :: L) S M N P Q = Wp mX12_ruling d 17 (a0 :: a1 :: a2 :: .int x :: L) (.int x :: S) M N P Q := wp_iload_n rfl dX12_ruling_16 rfl
theorem sX12_ruling_17 : Wp mX12_ruling d 17 L (.int x :: S) M N P Q = (if 0 ≤ x then Wp mX12_ruling d 24 L S M N P Q else Wp mX12_ruling d 20 L S M N P Q) := wp_if_ge rfl dX12_ruling_17 rfl
theorem sX12_ruling_20 : Wp mX12_ruling d 20 L S M N P Q = Wp mX12_ruling d 21 L (.int 4 :: S) M N P Q := wp_iconst rfl dX12_ruling_20 rfl
theorem sX12_ruling_21 : Wp mX12_ruling d 21 L S M N P Q = Wp mX12_ruling d 30 L S M N P Q := wp_goto rfl dX12_ruling_21 rfl
theorem sX12_ruling_24 : Wp mX12_ruling d 24 (.ref r :: L) S M N P Q = Wp mX12_ruling d 25 (.ref r :: L) (.ref r :: S) M N P Q := wp_aload_n rfl dX12_ruling_24 rfl
theorem sX12_ruling_25 (hs : shk r = (12, 0)) : Wp mX12_ruling d 25 L (.ref r :: S) M N P Q = Wp mX12_ruling d 28 L (.ref (P r 33) :: S) M N P Q := wp_getfield rfl dX12_ruling_25 rfl rfl hs rfl
theorem sX12_ruling_28 : Wp mX12_ruling d 28 (a0 :: a1 :: a2 :: .int x :: L) S M N P Q = Wp mX12_ruling d 29 (a0 :: a1 :: a2 :: .int x :: L) (.int x :: S) M N P Q := wp_iload_n rfl dX12_ruling_28 rfl
theorem sX12_ruling_29 (hs : (shk r).1 = 100) : Wp mX12_ruling d 29 L (.int j :: .ref r :: S) M N P Q = (vp_in j (shk r).2 ∧ Wp mX12_ruling d 30 L (.int (M r j.toNatClampNeg) :: S) M N P Q) := wp_iaload rfl dX12_ruling_29 (kd hs)
theorem sX12_ruling_30 : Wp mX12_ruling d 30 L [.int x] M N P Q = Q (some (.int x)) M N P := wp_iret rfl dX12_ruling_30 rfl rfl
theorem sX12_sum_0 : Wp mX12_sum d 0 (.ref r :: L) S M N P Q = Wp mX12_sum d 1 (.ref r :: L) (.ref r :: S) M N P Q := wp_aload_n rfl dX12_sum_0 rfl
theorem sX12_sum_1 : Wp mX12_sum d 1 (a0 :: .int x :: L) S M N P Q = Wp mX12_sum d 2 (a0 :: .int x :: L) (.int x :: S) M N P Q := wp_iload_n rfl dX12_sum_1 rfl
theorem sX12_sum_2 : Wp mX12_sum d 2 (a0 :: a1 :: .int x :: L) S M N P Q = Wp mX12_sum d 3 (a0 :: a1 :: .int x :: L) (.int x :: S) M N P Q := wp_iload_n rfl dX12_sum_2 rfl
theorem sX12_sum_3 {x0 : Int32} {x1 : Int32} (hs : shk r = (12, 0)) (hS : stk S ≤ 8) : Wp mX12_sum (d + 1) 3 L (.int x1 :: .int x0 :: .ref r :: S) M N P Q = Wp mX12_look d 0 [.ref r, .int x0, .int x1, .float 0, .float 0, .float 0, .float 0, .float 0, .float 0, .float 0, .float 0] [] M N P (fun v M' N' P' => Wp mX12_sum (d + 1) 6 L (v.toList ++ S) M' N' P' Q) := wp_callV (As := [.int x0, .int x1]) rfl dX12_sum_3 rfl rfl (Or.inl ⟨_, _, _, hs, rfl⟩) rfl ⟨rfl, Nat.le_of_ble_eq_true rfl, Nat.le_of_ble_eq_true rfl⟩ rfl hS
theorem sX12_sum_6 : Wp mX12_sum d 6 L (.int x :: S) M N P Q = (if x = 0 then Wp mX12_sum d 9 L S M N P Q else Wp mX12_sum d 11 L S M N P Q) := wp_if_ne rfl dX12_sum_6 rfl
theorem sX12_sum_9 : Wp mX12_sum d 9 L S M N P Q = Wp mX12_sum d 10 L (.int (-1) :: S) M N P Q := wp_iconst rfl dX12_sum_9 rfl
theorem sX12_sum_10 : Wp mX12_sum d 10 L [.int x] M N P Q = Q (some (.int x)) M N P := wp_iret rfl dX12_sum_10 rfl rfl
theorem sX12_sum_11 : Wp mX12_sum d 11 (.ref r :: L) S M N P Q = Wp mX12_sum d 12 (.ref r :: L) (.ref r :: S) M N P Q := wp_aload_n rfl dX12_sum_11 rfl
theorem sX12_sum_12 (hs : shk r = (12, 0)) (hS : stk S ≤ 8) : Wp mX12_sum (d + 1) 12 L (.ref r :: S) M N P Q = Wp mX12_lineFor d 0 [.ref r, .float 0] [] M N P (fun v M' N' P' => Wp mX12_sum (d + 1) 15 L (v.toList ++ S) M' N' P' Q) := wp_callV (As := []) rfl dX12_sum_12 rfl rfl (Or.inl ⟨_, _, _, hs, rfl⟩) rfl ⟨rfl, Nat.le_of_ble_eq_true rfl, Nat.le_of_ble_eq_true rfl⟩ rfl hS
theorem sX12_sum_15 (hn : nl a2 = true) : Wp mX12_sum d 15 (a0 :: a1 :: a2 :: a3 :: L) (.int x :: S) M N P Q = Wp mX12_sum d 16 (a0 :: a1 :: a2 :: .int x :: L) S M N P Q := wp_istore_n rfl dX12_sum_15 (lenGt3 ..) (okst3 hn) rfl
theorem sX12_sum_16 : Wp mX12_sum d 16 (a0 :: a1 :: a2 :: .int x :: L) S M N P Q = Wp mX12_sum d 17 (a0 :: a1 :: a2 :: .int x :: L) (.int x :: S) M N P Q := wp_iload_n rfl dX12_sum_16 rfl
theorem sX12_sum_17 : Wp mX12_sum d 17 L (.int x :: S) M N P Q = (if 0 ≤ x then Wp mX12_sum d 24 L S M N P Q else Wp mX12_sum d 20 L S M N P Q) := wp_if_ge rfl dX12_sum_17 rfl
theorem sX12_sum_20 : Wp mX12_sum d 20 L S M N P Q = Wp mX12_sum d 21 L (.int 0 :: S) M N P Q := wp_iconst rfl dX12_sum_20 rfl
theorem sX12_sum_21 : Wp mX12_sum d 21 L S M N P Q = Wp mX12_sum d 44 L S M N P Q := wp_goto rfl dX12_sum_21 rfl
theorem sX12_sum_24 : Wp mX12_sum d 24 (.ref r :: L) S M N P Q = Wp mX12_sum d 25 (.ref r :: L) (.ref r :: S) M N P Q := wp_aload_n rfl dX12_sum_24 rfl
theorem sX12_sum_25 (hs : shk r = (12, 0)) : Wp mX12_sum d 25 L (.ref r :: S) M N P Q = Wp mX12_sum d 28 L (.ref (P r 47) :: S) M N P Q := wp_getfield rfl dX12_sum_25 rfl rfl hs rfl
theorem sX12_sum_28 : Wp mX12_sum d 28 L S M N P Q = Wp mX12_sum d 29 L (.int 3 :: S) M N P Q := wp_iconst rfl dX12_sum_28 rfl
theorem sX12_sum_29 (hs : (shk r).1 = 100) : Wp mX12_sum d 29 L (.int j :: .ref r :: S) M N P Q = (vp_in j (shk r).2 ∧ Wp mX12_sum d 30 L (.int (M r j.toNatClampNeg) :: S) M N P Q) := wp_iaload rfl dX12_sum_29 (kd hs)
theorem sX12_sum_30 : Wp mX12_sum d 30 L (.int x :: S) M N P Q = Wp mX12_sum d 31 L (.long x.toInt64 :: S) M N P Q := wp_i2l rfl dX12_sum_30
theorem sX12_sum_31 : Wp mX12_sum d 31 (.ref r :: L) S M N P Q = Wp mX12_sum d 32 (.ref r :: L) (.ref r :: S) M N P Q := wp_aload_n rfl dX12_sum_31 rfl
theorem sX12_sum_32 (hs : shk r = (12, 0)) : Wp mX12_sum d 32 L (.ref r :: S) M N P Q = Wp mX12_sum d 35 L (.ref (P r 34) :: S) M N P Q := wp_getfield rfl dX12_sum_32 rfl rfl hs rfl
theorem sX12_sum_35 : Wp mX12_sum d 35 (a0 :: a1 :: a2 :: .int x :: L) S M N P Q = Wp mX12_sum d 36 (a0 :: a1 :: a2 :: .int x :: L) (.int x :: S) M N P Q := wp_iload_n rfl dX12_sum_35 rfl
theorem sX12_sum_36 (hs : (shk r).1 = 100) : Wp mX12_sum d 36 L (.int j :: .ref r :: S) M N P Q = (vp_in j (shk r).2 ∧ Wp mX12_sum d 37 L (.int (M r j.toNatClampNeg) :: S) M N P Q) := wp_iaload rfl dX12_sum_36 (kd hs)
theorem sX12_sum_37 : Wp mX12_sum d 37 L (.int x :: S) M N P Q = Wp mX12_sum d 38 L (.long x.toInt64 :: S) M N P Q := wp_i2l rfl dX12_sum_37
theorem sX12_sum_38 : Wp mX12_sum d 38 L (.long lz :: .long lx :: S) M N P Q = Wp mX12_sum d 39 L (.long (lx * lz) :: S) M N P Q := wp_lmul rfl dX12_sum_38
theorem sX12_sum_39 : Wp mX12_sum d 39 L S M N P Q = Wp mX12_sum d 42 L (.long (100) :: S) M N P Q := wp_ldc2_w rfl dX12_sum_39 rfl rfl
theorem sX12_sum_42 : Wp mX12_sum d 42 L (.long lz :: .long lx :: S) M N P Q = (¬ lz = 0 ∧ Wp mX12_sum d 43 L (.long (lx / lz) :: S) M N P Q) := wp_ldiv rfl dX12_sum_42
theorem sX12_sum_43 : Wp mX12_sum d 43 L (.long lx :: S) M N P Q = Wp mX12_sum d 44 L (.int lx.toInt32 :: S) M N P Q := wp_l2i rfl dX12_sum_43
theorem sX12_sum_44 : Wp mX12_sum d 44 L [.int x] M N P Q = Q (some (.int x)) M N P := wp_iret rfl dX12_sum_44 rfl rfl
theorem sX12_term_0 : Wp mX12_term d 0 (a0 :: a1 :: .int x :: L) S M N P Q = Wp mX12_term d 1 (a0 :: a1 :: .int x :: L) (.int x :: S) M N P Q := wp_iload_n rfl dX12_term_0 rfl
theorem sX12_term_1 : Wp mX12_term d 1 L (.int x :: S) M N P Q = (if x < 0 then Wp mX12_term d 19 L S M N P Q else Wp mX12_term d 4 L S M N P Q) := wp_if_lt rfl dX12_term_1 rfl
theorem sX12_term_4 : Wp mX12_term d 4 (a0 :: a1 :: .int x :: L) S M N P Q = Wp mX12_term d 5 (a0 :: a1 :: .int x :: L) (.int x :: S) M N P Q := wp_iload_n rfl dX12_term_4 rfl
theorem sX12_term_5 : Wp mX12_term d 5 L S M N P Q = Wp mX12_term d 7 L (.int 8 :: S) M N P Q := wp_bipush rfl dX12_term_5 rfl
theorem sX12_term_7 : Wp mX12_term d 7 L (.int z :: .int x :: S) M N P Q = (if z < x then Wp mX12_term d 19 L S M N P Q else Wp mX12_term d 10 L S M N P Q) := wp_icmp_gt rfl dX12_term_7 rfl
theorem sX12_term_10 : Wp mX12_term d 10 (.ref r :: L) S M N P Q = Wp mX12_term d 11 (.ref r :: L) (.ref r :: S) M N P Q := wp_aload_n rfl dX12_term_10 rfl
theorem sX12_term_11 : Wp mX12_term d 11 (a0 :: .int x :: L) S M N P Q = Wp mX12_term d 12 (a0 :: .int x :: L) (.int x :: S) M N P Q := wp_iload_n rfl dX12_term_11 rfl
theorem sX12_term_12 : Wp mX12_term d 12 (a0 :: a1 :: a2 :: .int x :: L) S M N P Q = Wp mX12_term d 13 (a0 :: a1 :: a2 :: .int x :: L) (.int x :: S) M N P Q := wp_iload_n rfl dX12_term_12 rfl
theorem sX12_term_13 {x0 : Int32} {x1 : Int32} (hs : shk r = (12, 0)) (hS : stk S ≤ 8) : Wp mX12_term (d + 1) 13 L (.int x1 :: .int x0 :: .ref r :: S) M N P Q = Wp mX12_look d 0 [.ref r, .int x0, .int x1, .float 0, .float 0, .float 0, .float 0, .float 0, .float 0, .float 0, .float 0] [] M N P (fun v M' N' P' => Wp mX12_term (d + 1) 16 L (v.toList ++ S) M' N' P' Q) := wp_callV (As := [.int x0, .int x1]) rfl dX12_term_13 rfl rfl (Or.inl ⟨_, _, _, hs, rfl⟩) rfl ⟨rfl, Nat.le_of_ble_eq_true rfl, Nat.le_of_ble_eq_true rfl⟩ rfl hS
theorem sX12_term_16 : Wp mX12_term d 16 L (.int x :: S) M N P Q = (if x = 0 then Wp mX12_term d 19 L S M N P Q else Wp mX12_term d 23 L S M N P Q) := wp_if_ne rfl dX12_term_16 rfl
theorem sX12_term_19 : Wp mX12_term d 19 L S M N P Q = Wp mX12_term d 20 L (.int (-1) :: S) M N P Q := wp_iconst rfl dX12_term_19 rfl
theorem sX12_term_20 : Wp mX12_term d 20 L S M N P Q = Wp mX12_term d 29 L S M N P Q := wp_goto rfl dX12_term_20 rfl
theorem sX12_term_23 : Wp mX12_term d 23 (.ref r :: L) S M N P Q = Wp mX12_term d 24 (.ref r :: L) (.ref r :: S) M N P Q := wp_aload_n rfl dX12_term_23 rfl
theorem sX12_term_24 (hs : shk r = (12, 0)) : Wp mX12_term d 24 L (.ref r :: S) M N P Q = Wp mX12_term d 27 L (.ref (P r 47) :: S) M N P Q := wp_getfield rfl dX12_term_24 rfl rfl hs rfl
theorem sX12_term_27 : Wp mX12_term d 27 (a0 :: a1 :: .int x :: L) S M N P Q = Wp mX12_term d 28 (a0 :: a1 :: .int x :: L) (.int x :: S) M N P Q := wp_iload_n rfl dX12_term_27 rfl
theorem sX12_term_28 (hs : (shk r).1 = 100) : Wp mX12_term d 28 L (.int j :: .ref r :: S) M N P Q = (vp_in j (shk r).2 ∧ Wp mX12_term d 29 L (.int (M r j.toNatClampNeg) :: S) M N P Q) := wp_iaload rfl dX12_term_28 (kd hs)
theorem sX12_term_29 : Wp mX12_term d 29 L [.int x] M N P Q = Q (some (.int x)) M N P := wp_iret rfl dX12_term_29 rfl rfl
theorem sX12_divisor_0 : Wp mX12_divisor d 0 (.long lx :: L) S M N P Q = Wp mX12_divisor d 1 (.long lx :: L) (.long lx :: S) M N P Q := wp_lload_n rfl dX12_divisor_0 rfl
theorem sX12_divisor_1 (hn : nl a3 = true) : Wp mX12_divisor d 1 (a0 :: a1 :: a2 :: a3 :: a4 :: a5 :: L) (.long lx :: S) M N P Q = Wp mX12_divisor d 3 (a0 :: a1 :: a2 :: a3 :: .long lx :: .float 0 :: L) S M N P Q := wp_lstore rfl dX12_divisor_1 (lenGt5 ..) (okst4 hn) rfl
theorem sX12_divisor_3 : Wp mX12_divisor d 3 (a0 :: a1 :: .long lx :: L) S M N P Q = Wp mX12_divisor d 4 (a0 :: a1 :: .long lx :: L) (.long lx :: S) M N P Q := wp_lload_n rfl dX12_divisor_3 rfl
theorem sX12_divisor_4 (hn : nl a5 = true) : Wp mX12_divisor d 4 (a0 :: a1 :: a2 :: a3 :: a4 :: a5 :: a6 :: a7 :: L) (.long lx :: S) M N P Q = Wp mX12_divisor d 6 (a0 :: a1 :: a2 :: a3 :: a4 :: a5 :: .long lx :: .float 0 :: L) S M N P Q := wp_lstore rfl dX12_divisor_4 (lenGt7 ..) (okst6 hn) rfl
theorem sX12_divisor_6 : Wp mX12_divisor d 6 (a0 :: a1 :: a2 :: a3 :: a4 :: a5 :: .long lx :: L) S M N P Q = Wp mX12_divisor d 8 (a0 :: a1 :: a2 :: a3 :: a4 :: a5 :: .long lx :: L) (.long lx :: S) M N P Q := wp_lload rfl dX12_divisor_6 rfl
theorem sX12_divisor_8 : Wp mX12_divisor d 8 L S M N P Q = Wp mX12_divisor d 9 L (.long 0 :: S) M N P Q := wp_lconst rfl dX12_divisor_8 rfl
theorem sX12_divisor_9 : Wp mX12_divisor d 9 L (.long lz :: .long lx :: S) M N P Q = Wp mX12_divisor d 10 L (.int (lg_cmp lx lz) :: S) M N P Q := wp_lcmp rfl dX12_divisor_9
theorem sX12_divisor_10 : Wp mX12_divisor d 10 L (.int x :: S) M N P Q = (if x = 0 then Wp mX12_divisor d 31 L S M N P Q else Wp mX12_divisor d 13 L S M N P Q) := wp_if_eq rfl dX12_divisor_10 rfl
theorem sX12_divisor_13 : Wp mX12_divisor d 13 (a0 :: a1 :: a2 :: a3 :: .long lx :: L) S M N P Q = Wp mX12_divisor d 15 (a0 :: a1 :: a2 :: a3 :: .long lx :: L) (.long lx :: S) M N P Q := wp_lload rfl dX12_divisor_13 rfl
theorem sX12_divisor_15 : Wp mX12_divisor d 15 (a0 :: a1 :: a2 :: a3 :: a4 :: a5 :: .long lx :: L) S M N P Q = Wp mX12_divisor d 17 (a0 :: a1 :: a2 :: a3 :: a4 :: a5 :: .long lx :: L) (.long lx :: S) M N P Q := wp_lload rfl dX12_divisor_15 rfl
theorem sX12_divisor_17 : Wp mX12_divisor d 17 L (.long lz :: .long lx :: S) M N P Q = (¬ lz = 0 ∧ Wp mX12_divisor d 18 L (.long (lx - lx / lz * lz) :: S) M N P Q) := wp_lrem rfl dX12_divisor_17
theorem sX12_divisor_18 (hn : nl a7 = true) : Wp mX12_divisor d 18 (a0 :: a1 :: a2 :: a3 :: a4 :: a5 :: a6 :: a7 :: a8 :: a9 :: L) (.long lx :: S) M N P Q = Wp mX12_divisor d 20 (a0 :: a1 :: a2 :: a3 :: a4 :: a5 :: a6 :: a7 :: .long lx :: .float 0 :: L) S M N P Q := wp_lstore rfl dX12_divisor_18 (lenGt9 ..) (okst8 hn) rfl
theorem sX12_divisor_20 : Wp mX12_divisor d 20 (a0 :: a1 :: a2 :: a3 :: a4 :: a5 :: .long lx :: L) S M N P Q = Wp mX12_divisor d 22 (a0 :: a1 :: a2 :: a3 :: a4 :: a5 :: .long lx :: L) (.long lx :: S) M N P Q := wp_lload rfl dX12_divisor_20 rfl
theorem sX12_divisor_22 (hn : nl a3 = true) : Wp mX12_divisor d 22 (a0 :: a1 :: a2 :: a3 :: a4 :: a5 :: L) (.long lx :: S) M N P Q = Wp mX12_divisor d 24 (a0 :: a1 :: a2 :: a3 :: .long lx :: .float 0 :: L) S M N P Q := wp_lstore rfl dX12_divisor_22 (lenGt5 ..) (okst4 hn) rfl
theorem sX12_divisor_24 : Wp mX12_divisor d 24 (a0 :: a1 :: a2 :: a3 :: a4 :: a5 :: a6 :: a7 :: .long lx :: L) S M N P Q = Wp mX12_divisor d 26 (a0 :: a1 :: a2 :: a3 :: a4 :: a5 :: a6 :: a7 :: .long lx :: L) (.long lx :: S) M N P Q := wp_lload rfl dX12_divisor_24 rfl
theorem sX12_divisor_26 (hn : nl a5 = true) : Wp mX12_divisor d 26 (a0 :: a1 :: a2 :: a3 :: a4 :: a5 :: a6 :: a7 :: L) (.long lx :: S) M N P Q = Wp mX12_divisor d 28 (a0 :: a1 :: a2 :: a3 :: a4 :: a5 :: .long lx :: .float 0 :: L) S M N P Q := wp_lstore rfl dX12_divisor_26 (lenGt7 ..) (okst6 hn) rfl
theorem sX12_divisor_28 : Wp mX12_divisor d 28 L S M N P Q = Wp mX12_divisor d 6 L S M N P Q := wp_goto rfl dX12_divisor_28 rfl
theorem sX12_divisor_31 : Wp mX12_divisor d 31 (a0 :: a1 :: a2 :: a3 :: .long lx :: L) S M N P Q = Wp mX12_divisor d 33 (a0 :: a1 :: a2 :: a3 :: .long lx :: L) (.long lx :: S) M N P Q := wp_lload rfl dX12_divisor_31 rfl
theorem sX12_divisor_33 : Wp mX12_divisor d 33 L [.long lx] M N P Q = Q (some (.long lx)) M N P := wp_lret rfl dX12_divisor_33 rfl
theorem sX12_isChild_0 : Wp mX12_isChild d 0 (.ref r :: L) S M N P Q = Wp mX12_isChild d 1 (.ref r :: L) (.ref r :: S) M N P Q := wp_aload_n rfl dX12_isChild_0 rfl
theorem sX12_isChild_1 (hs : shk r = (12, 0)) : Wp mX12_isChild d 1 L (.ref r :: S) M N P Q = Wp mX12_isChild d 4 L (.ref (P r 0) :: S) M N P Q := wp_getfield rfl dX12_isChild_1 rfl rfl hs rfl
theorem sX12_isChild_4 : Wp mX12_isChild d 4 (a0 :: .int x :: L) S M N P Q = Wp mX12_isChild d 5 (a0 :: .int x :: L) (.int x :: S) M N P Q := wp_iload_n rfl dX12_isChild_4 rfl
theorem sX12_isChild_5 (hs : (shk r).1 = 100) : Wp mX12_isChild d 5 L (.int j :: .ref r :: S) M N P Q = (vp_in j (shk r).2 ∧ Wp mX12_isChild d 6 L (.int (M r j.toNatClampNeg) :: S) M N P Q) := wp_iaload rfl dX12_isChild_5 (kd hs)
theorem sX12_isChild_6 : Wp mX12_isChild d 6 (a0 :: a1 :: .int x :: L) S M N P Q = Wp mX12_isChild d 7 (a0 :: a1 :: .int x :: L) (.int x :: S) M N P Q := wp_iload_n rfl dX12_isChild_6 rfl
theorem sX12_isChild_7 : Wp mX12_isChild d 7 L (.int z :: .int x :: S) M N P Q = (if x = z then Wp mX12_isChild d 20 L S M N P Q else Wp mX12_isChild d 10 L S M N P Q) := wp_icmp_eq rfl dX12_isChild_7 rfl
theorem sX12_isChild_10 : Wp mX12_isChild d 10 (.ref r :: L) S M N P Q = Wp mX12_isChild d 11 (.ref r :: L) (.ref r :: S) M N P Q := wp_aload_n rfl dX12_isChild_10 rfl
theorem sX12_isChild_11 (hs : shk r = (12, 0)) : Wp mX12_isChild d 11 L (.ref r :: S) M N P Q = Wp mX12_isChild d 14 L (.ref (P r 1) :: S) M N P Q := wp_getfield rfl dX12_isChild_11 rfl rfl hs rfl
theorem sX12_isChild_14 : Wp mX12_isChild d 14 (a0 :: .int x :: L) S M N P Q = Wp mX12_isChild d 15 (a0 :: .int x :: L) (.int x :: S) M N P Q := wp_iload_n rfl dX12_isChild_14 rfl
theorem sX12_isChild_15 (hs : (shk r).1 = 100) : Wp mX12_isChild d 15 L (.int j :: .ref r :: S) M N P Q = (vp_in j (shk r).2 ∧ Wp mX12_isChild d 16 L (.int (M r j.toNatClampNeg) :: S) M N P Q) := wp_iaload rfl dX12_isChild_15 (kd hs)
theorem sX12_isChild_16 : Wp mX12_isChild d 16 (a0 :: a1 :: .int x :: L) S M N P Q = Wp mX12_isChild d 17 (a0 :: a1 :: .int x :: L) (.int x :: S) M N P Q := wp_iload_n rfl dX12_isChild_16 rfl
theorem sX12_isChild_17 : Wp mX12_isChild d 17 L (.int z :: .int x :: S) M N P Q = (if x = z then Wp mX12_isChild d 20 L S M N P Q else Wp mX12_isChild d 24 L S M N P Q) := wp_icmp_ne rfl dX12_isChild_17 rfl
theorem sX12_isChild_20 : Wp mX12_isChild d 20 L S M N P Q = Wp mX12_isChild d 21 L (.int 1 :: S) M N P Q := wp_iconst rfl dX12_isChild_20 rfl
theorem sX12_isChild_21 : Wp mX12_isChild d 21 L S M N P Q = Wp mX12_isChild d 25 L S M N P Q := wp_goto rfl dX12_isChild_21 rfl
theorem sX12_isChild_24 : Wp mX12_isChild d 24 L S M N P Q = Wp mX12_isChild d 25 L (.int 0 :: S) M N P Q := wp_iconst rfl dX12_isChild_24 rfl
theorem sX12_isChild_25 (hb : bit x) : Wp mX12_isChild d 25 L [.int x] M N P Q = Q (some (.int x)) M N P := wp_iret rfl dX12_isChild_25 rfl (bit_n hb)
theorem sX12_gets_0 : Wp mX12_gets d 0 (.ref r :: L) S M N P Q = Wp mX12_gets d 1 (.ref r :: L) (.ref r :: S) M N P Q := wp_aload_n rfl dX12_gets_0 rfl
theorem sX12_gets_1 (hs : shk r = (12, 0)) : Wp mX12_gets d 1 L (.ref r :: S) M N P Q = Wp mX12_gets d 4 L (.ref (P r 50) :: S) M N P Q := wp_getfield rfl dX12_gets_1 rfl rfl hs rfl
theorem sX12_gets_4 : Wp mX12_gets d 4 (a0 :: .int x :: L) S M N P Q = Wp mX12_gets d 5 (a0 :: .int x :: L) (.int x :: S) M N P Q := wp_iload_n rfl dX12_gets_4 rfl
theorem sX12_gets_5 (hs : (shk r).1 = 104) : Wp mX12_gets d 5 L (.int j :: .ref r :: S) M N P Q = (vp_in j (shk r).2 ∧ Wp mX12_gets d 6 L (.long (N r j.toNatClampNeg) :: S) M N P Q) := wp_laload rfl dX12_gets_5 (kd hs)
theorem sX12_gets_6 : Wp mX12_gets d 6 (a0 :: a1 :: a2 :: a3 :: .long lx :: L) S M N P Q = Wp mX12_gets d 8 (a0 :: a1 :: a2 :: a3 :: .long lx :: L) (.long lx :: S) M N P Q := wp_lload rfl dX12_gets_6 rfl
theorem sX12_gets_8 : Wp mX12_gets d 8 L (.long lz :: .long lx :: S) M N P Q = Wp mX12_gets d 9 L (.long (lx * lz) :: S) M N P Q := wp_lmul rfl dX12_gets_8
theorem sX12_gets_9 : Wp mX12_gets d 9 (a0 :: a1 :: .long lx :: L) S M N P Q = Wp mX12_gets d 10 (a0 :: a1 :: .long lx :: L) (.long lx :: S) M N P Q := wp_lload_n rfl dX12_gets_9 rfl
theorem sX12_gets_10 : Wp mX12_gets d 10 (.ref r :: L) S M N P Q = Wp mX12_gets d 11 (.ref r :: L) (.ref r :: S) M N P Q := wp_aload_n rfl dX12_gets_10 rfl
theorem sX12_gets_11 (hs : shk r = (12, 0)) : Wp mX12_gets d 11 L (.ref r :: S) M N P Q = Wp mX12_gets d 14 L (.ref (P r 51) :: S) M N P Q := wp_getfield rfl dX12_gets_11 rfl rfl hs rfl
theorem sX12_gets_14 : Wp mX12_gets d 14 (a0 :: .int x :: L) S M N P Q = Wp mX12_gets d 15 (a0 :: .int x :: L) (.int x :: S) M N P Q := wp_iload_n rfl dX12_gets_14 rfl
theorem sX12_gets_15 (hs : (shk r).1 = 104) : Wp mX12_gets d 15 L (.int j :: .ref r :: S) M N P Q = (vp_in j (shk r).2 ∧ Wp mX12_gets d 16 L (.long (N r j.toNatClampNeg) :: S) M N P Q) := wp_laload rfl dX12_gets_15 (kd hs)
theorem sX12_gets_16 : Wp mX12_gets d 16 L (.long lz :: .long lx :: S) M N P Q = Wp mX12_gets d 17 L (.long (lx * lz) :: S) M N P Q := wp_lmul rfl dX12_gets_16
theorem sX12_gets_17 : Wp mX12_gets d 17 L (.long lz :: .long lx :: S) M N P Q = Wp mX12_gets d 18 L (.long (lx + lz) :: S) M N P Q := wp_ladd rfl dX12_gets_17
theorem sX12_gets_18 (hn : nl a5 = true) : Wp mX12_gets d 18 (a0 :: a1 :: a2 :: a3 :: a4 :: a5 :: a6 :: a7 :: L) (.long lx :: S) M N P Q = Wp mX12_gets d 20 (a0 :: a1 :: a2 :: a3 :: a4 :: a5 :: .long lx :: .float 0 :: L) S M N P Q := wp_lstore rfl dX12_gets_18 (lenGt7 ..) (okst6 hn) rfl
theorem sX12_gets_20 : Wp mX12_gets d 20 (.ref r :: L) S M N P Q = Wp mX12_gets d 21 (.ref r :: L) (.ref r :: S) M N P Q := wp_aload_n rfl dX12_gets_20 rfl
theorem sX12_gets_21 (hs : shk r = (12, 0)) : Wp mX12_gets d 21 L (.ref r :: S) M N P Q = Wp mX12_gets d 24 L (.ref (P r 51) :: S) M N P Q := wp_getfield rfl dX12_gets_21 rfl rfl hs rfl
theorem sX12_gets_24 : Wp mX12_gets d 24 (a0 :: .int x :: L) S M N P Q = Wp mX12_gets d 25 (a0 :: .int x :: L) (.int x :: S) M N P Q := wp_iload_n rfl dX12_gets_24 rfl
theorem sX12_gets_25 (hs : (shk r).1 = 104) : Wp mX12_gets d 25 L (.int j :: .ref r :: S) M N P Q = (vp_in j (shk r).2 ∧ Wp mX12_gets d 26 L (.long (N r j.toNatClampNeg) :: S) M N P Q) := wp_laload rfl dX12_gets_25 (kd hs)
theorem sX12_gets_26 : Wp mX12_gets d 26 (a0 :: a1 :: a2 :: a3 :: .long lx :: L) S M N P Q = Wp mX12_gets d 28 (a0 :: a1 :: a2 :: a3 :: .long lx :: L) (.long lx :: S) M N P Q := wp_lload rfl dX12_gets_26 rfl
theorem sX12_gets_28 : Wp mX12_gets d 28 L (.long lz :: .long lx :: S) M N P Q = Wp mX12_gets d 29 L (.long (lx * lz) :: S) M N P Q := wp_lmul rfl dX12_gets_28
theorem sX12_gets_29 (hn : nl a7 = true) : Wp mX12_gets d 29 (a0 :: a1 :: a2 :: a3 :: a4 :: a5 :: a6 :: a7 :: a8 :: a9 :: L) (.long lx :: S) M N P Q = Wp mX12_gets d 31 (a0 :: a1 :: a2 :: a3 :: a4 :: a5 :: a6 :: a7 :: .long lx :: .float 0 :: L) S M N P Q := wp_lstore rfl dX12_gets_29 (lenGt9 ..) (okst8 hn) rfl
theorem sX12_gets_31 : Wp mX12_gets d 31 (a0 :: a1 :: a2 :: a3 :: a4 :: a5 :: .long lx :: L) S M N P Q = Wp mX12_gets d 33 (a0 :: a1 :: a2 :: a3 :: a4 :: a5 :: .long lx :: L) (.long lx :: S) M N P Q := wp_lload rfl dX12_gets_31 rfl
theorem sX12_gets_33 : Wp mX12_gets d 33 (a0 :: a1 :: a2 :: a3 :: a4 :: a5 :: a6 :: a7 :: .long lx :: L) S M N P Q = Wp mX12_gets d 35 (a0 :: a1 :: a2 :: a3 :: a4 :: a5 :: a6 :: a7 :: .long lx :: L) (.long lx :: S) M N P Q := wp_lload rfl dX12_gets_33 rfl
theorem sX12_gets_35 {lx0 : Int64} {lx1 : Int64} (hS : stk S ≤ 8) : Wp mX12_gets (d + 1) 35 L (.long lx1 :: .long lx0 :: S) M N P Q = Wp mX12_divisor d 0 [.long lx0, .float 0, .long lx1, .float 0, .float 0, .float 0, .float 0, .float 0, .float 0, .float 0] [] M N P (fun v M' N' P' => Wp mX12_gets (d + 1) 38 L (v.toList ++ S) M' N' P' Q) := wp_callS (As := [.long lx0, .long lx1]) rfl dX12_gets_35 rfl rfl rfl ⟨rfl, Nat.le_of_ble_eq_true rfl, Nat.le_of_ble_eq_true rfl⟩ rfl hS
theorem sX12_gets_38 (hn : nl a9 = true) : Wp mX12_gets d 38 (a0 :: a1 :: a2 :: a3 :: a4 :: a5 :: a6 :: a7 :: a8 :: a9 :: a10 :: a11 :: L) (.long lx :: S) M N P Q = Wp mX12_gets d 40 (a0 :: a1 :: a2 :: a3 :: a4 :: a5 :: a6 :: a7 :: a8 :: a9 :: .long lx :: .float 0 :: L) S M N P Q := wp_lstore rfl dX12_gets_38 (lenGt11 ..) (okst10 hn) rfl
theorem sX12_gets_40 : Wp mX12_gets d 40 (.ref r :: L) S M N P Q = Wp mX12_gets d 41 (.ref r :: L) (.ref r :: S) M N P Q := wp_aload_n rfl dX12_gets_40 rfl
theorem sX12_gets_41 (hs : shk r = (12, 0)) : Wp mX12_gets d 41 L (.ref r :: S) M N P Q = Wp mX12_gets d 44 L (.ref (P r 50) :: S) M N P Q := wp_getfield rfl dX12_gets_41 rfl rfl hs rfl
theorem sX12_gets_44 : Wp mX12_gets d 44 (a0 :: .int x :: L) S M N P Q = Wp mX12_gets d 45 (a0 :: .int x :: L) (.int x :: S) M N P Q := wp_iload_n rfl dX12_gets_44 rfl
theorem sX12_gets_45 : Wp mX12_gets d 45 (a0 :: a1 :: a2 :: a3 :: a4 :: a5 :: .long lx :: L) S M N P Q = Wp mX12_gets d 47 (a0 :: a1 :: a2 :: a3 :: a4 :: a5 :: .long lx :: L) (.long lx :: S) M N P Q := wp_lload rfl dX12_gets_45 rfl
theorem sX12_gets_47 : Wp mX12_gets d 47 (a0 :: a1 :: a2 :: a3 :: a4 :: a5 :: a6 :: a7 :: a8 :: a9 :: .long lx :: L) S M N P Q = Wp mX12_gets d 49 (a0 :: a1 :: a2 :: a3 :: a4 :: a5 :: a6 :: a7 :: a8 :: a9 :: .long lx :: L) (.long lx :: S) M N P Q := wp_lload rfl dX12_gets_47 rfl
theorem sX12_gets_49 : Wp mX12_gets d 49 L (.long lz :: .long lx :: S) M N P Q = (¬ lz = 0 ∧ Wp mX12_gets d 50 L (.long (lx / lz) :: S) M N P Q) := wp_ldiv rfl dX12_gets_49
theorem sX12_gets_50 (hs : (shk r).1 = 104) : Wp mX12_gets d 50 L (.long lx :: .int j :: .ref r :: S) M N P Q = (vp_in j (shk r).2 ∧ Wp mX12_gets d 51 L S M (up2 N r j.toNatClampNeg lx) P Q) := wp_lastore rfl dX12_gets_50 (kd hs)
theorem sX12_gets_51 : Wp mX12_gets d 51 (.ref r :: L) S M N P Q = Wp mX12_gets d 52 (.ref r :: L) (.ref r :: S) M N P Q := wp_aload_n rfl dX12_gets_51 rfl
theorem sX12_gets_52 (hs : shk r = (12, 0)) : Wp mX12_gets d 52 L (.ref r :: S) M N P Q = Wp mX12_gets d 55 L (.ref (P r 51) :: S) M N P Q := wp_getfield rfl dX12_gets_52 rfl rfl hs rfl
theorem sX12_gets_55 : Wp mX12_gets d 55 (a0 :: .int x :: L) S M N P Q = Wp mX12_gets d 56 (a0 :: .int x :: L) (.int x :: S) M N P Q := wp_iload_n rfl dX12_gets_55 rfl
theorem sX12_gets_56 : Wp mX12_gets d 56 (a0 :: a1 :: a2 :: a3 :: a4 :: a5 :: a6 :: a7 :: .long lx :: L) S M N P Q = Wp mX12_gets d 58 (a0 :: a1 :: a2 :: a3 :: a4 :: a5 :: a6 :: a7 :: .long lx :: L) (.long lx :: S) M N P Q := wp_lload rfl dX12_gets_56 rfl
theorem sX12_gets_58 : Wp mX12_gets d 58 (a0 :: a1 :: a2 :: a3 :: a4 :: a5 :: a6 :: a7 :: a8 :: a9 :: .long lx :: L) S M N P Q = Wp mX12_gets d 60 (a0 :: a1 :: a2 :: a3 :: a4 :: a5 :: a6 :: a7 :: a8 :: a9 :: .long lx :: L) (.long lx :: S) M N P Q := wp_lload rfl dX12_gets_58 rfl
theorem sX12_gets_60 : Wp mX12_gets d 60 L (.long lz :: .long lx :: S) M N P Q = (¬ lz = 0 ∧ Wp mX12_gets d 61 L (.long (lx / lz) :: S) M N P Q) := wp_ldiv rfl dX12_gets_60
theorem sX12_gets_61 (hs : (shk r).1 = 104) : Wp mX12_gets d 61 L (.long lx :: .int j :: .ref r :: S) M N P Q = (vp_in j (shk r).2 ∧ Wp mX12_gets d 62 L S M (up2 N r j.toNatClampNeg lx) P Q) := wp_lastore rfl dX12_gets_61 (kd hs)
theorem sX12_gets_62 : Wp mX12_gets d 62 L [] M N P Q = Q none M N P := wp_vret rfl dX12_gets_62 rfl
theorem sX12_handDown_0 : Wp mX12_handDown d 0 (.ref r :: L) S M N P Q = Wp mX12_handDown d 1 (.ref r :: L) (.ref r :: S) M N P Q := wp_aload_n rfl dX12_handDown_0 rfl
theorem sX12_handDown_1 (hs : shk r = (12, 0)) : Wp mX12_handDown d 1 L (.ref r :: S) M N P Q = Wp mX12_handDown d 4 L (.int (M r 6) :: S) M N P Q := wp_getfield rfl dX12_handDown_1 rfl rfl hs rfl
theorem sX12_handDown_4 : Wp mX12_handDown d 4 L S M N P Q = Wp mX12_handDown d 5 L (.int 1 :: S) M N P Q := wp_iconst rfl dX12_handDown_4 rfl
theorem sX12_handDown_5 : Wp mX12_handDown d 5 L (.int z :: .int x :: S) M N P Q = Wp mX12_handDown d 6 L (.int (x - z) :: S) M N P Q := wp_isub rfl dX12_handDown_5
theorem sX12_handDown_6 (hn : nl a2 = true) : Wp mX12_handDown d 6 (a0 :: a1 :: a2 :: a3 :: L) (.int x :: S) M N P Q = Wp mX12_handDown d 7 (a0 :: a1 :: a2 :: .int x :: L) S M N P Q := wp_istore_n rfl dX12_handDown_6 (lenGt3 ..) (okst3 hn) rfl
theorem sX12_handDown_7 : Wp mX12_handDown d 7 (a0 :: a1 :: a2 :: .int x :: L) S M N P Q = Wp mX12_handDown d 8 (a0 :: a1 :: a2 :: .int x :: L) (.int x :: S) M N P Q := wp_iload_n rfl dX12_handDown_7 rfl
theorem sX12_handDown_8 : Wp mX12_handDown d 8 L (.int x :: S) M N P Q = (if x < 0 then Wp mX12_handDown d 111 L S M N P Q else Wp mX12_handDown d 11 L S M N P Q) := wp_if_lt rfl dX12_handDown_8 rfl
theorem sX12_handDown_11 : Wp mX12_handDown d 11 (.ref r :: L) S M N P Q = Wp mX12_handDown d 12 (.ref r :: L) (.ref r :: S) M N P Q := wp_aload_n rfl dX12_handDown_11 rfl
theorem sX12_handDown_12 (hs : shk r = (12, 0)) : Wp mX12_handDown d 12 L (.ref r :: S) M N P Q = Wp mX12_handDown d 15 L (.ref (P r 52) :: S) M N P Q := wp_getfield rfl dX12_handDown_12 rfl rfl hs rfl
theorem sX12_handDown_15 : Wp mX12_handDown d 15 (a0 :: a1 :: a2 :: .int x :: L) S M N P Q = Wp mX12_handDown d 16 (a0 :: a1 :: a2 :: .int x :: L) (.int x :: S) M N P Q := wp_iload_n rfl dX12_handDown_15 rfl
theorem sX12_handDown_16 : Wp mX12_handDown d 16 (.ref r :: L) S M N P Q = Wp mX12_handDown d 17 (.ref r :: L) (.ref r :: S) M N P Q := wp_aload_n rfl dX12_handDown_16 rfl
theorem sX12_handDown_17 : Wp mX12_handDown d 17 (a0 :: a1 :: a2 :: .int x :: L) S M N P Q = Wp mX12_handDown d 18 (a0 :: a1 :: a2 :: .int x :: L) (.int x :: S) M N P Q := wp_iload_n rfl dX12_handDown_17 rfl
theorem sX12_handDown_18 : Wp mX12_handDown d 18 (a0 :: a1 :: .int x :: L) S M N P Q = Wp mX12_handDown d 19 (a0 :: a1 :: .int x :: L) (.int x :: S) M N P Q := wp_iload_n rfl dX12_handDown_18 rfl
theorem sX12_handDown_19 {x0 : Int32} {x1 : Int32} (hs : shk r = (12, 0)) (hS : stk S ≤ 8) : Wp mX12_handDown (d + 1) 19 L (.int x1 :: .int x0 :: .ref r :: S) M N P Q = Wp mX12_isDead d 0 [.ref r, .int x0, .int x1] [] M N P (fun v M' N' P' => Wp mX12_handDown (d + 1) 22 L (v.toList ++ S) M' N' P' Q) := wp_callV (As := [.int x0, .int x1]) rfl dX12_handDown_19 rfl rfl (Or.inl ⟨_, _, _, hs, rfl⟩) rfl ⟨rfl, Nat.le_of_ble_eq_true rfl, Nat.le_of_ble_eq_true rfl⟩ rfl hS
theorem sX12_handDown_22 : Wp mX12_handDown d 22 L (.int x :: S) M N P Q = (if x = 0 then Wp mX12_handDown d 25 L S M N P Q else Wp mX12_handDown d 29 L S M N P Q) := wp_if_ne rfl dX12_handDown_22 rfl
theorem sX12_handDown_25 : Wp mX12_handDown d 25 L S M N P Q = Wp mX12_handDown d 26 L (.int 1 :: S) M N P Q := wp_iconst rfl dX12_handDown_25 rfl
theorem sX12_handDown_26 : Wp mX12_handDown d 26 L S M N P Q = Wp mX12_handDown d 30 L S M N P Q := wp_goto rfl dX12_handDown_26 rfl
theorem sX12_handDown_29 : Wp mX12_handDown d 29 L S M N P Q = Wp mX12_handDown d 30 L (.int 0 :: S) M N P Q := wp_iconst rfl dX12_handDown_29 rfl
theorem sX12_handDown_30 (hs : (shk r).1 = 102) : Wp mX12_handDown d 30 L (.int x :: .int j :: .ref r :: S) M N P Q = (vp_in j (shk r).2 ∧ Wp mX12_handDown d 31 L S (up2 M r j.toNatClampNeg (x &&& 1)) N P Q) := wp_bastoreZ rfl dX12_handDown_30 (kd hs)
theorem sX12_handDown_31 : Wp mX12_handDown d 31 (a0 :: a1 :: a2 :: .int x :: L) S M N P Q = Wp mX12_handDown d 32 (a0 :: a1 :: a2 :: .int x :: L) (.int x :: S) M N P Q := wp_iload_n rfl dX12_handDown_31 rfl
theorem sX12_handDown_32 : Wp mX12_handDown d 32 L S M N P Q = Wp mX12_handDown d 33 L (.int 1 :: S) M N P Q := wp_iconst rfl dX12_handDown_32 rfl
theorem sX12_handDown_33 : Wp mX12_handDown d 33 L (.int z :: .int x :: S) M N P Q = Wp mX12_handDown d 34 L (.int (x + z) :: S) M N P Q := wp_iadd rfl dX12_handDown_33
theorem sX12_handDown_34 (hn : nl a3 = true) : Wp mX12_handDown d 34 (a0 :: a1 :: a2 :: a3 :: a4 :: L) (.int x :: S) M N P Q = Wp mX12_handDown d 36 (a0 :: a1 :: a2 :: a3 :: .int x :: L) S M N P Q := wp_istore rfl dX12_handDown_34 (lenGt4 ..) (okst4 hn) rfl
theorem sX12_handDown_36 : Wp mX12_handDown d 36 (a0 :: a1 :: a2 :: a3 :: .int x :: L) S M N P Q = Wp mX12_handDown d 38 (a0 :: a1 :: a2 :: a3 :: .int x :: L) (.int x :: S) M N P Q := wp_iload rfl dX12_handDown_36 rfl
theorem sX12_handDown_38 : Wp mX12_handDown d 38 (.ref r :: L) S M N P Q = Wp mX12_handDown d 39 (.ref r :: L) (.ref r :: S) M N P Q := wp_aload_n rfl dX12_handDown_38 rfl
theorem sX12_handDown_39 (hs : shk r = (12, 0)) : Wp mX12_handDown d 39 L (.ref r :: S) M N P Q = Wp mX12_handDown d 42 L (.int (M r 6) :: S) M N P Q := wp_getfield rfl dX12_handDown_39 rfl rfl hs rfl
theorem sX12_handDown_42 : Wp mX12_handDown d 42 L (.int z :: .int x :: S) M N P Q = (if z ≤ x then Wp mX12_handDown d 91 L S M N P Q else Wp mX12_handDown d 45 L S M N P Q) := wp_icmp_ge rfl dX12_handDown_42 rfl
theorem sX12_handDown_45 : Wp mX12_handDown d 45 (.ref r :: L) S M N P Q = Wp mX12_handDown d 46 (.ref r :: L) (.ref r :: S) M N P Q := wp_aload_n rfl dX12_handDown_45 rfl
theorem sX12_handDown_46 (hs : shk r = (12, 0)) : Wp mX12_handDown d 46 L (.ref r :: S) M N P Q = Wp mX12_handDown d 49 L (.ref (P r 52) :: S) M N P Q := wp_getfield rfl dX12_handDown_46 rfl rfl hs rfl
theorem sX12_handDown_49 : Wp mX12_handDown d 49 (a0 :: a1 :: a2 :: .int x :: L) S M N P Q = Wp mX12_handDown d 50 (a0 :: a1 :: a2 :: .int x :: L) (.int x :: S) M N P Q := wp_iload_n rfl dX12_handDown_49 rfl
theorem sX12_handDown_50 : Wp mX12_handDown d 50 (.ref r :: L) S M N P Q = Wp mX12_handDown d 51 (.ref r :: L) (.ref r :: S) M N P Q := wp_aload_n rfl dX12_handDown_50 rfl
theorem sX12_handDown_51 (hs : shk r = (12, 0)) : Wp mX12_handDown d 51 L (.ref r :: S) M N P Q = Wp mX12_handDown d 54 L (.ref (P r 52) :: S) M N P Q := wp_getfield rfl dX12_handDown_51 rfl rfl hs rfl
theorem sX12_handDown_54 : Wp mX12_handDown d 54 (a0 :: a1 :: a2 :: .int x :: L) S M N P Q = Wp mX12_handDown d 55 (a0 :: a1 :: a2 :: .int x :: L) (.int x :: S) M N P Q := wp_iload_n rfl dX12_handDown_54 rfl
theorem sX12_handDown_55 (hc : isB (shk r).1 = true) : Wp mX12_handDown d 55 L (.int j :: .ref r :: S) M N P Q = (vp_in j (shk r).2 ∧ Wp mX12_handDown d 56 L (.int (M r j.toNatClampNeg) :: S) M N P Q) := wp_baload rfl dX12_handDown_55 (isB_or hc) (kd rfl)
theorem sX12_handDown_56 : Wp mX12_handDown d 56 L (.int x :: S) M N P Q = (if x = 0 then Wp mX12_handDown d 59 L S M N P Q else Wp mX12_handDown d 79 L S M N P Q) := wp_if_ne rfl dX12_handDown_56 rfl
theorem sX12_handDown_59 : Wp mX12_handDown d 59 (.ref r :: L) S M N P Q = Wp mX12_handDown d 60 (.ref r :: L) (.ref r :: S) M N P Q := wp_aload_n rfl dX12_handDown_59 rfl
theorem sX12_handDown_60 : Wp mX12_handDown d 60 (a0 :: a1 :: a2 :: a3 :: .int x :: L) S M N P Q = Wp mX12_handDown d 62 (a0 :: a1 :: a2 :: a3 :: .int x :: L) (.int x :: S) M N P Q := wp_iload rfl dX12_handDown_60 rfl
theorem sX12_handDown_62 : Wp mX12_handDown d 62 (a0 :: a1 :: a2 :: .int x :: L) S M N P Q = Wp mX12_handDown d 63 (a0 :: a1 :: a2 :: .int x :: L) (.int x :: S) M N P Q := wp_iload_n rfl dX12_handDown_62 rfl
theorem sX12_handDown_63 {x0 : Int32} {x1 : Int32} (hs : shk r = (12, 0)) (hS : stk S ≤ 8) : Wp mX12_handDown (d + 1) 63 L (.int x1 :: .int x0 :: .ref r :: S) M N P Q = Wp mX12_isChild d 0 [.ref r, .int x0, .int x1] [] M N P (fun v M' N' P' => Wp mX12_handDown (d + 1) 66 L (v.toList ++ S) M' N' P' Q) := wp_callV (As := [.int x0, .int x1]) rfl dX12_handDown_63 rfl rfl (Or.inl ⟨_, _, _, hs, rfl⟩) rfl ⟨rfl, Nat.le_of_ble_eq_true rfl, Nat.le_of_ble_eq_true rfl⟩ rfl hS
theorem sX12_handDown_66 : Wp mX12_handDown d 66 L (.int x :: S) M N P Q = (if x = 0 then Wp mX12_handDown d 83 L S M N P Q else Wp mX12_handDown d 69 L S M N P Q) := wp_if_eq rfl dX12_handDown_66 rfl
theorem sX12_handDown_69 : Wp mX12_handDown d 69 (.ref r :: L) S M N P Q = Wp mX12_handDown d 70 (.ref r :: L) (.ref r :: S) M N P Q := wp_aload_n rfl dX12_handDown_69 rfl
theorem sX12_handDown_70 (hs : shk r = (12, 0)) : Wp mX12_handDown d 70 L (.ref r :: S) M N P Q = Wp mX12_handDown d 73 L (.ref (P r 52) :: S) M N P Q := wp_getfield rfl dX12_handDown_70 rfl rfl hs rfl
theorem sX12_handDown_73 : Wp mX12_handDown d 73 (a0 :: a1 :: a2 :: a3 :: .int x :: L) S M N P Q = Wp mX12_handDown d 75 (a0 :: a1 :: a2 :: a3 :: .int x :: L) (.int x :: S) M N P Q := wp_iload rfl dX12_handDown_73 rfl
theorem sX12_handDown_75 (hc : isB (shk r).1 = true) : Wp mX12_handDown d 75 L (.int j :: .ref r :: S) M N P Q = (vp_in j (shk r).2 ∧ Wp mX12_handDown d 76 L (.int (M r j.toNatClampNeg) :: S) M N P Q) := wp_baload rfl dX12_handDown_75 (isB_or hc) (kd rfl)
theorem sX12_handDown_76 : Wp mX12_handDown d 76 L (.int x :: S) M N P Q = (if x = 0 then Wp mX12_handDown d 83 L S M N P Q else Wp mX12_handDown d 79 L S M N P Q) := wp_if_eq rfl dX12_handDown_76 rfl
theorem sX12_handDown_79 : Wp mX12_handDown d 79 L S M N P Q = Wp mX12_handDown d 80 L (.int 1 :: S) M N P Q := wp_iconst rfl dX12_handDown_79 rfl
theorem sX12_handDown_80 : Wp mX12_handDown d 80 L S M N P Q = Wp mX12_handDown d 84 L S M N P Q := wp_goto rfl dX12_handDown_80 rfl
theorem sX12_handDown_83 : Wp mX12_handDown d 83 L S M N P Q = Wp mX12_handDown d 84 L (.int 0 :: S) M N P Q := wp_iconst rfl dX12_handDown_83 rfl
theorem sX12_handDown_84 (hs : (shk r).1 = 102) : Wp mX12_handDown d 84 L (.int x :: .int j :: .ref r :: S) M N P Q = (vp_in j (shk r).2 ∧ Wp mX12_handDown d 85 L S (up2 M r j.toNatClampNeg (x &&& 1)) N P Q) := wp_bastoreZ rfl dX12_handDown_84 (kd hs)
theorem sX12_handDown_85 (hn : nl a3 = true) : Wp mX12_handDown d 85 (a0 :: a1 :: a2 :: a3 :: .int x :: L) S M N P Q = Wp mX12_handDown d 88 (a0 :: a1 :: a2 :: a3 :: .int (x + 1) :: L) S M N P Q := wp_iinc rfl dX12_handDown_85 rfl rfl (okst4 hn) rfl
theorem sX12_handDown_88 : Wp mX12_handDown d 88 L S M N P Q = Wp mX12_handDown d 36 L S M N P Q := wp_goto rfl dX12_handDown_88 rfl
theorem sX12_handDown_91 : Wp mX12_handDown d 91 (.ref r :: L) S M N P Q = Wp mX12_handDown d 92 (.ref r :: L) (.ref r :: S) M N P Q := wp_aload_n rfl dX12_handDown_91 rfl
theorem sX12_handDown_92 (hs : shk r = (12, 0)) : Wp mX12_handDown d 92 L (.ref r :: S) M N P Q = Wp mX12_handDown d 95 L (.ref (P r 50) :: S) M N P Q := wp_getfield rfl dX12_handDown_92 rfl rfl hs rfl
theorem sX12_handDown_95 : Wp mX12_handDown d 95 (a0 :: a1 :: a2 :: .int x :: L) S M N P Q = Wp mX12_handDown d 96 (a0 :: a1 :: a2 :: .int x :: L) (.int x :: S) M N P Q := wp_iload_n rfl dX12_handDown_95 rfl
theorem sX12_handDown_96 : Wp mX12_handDown d 96 L S M N P Q = Wp mX12_handDown d 97 L (.long 0 :: S) M N P Q := wp_lconst rfl dX12_handDown_96 rfl
theorem sX12_handDown_97 (hs : (shk r).1 = 104) : Wp mX12_handDown d 97 L (.long lx :: .int j :: .ref r :: S) M N P Q = (vp_in j (shk r).2 ∧ Wp mX12_handDown d 98 L S M (up2 N r j.toNatClampNeg lx) P Q) := wp_lastore rfl dX12_handDown_97 (kd hs)
theorem sX12_handDown_98 : Wp mX12_handDown d 98 (.ref r :: L) S M N P Q = Wp mX12_handDown d 99 (.ref r :: L) (.ref r :: S) M N P Q := wp_aload_n rfl dX12_handDown_98 rfl
theorem sX12_handDown_99 (hs : shk r = (12, 0)) : Wp mX12_handDown d 99 L (.ref r :: S) M N P Q = Wp mX12_handDown d 102 L (.ref (P r 51) :: S) M N P Q := wp_getfield rfl dX12_handDown_99 rfl rfl hs rfl
theorem sX12_handDown_102 : Wp mX12_handDown d 102 (a0 :: a1 :: a2 :: .int x :: L) S M N P Q = Wp mX12_handDown d 103 (a0 :: a1 :: a2 :: .int x :: L) (.int x :: S) M N P Q := wp_iload_n rfl dX12_handDown_102 rfl
theorem sX12_handDown_103 : Wp mX12_handDown d 103 L S M N P Q = Wp mX12_handDown d 104 L (.long 1 :: S) M N P Q := wp_lconst rfl dX12_handDown_103 rfl
theorem sX12_handDown_104 (hs : (shk r).1 = 104) : Wp mX12_handDown d 104 L (.long lx :: .int j :: .ref r :: S) M N P Q = (vp_in j (shk r).2 ∧ Wp mX12_handDown d 105 L S M (up2 N r j.toNatClampNeg lx) P Q) := wp_lastore rfl dX12_handDown_104 (kd hs)
theorem sX12_handDown_105 (hn : nl a2 = true) : Wp mX12_handDown d 105 (a0 :: a1 :: a2 :: .int x :: L) S M N P Q = Wp mX12_handDown d 108 (a0 :: a1 :: a2 :: .int (x + (-1)) :: L) S M N P Q := wp_iinc rfl dX12_handDown_105 rfl rfl (okst3 hn) rfl
theorem sX12_handDown_108 : Wp mX12_handDown d 108 L S M N P Q = Wp mX12_handDown d 7 L S M N P Q := wp_goto rfl dX12_handDown_108 rfl
theorem sX12_handDown_111 : Wp mX12_handDown d 111 (.ref r :: L) S M N P Q = Wp mX12_handDown d 112 (.ref r :: L) (.ref r :: S) M N P Q := wp_aload_n rfl dX12_handDown_111 rfl
theorem sX12_handDown_112 (hs : shk r = (12, 0)) : Wp mX12_handDown d 112 L (.ref r :: S) M N P Q = Wp mX12_handDown d 115 L (.ref (P r 50) :: S) M N P Q := wp_getfield rfl dX12_handDown_112 rfl rfl hs rfl
theorem sX12_handDown_115 : Wp mX12_handDown d 115 (a0 :: .int x :: L) S M N P Q = Wp mX12_handDown d 116 (a0 :: .int x :: L) (.int x :: S) M N P Q := wp_iload_n rfl dX12_handDown_115 rfl
theorem sX12_handDown_116 : Wp mX12_handDown d 116 L S M N P Q = Wp mX12_handDown d 117 L (.long 1 :: S) M N P Q := wp_lconst rfl dX12_handDown_116 rfl
theorem sX12_handDown_117 (hs : (shk r).1 = 104) : Wp mX12_handDown d 117 L (.long lx :: .int j :: .ref r :: S) M N P Q = (vp_in j (shk r).2 ∧ Wp mX12_handDown d 118 L S M (up2 N r j.toNatClampNeg lx) P Q) := wp_lastore rfl dX12_handDown_117 (kd hs)
theorem sX12_handDown_118 : Wp mX12_handDown d 118 (a0 :: .int x :: L) S M N P Q = Wp mX12_handDown d 119 (a0 :: .int x :: L) (.int x :: S) M N P Q := wp_iload_n rfl dX12_handDown_118 rfl
theorem sX12_handDown_119 (hn : nl a2 = true) : Wp mX12_handDown d 119 (a0 :: a1 :: a2 :: a3 :: L) (.int x :: S) M N P Q = Wp mX12_handDown d 120 (a0 :: a1 :: a2 :: .int x :: L) S M N P Q := wp_istore_n rfl dX12_handDown_119 (lenGt3 ..) (okst3 hn) rfl
theorem sX12_handDown_120 : Wp mX12_handDown d 120 (a0 :: a1 :: a2 :: .int x :: L) S M N P Q = Wp mX12_handDown d 121 (a0 :: a1 :: a2 :: .int x :: L) (.int x :: S) M N P Q := wp_iload_n rfl dX12_handDown_120 rfl
theorem sX12_handDown_121 : Wp mX12_handDown d 121 (.ref r :: L) S M N P Q = Wp mX12_handDown d 122 (.ref r :: L) (.ref r :: S) M N P Q := wp_aload_n rfl dX12_handDown_121 rfl
theorem sX12_handDown_122 (hs : shk r = (12, 0)) : Wp mX12_handDown d 122 L (.ref r :: S) M N P Q = Wp mX12_handDown d 125 L (.int (M r 6) :: S) M N P Q := wp_getfield rfl dX12_handDown_122 rfl rfl hs rfl
theorem sX12_handDown_125 : Wp mX12_handDown d 125 L (.int z :: .int x :: S) M N P Q = (if z ≤ x then Wp mX12_handDown d 286 L S M N P Q else Wp mX12_handDown d 128 L S M N P Q) := wp_icmp_ge rfl dX12_handDown_125 rfl
theorem sX12_handDown_128 : Wp mX12_handDown d 128 (.ref r :: L) S M N P Q = Wp mX12_handDown d 129 (.ref r :: L) (.ref r :: S) M N P Q := wp_aload_n rfl dX12_handDown_128 rfl
theorem sX12_handDown_129 (hs : shk r = (12, 0)) : Wp mX12_handDown d 129 L (.ref r :: S) M N P Q = Wp mX12_handDown d 132 L (.ref (P r 50) :: S) M N P Q := wp_getfield rfl dX12_handDown_129 rfl rfl hs rfl
theorem sX12_handDown_132 : Wp mX12_handDown d 132 (a0 :: a1 :: a2 :: .int x :: L) S M N P Q = Wp mX12_handDown d 133 (a0 :: a1 :: a2 :: .int x :: L) (.int x :: S) M N P Q := wp_iload_n rfl dX12_handDown_132 rfl
theorem sX12_handDown_133 (hs : (shk r).1 = 104) : Wp mX12_handDown d 133 L (.int j :: .ref r :: S) M N P Q = (vp_in j (shk r).2 ∧ Wp mX12_handDown d 134 L (.long (N r j.toNatClampNeg) :: S) M N P Q) := wp_laload rfl dX12_handDown_133 (kd hs)
theorem sX12_handDown_134 : Wp mX12_handDown d 134 L S M N P Q = Wp mX12_handDown d 135 L (.long 0 :: S) M N P Q := wp_lconst rfl dX12_handDown_134 rfl
theorem sX12_handDown_135 : Wp mX12_handDown d 135 L (.long lz :: .long lx :: S) M N P Q = Wp mX12_handDown d 136 L (.int (lg_cmp lx lz) :: S) M N P Q := wp_lcmp rfl dX12_handDown_135
theorem sX12_handDown_136 : Wp mX12_handDown d 136 L (.int x :: S) M N P Q = (if x = 0 then Wp mX12_handDown d 280 L S M N P Q else Wp mX12_handDown d 139 L S M N P Q) := wp_if_eq rfl dX12_handDown_136 rfl
theorem sX12_handDown_139 : Wp mX12_handDown d 139 (.ref r :: L) S M N P Q = Wp mX12_handDown d 140 (.ref r :: L) (.ref r :: S) M N P Q := wp_aload_n rfl dX12_handDown_139 rfl
theorem sX12_handDown_140 : Wp mX12_handDown d 140 (a0 :: a1 :: a2 :: .int x :: L) S M N P Q = Wp mX12_handDown d 141 (a0 :: a1 :: a2 :: .int x :: L) (.int x :: S) M N P Q := wp_iload_n rfl dX12_handDown_140 rfl
theorem sX12_handDown_141 : Wp mX12_handDown d 141 (a0 :: a1 :: .int x :: L) S M N P Q = Wp mX12_handDown d 142 (a0 :: a1 :: .int x :: L) (.int x :: S) M N P Q := wp_iload_n rfl dX12_handDown_141 rfl
theorem sX12_handDown_142 {x0 : Int32} {x1 : Int32} (hs : shk r = (12, 0)) (hS : stk S ≤ 8) : Wp mX12_handDown (d + 1) 142 L (.int x1 :: .int x0 :: .ref r :: S) M N P Q = Wp mX12_isDead d 0 [.ref r, .int x0, .int x1] [] M N P (fun v M' N' P' => Wp mX12_handDown (d + 1) 145 L (v.toList ++ S) M' N' P' Q) := wp_callV (As := [.int x0, .int x1]) rfl dX12_handDown_142 rfl rfl (Or.inl ⟨_, _, _, hs, rfl⟩) rfl ⟨rfl, Nat.le_of_ble_eq_true rfl, Nat.le_of_ble_eq_true rfl⟩ rfl hS
theorem sX12_handDown_145 : Wp mX12_handDown d 145 L (.int x :: S) M N P Q = (if x = 0 then Wp mX12_handDown d 148 L S M N P Q else Wp mX12_handDown d 151 L S M N P Q) := wp_if_ne rfl dX12_handDown_145 rfl
theorem sX12_handDown_148 : Wp mX12_handDown d 148 L S M N P Q = Wp mX12_handDown d 280 L S M N P Q := wp_goto rfl dX12_handDown_148 rfl
theorem sX12_handDown_151 : Wp mX12_handDown d 151 L S M N P Q = Wp mX12_handDown d 152 L (.int 0 :: S) M N P Q := wp_iconst rfl dX12_handDown_151 rfl
theorem sX12_handDown_152 (hn : nl a3 = true) : Wp mX12_handDown d 152 (a0 :: a1 :: a2 :: a3 :: a4 :: L) (.int x :: S) M N P Q = Wp mX12_handDown d 154 (a0 :: a1 :: a2 :: a3 :: .int x :: L) S M N P Q := wp_istore rfl dX12_handDown_152 (lenGt4 ..) (okst4 hn) rfl
theorem sX12_handDown_154 : Wp mX12_handDown d 154 (a0 :: a1 :: a2 :: .int x :: L) S M N P Q = Wp mX12_handDown d 155 (a0 :: a1 :: a2 :: .int x :: L) (.int x :: S) M N P Q := wp_iload_n rfl dX12_handDown_154 rfl
theorem sX12_handDown_155 : Wp mX12_handDown d 155 L S M N P Q = Wp mX12_handDown d 156 L (.int 1 :: S) M N P Q := wp_iconst rfl dX12_handDown_155 rfl
theorem sX12_handDown_156 : Wp mX12_handDown d 156 L (.int z :: .int x :: S) M N P Q = Wp mX12_handDown d 157 L (.int (x + z) :: S) M N P Q := wp_iadd rfl dX12_handDown_156
theorem sX12_handDown_157 (hn : nl a4 = true) : Wp mX12_handDown d 157 (a0 :: a1 :: a2 :: a3 :: a4 :: a5 :: L) (.int x :: S) M N P Q = Wp mX12_handDown d 159 (a0 :: a1 :: a2 :: a3 :: a4 :: .int x :: L) S M N P Q := wp_istore rfl dX12_handDown_157 (lenGt5 ..) (okst5 hn) rfl
theorem sX12_handDown_159 : Wp mX12_handDown d 159 (a0 :: a1 :: a2 :: a3 :: a4 :: .int x :: L) S M N P Q = Wp mX12_handDown d 161 (a0 :: a1 :: a2 :: a3 :: a4 :: .int x :: L) (.int x :: S) M N P Q := wp_iload rfl dX12_handDown_159 rfl
theorem sX12_handDown_161 : Wp mX12_handDown d 161 (.ref r :: L) S M N P Q = Wp mX12_handDown d 162 (.ref r :: L) (.ref r :: S) M N P Q := wp_aload_n rfl dX12_handDown_161 rfl
theorem sX12_handDown_162 (hs : shk r = (12, 0)) : Wp mX12_handDown d 162 L (.ref r :: S) M N P Q = Wp mX12_handDown d 165 L (.int (M r 6) :: S) M N P Q := wp_getfield rfl dX12_handDown_162 rfl rfl hs rfl
theorem sX12_handDown_165 : Wp mX12_handDown d 165 L (.int z :: .int x :: S) M N P Q = (if z ≤ x then Wp mX12_handDown d 204 L S M N P Q else Wp mX12_handDown d 168 L S M N P Q) := wp_icmp_ge rfl dX12_handDown_165 rfl
theorem sX12_handDown_168 : Wp mX12_handDown d 168 (a0 :: a1 :: a2 :: a3 :: .int x :: L) S M N P Q = Wp mX12_handDown d 170 (a0 :: a1 :: a2 :: a3 :: .int x :: L) (.int x :: S) M N P Q := wp_iload rfl dX12_handDown_168 rfl
theorem sX12_handDown_170 : Wp mX12_handDown d 170 (.ref r :: L) S M N P Q = Wp mX12_handDown d 171 (.ref r :: L) (.ref r :: S) M N P Q := wp_aload_n rfl dX12_handDown_170 rfl
theorem sX12_handDown_171 : Wp mX12_handDown d 171 (a0 :: a1 :: a2 :: a3 :: a4 :: .int x :: L) S M N P Q = Wp mX12_handDown d 173 (a0 :: a1 :: a2 :: a3 :: a4 :: .int x :: L) (.int x :: S) M N P Q := wp_iload rfl dX12_handDown_171 rfl
theorem sX12_handDown_173 : Wp mX12_handDown d 173 (a0 :: a1 :: a2 :: .int x :: L) S M N P Q = Wp mX12_handDown d 174 (a0 :: a1 :: a2 :: .int x :: L) (.int x :: S) M N P Q := wp_iload_n rfl dX12_handDown_173 rfl
theorem sX12_handDown_174 {x0 : Int32} {x1 : Int32} (hs : shk r = (12, 0)) (hS : stk S ≤ 8) : Wp mX12_handDown (d + 1) 174 L (.int x1 :: .int x0 :: .ref r :: S) M N P Q = Wp mX12_isChild d 0 [.ref r, .int x0, .int x1] [] M N P (fun v M' N' P' => Wp mX12_handDown (d + 1) 177 L (v.toList ++ S) M' N' P' Q) := wp_callV (As := [.int x0, .int x1]) rfl dX12_handDown_174 rfl rfl (Or.inl ⟨_, _, _, hs, rfl⟩) rfl ⟨rfl, Nat.le_of_ble_eq_true rfl, Nat.le_of_ble_eq_true rfl⟩ rfl hS
theorem sX12_handDown_177 : Wp mX12_handDown d 177 L (.int x :: S) M N P Q = (if x = 0 then Wp mX12_handDown d 194 L S M N P Q else Wp mX12_handDown d 180 L S M N P Q) := wp_if_eq rfl dX12_handDown_177 rfl
theorem sX12_handDown_180 : Wp mX12_handDown d 180 (.ref r :: L) S M N P Q = Wp mX12_handDown d 181 (.ref r :: L) (.ref r :: S) M N P Q := wp_aload_n rfl dX12_handDown_180 rfl
theorem sX12_handDown_181 (hs : shk r = (12, 0)) : Wp mX12_handDown d 181 L (.ref r :: S) M N P Q = Wp mX12_handDown d 184 L (.ref (P r 52) :: S) M N P Q := wp_getfield rfl dX12_handDown_181 rfl rfl hs rfl
theorem sX12_handDown_184 : Wp mX12_handDown d 184 (a0 :: a1 :: a2 :: a3 :: a4 :: .int x :: L) S M N P Q = Wp mX12_handDown d 186 (a0 :: a1 :: a2 :: a3 :: a4 :: .int x :: L) (.int x :: S) M N P Q := wp_iload rfl dX12_handDown_184 rfl
theorem sX12_handDown_186 (hc : isB (shk r).1 = true) : Wp mX12_handDown d 186 L (.int j :: .ref r :: S) M N P Q = (vp_in j (shk r).2 ∧ Wp mX12_handDown d 187 L (.int (M r j.toNatClampNeg) :: S) M N P Q) := wp_baload rfl dX12_handDown_186 (isB_or hc) (kd rfl)
theorem sX12_handDown_187 : Wp mX12_handDown d 187 L (.int x :: S) M N P Q = (if x = 0 then Wp mX12_handDown d 194 L S M N P Q else Wp mX12_handDown d 190 L S M N P Q) := wp_if_eq rfl dX12_handDown_187 rfl
theorem sX12_handDown_190 : Wp mX12_handDown d 190 L S M N P Q = Wp mX12_handDown d 191 L (.int 1 :: S) M N P Q := wp_iconst rfl dX12_handDown_190 rfl
theorem sX12_handDown_191 : Wp mX12_handDown d 191 L S M N P Q = Wp mX12_handDown d 195 L S M N P Q := wp_goto rfl dX12_handDown_191 rfl
theorem sX12_handDown_194 : Wp mX12_handDown d 194 L S M N P Q = Wp mX12_handDown d 195 L (.int 0 :: S) M N P Q := wp_iconst rfl dX12_handDown_194 rfl
theorem sX12_handDown_195 : Wp mX12_handDown d 195 L (.int z :: .int x :: S) M N P Q = Wp mX12_handDown d 196 L (.int (x + z) :: S) M N P Q := wp_iadd rfl dX12_handDown_195
theorem sX12_handDown_196 (hn : nl a3 = true) : Wp mX12_handDown d 196 (a0 :: a1 :: a2 :: a3 :: a4 :: L) (.int x :: S) M N P Q = Wp mX12_handDown d 198 (a0 :: a1 :: a2 :: a3 :: .int x :: L) S M N P Q := wp_istore rfl dX12_handDown_196 (lenGt4 ..) (okst4 hn) rfl
theorem sX12_handDown_198 (hn : nl a4 = true) : Wp mX12_handDown d 198 (a0 :: a1 :: a2 :: a3 :: a4 :: .int x :: L) S M N P Q = Wp mX12_handDown d 201 (a0 :: a1 :: a2 :: a3 :: a4 :: .int (x + 1) :: L) S M N P Q := wp_iinc rfl dX12_handDown_198 rfl rfl (okst5 hn) rfl
theorem sX12_handDown_201 : Wp mX12_handDown d 201 L S M N P Q = Wp mX12_handDown d 159 L S M N P Q := wp_goto rfl dX12_handDown_201 rfl
theorem sX12_handDown_204 : Wp mX12_handDown d 204 (a0 :: a1 :: a2 :: .int x :: L) S M N P Q = Wp mX12_handDown d 205 (a0 :: a1 :: a2 :: .int x :: L) (.int x :: S) M N P Q := wp_iload_n rfl dX12_handDown_204 rfl
theorem sX12_handDown_205 : Wp mX12_handDown d 205 L S M N P Q = Wp mX12_handDown d 206 L (.int 1 :: S) M N P Q := wp_iconst rfl dX12_handDown_205 rfl
theorem sX12_handDown_206 : Wp mX12_handDown d 206 L (.int z :: .int x :: S) M N P Q = Wp mX12_handDown d 207 L (.int (x + z) :: S) M N P Q := wp_iadd rfl dX12_handDown_206
theorem sX12_handDown_207 (hn : nl a4 = true) : Wp mX12_handDown d 207 (a0 :: a1 :: a2 :: a3 :: a4 :: a5 :: L) (.int x :: S) M N P Q = Wp mX12_handDown d 209 (a0 :: a1 :: a2 :: a3 :: a4 :: .int x :: L) S M N P Q := wp_istore rfl dX12_handDown_207 (lenGt5 ..) (okst5 hn) rfl
theorem sX12_handDown_209 : Wp mX12_handDown d 209 (a0 :: a1 :: a2 :: a3 :: a4 :: .int x :: L) S M N P Q = Wp mX12_handDown d 211 (a0 :: a1 :: a2 :: a3 :: a4 :: .int x :: L) (.int x :: S) M N P Q := wp_iload rfl dX12_handDown_209 rfl
theorem sX12_handDown_211 : Wp mX12_handDown d 211 (.ref r :: L) S M N P Q = Wp mX12_handDown d 212 (.ref r :: L) (.ref r :: S) M N P Q := wp_aload_n rfl dX12_handDown_211 rfl
theorem sX12_handDown_212 (hs : shk r = (12, 0)) : Wp mX12_handDown d 212 L (.ref r :: S) M N P Q = Wp mX12_handDown d 215 L (.int (M r 6) :: S) M N P Q := wp_getfield rfl dX12_handDown_212 rfl rfl hs rfl
theorem sX12_handDown_215 : Wp mX12_handDown d 215 L (.int z :: .int x :: S) M N P Q = (if z ≤ x then Wp mX12_handDown d 266 L S M N P Q else Wp mX12_handDown d 218 L S M N P Q) := wp_icmp_ge rfl dX12_handDown_215 rfl
theorem sX12_handDown_218 : Wp mX12_handDown d 218 (.ref r :: L) S M N P Q = Wp mX12_handDown d 219 (.ref r :: L) (.ref r :: S) M N P Q := wp_aload_n rfl dX12_handDown_218 rfl
theorem sX12_handDown_219 : Wp mX12_handDown d 219 (a0 :: a1 :: a2 :: a3 :: a4 :: .int x :: L) S M N P Q = Wp mX12_handDown d 221 (a0 :: a1 :: a2 :: a3 :: a4 :: .int x :: L) (.int x :: S) M N P Q := wp_iload rfl dX12_handDown_219 rfl
theorem sX12_handDown_221 : Wp mX12_handDown d 221 (a0 :: a1 :: a2 :: .int x :: L) S M N P Q = Wp mX12_handDown d 222 (a0 :: a1 :: a2 :: .int x :: L) (.int x :: S) M N P Q := wp_iload_n rfl dX12_handDown_221 rfl
theorem sX12_handDown_222 {x0 : Int32} {x1 : Int32} (hs : shk r = (12, 0)) (hS : stk S ≤ 8) : Wp mX12_handDown (d + 1) 222 L (.int x1 :: .int x0 :: .ref r :: S) M N P Q = Wp mX12_isChild d 0 [.ref r, .int x0, .int x1] [] M N P (fun v M' N' P' => Wp mX12_handDown (d + 1) 225 L (v.toList ++ S) M' N' P' Q) := wp_callV (As := [.int x0, .int x1]) rfl dX12_handDown_222 rfl rfl (Or.inl ⟨_, _, _, hs, rfl⟩) rfl ⟨rfl, Nat.le_of_ble_eq_true rfl, Nat.le_of_ble_eq_true rfl⟩ rfl hS
theorem sX12_handDown_225 : Wp mX12_handDown d 225 L (.int x :: S) M N P Q = (if x = 0 then Wp mX12_handDown d 260 L S M N P Q else Wp mX12_handDown d 228 L S M N P Q) := wp_if_eq rfl dX12_handDown_225 rfl
theorem sX12_handDown_228 : Wp mX12_handDown d 228 (.ref r :: L) S M N P Q = Wp mX12_handDown d 229 (.ref r :: L) (.ref r :: S) M N P Q := wp_aload_n rfl dX12_handDown_228 rfl
theorem sX12_handDown_229 (hs : shk r = (12, 0)) : Wp mX12_handDown d 229 L (.ref r :: S) M N P Q = Wp mX12_handDown d 232 L (.ref (P r 52) :: S) M N P Q := wp_getfield rfl dX12_handDown_229 rfl rfl hs rfl
theorem sX12_handDown_232 : Wp mX12_handDown d 232 (a0 :: a1 :: a2 :: a3 :: a4 :: .int x :: L) S M N P Q = Wp mX12_handDown d 234 (a0 :: a1 :: a2 :: a3 :: a4 :: .int x :: L) (.int x :: S) M N P Q := wp_iload rfl dX12_handDown_232 rfl
theorem sX12_handDown_234 (hc : isB (shk r).1 = true) : Wp mX12_handDown d 234 L (.int j :: .ref r :: S) M N P Q = (vp_in j (shk r).2 ∧ Wp mX12_handDown d 235 L (.int (M r j.toNatClampNeg) :: S) M N P Q) := wp_baload rfl dX12_handDown_234 (isB_or hc) (kd rfl)
theorem sX12_handDown_235 : Wp mX12_handDown d 235 L (.int x :: S) M N P Q = (if x = 0 then Wp mX12_handDown d 260 L S M N P Q else Wp mX12_handDown d 238 L S M N P Q) := wp_if_eq rfl dX12_handDown_235 rfl
theorem sX12_handDown_238 : Wp mX12_handDown d 238 (.ref r :: L) S M N P Q = Wp mX12_handDown d 239 (.ref r :: L) (.ref r :: S) M N P Q := wp_aload_n rfl dX12_handDown_238 rfl
theorem sX12_handDown_239 : Wp mX12_handDown d 239 (a0 :: a1 :: a2 :: a3 :: a4 :: .int x :: L) S M N P Q = Wp mX12_handDown d 241 (a0 :: a1 :: a2 :: a3 :: a4 :: .int x :: L) (.int x :: S) M N P Q := wp_iload rfl dX12_handDown_239 rfl
theorem sX12_handDown_241 : Wp mX12_handDown d 241 (.ref r :: L) S M N P Q = Wp mX12_handDown d 242 (.ref r :: L) (.ref r :: S) M N P Q := wp_aload_n rfl dX12_handDown_241 rfl
theorem sX12_handDown_242 (hs : shk r = (12, 0)) : Wp mX12_handDown d 242 L (.ref r :: S) M N P Q = Wp mX12_handDown d 245 L (.ref (P r 50) :: S) M N P Q := wp_getfield rfl dX12_handDown_242 rfl rfl hs rfl
theorem sX12_handDown_245 : Wp mX12_handDown d 245 (a0 :: a1 :: a2 :: .int x :: L) S M N P Q = Wp mX12_handDown d 246 (a0 :: a1 :: a2 :: .int x :: L) (.int x :: S) M N P Q := wp_iload_n rfl dX12_handDown_245 rfl
theorem sX12_handDown_246 (hs : (shk r).1 = 104) : Wp mX12_handDown d 246 L (.int j :: .ref r :: S) M N P Q = (vp_in j (shk r).2 ∧ Wp mX12_handDown d 247 L (.long (N r j.toNatClampNeg) :: S) M N P Q) := wp_laload rfl dX12_handDown_246 (kd hs)
theorem sX12_handDown_247 : Wp mX12_handDown d 247 (.ref r :: L) S M N P Q = Wp mX12_handDown d 248 (.ref r :: L) (.ref r :: S) M N P Q := wp_aload_n rfl dX12_handDown_247 rfl
theorem sX12_handDown_248 (hs : shk r = (12, 0)) : Wp mX12_handDown d 248 L (.ref r :: S) M N P Q = Wp mX12_handDown d 251 L (.ref (P r 51) :: S) M N P Q := wp_getfield rfl dX12_handDown_248 rfl rfl hs rfl
theorem sX12_handDown_251 : Wp mX12_handDown d 251 (a0 :: a1 :: a2 :: .int x :: L) S M N P Q = Wp mX12_handDown d 252 (a0 :: a1 :: a2 :: .int x :: L) (.int x :: S) M N P Q := wp_iload_n rfl dX12_handDown_251 rfl
theorem sX12_handDown_252 (hs : (shk r).1 = 104) : Wp mX12_handDown d 252 L (.int j :: .ref r :: S) M N P Q = (vp_in j (shk r).2 ∧ Wp mX12_handDown d 253 L (.long (N r j.toNatClampNeg) :: S) M N P Q) := wp_laload rfl dX12_handDown_252 (kd hs)
theorem sX12_handDown_253 : Wp mX12_handDown d 253 (a0 :: a1 :: a2 :: a3 :: .int x :: L) S M N P Q = Wp mX12_handDown d 255 (a0 :: a1 :: a2 :: a3 :: .int x :: L) (.int x :: S) M N P Q := wp_iload rfl dX12_handDown_253 rfl
theorem sX12_handDown_255 : Wp mX12_handDown d 255 L (.int x :: S) M N P Q = Wp mX12_handDown d 256 L (.long x.toInt64 :: S) M N P Q := wp_i2l rfl dX12_handDown_255
theorem sX12_handDown_256 : Wp mX12_handDown d 256 L (.long lz :: .long lx :: S) M N P Q = Wp mX12_handDown d 257 L (.long (lx * lz) :: S) M N P Q := wp_lmul rfl dX12_handDown_256
theorem sX12_handDown_257 {x0 : Int32} {lx1 : Int64} {lx2 : Int64} (hs : shk r = (12, 0)) (hS : stk S ≤ 8) : Wp mX12_handDown (d + 1) 257 L (.long lx2 :: .long lx1 :: .int x0 :: .ref r :: S) M N P Q = Wp mX12_gets d 0 [.ref r, .int x0, .long lx1, .float 0, .long lx2, .float 0, .float 0, .float 0, .float 0, .float 0, .float 0, .float 0] [] M N P (fun v M' N' P' => Wp mX12_handDown (d + 1) 260 L (v.toList ++ S) M' N' P' Q) := wp_callV (As := [.int x0, .long lx1, .long lx2]) rfl dX12_handDown_257 rfl rfl (Or.inl ⟨_, _, _, hs, rfl⟩) rfl ⟨rfl, Nat.le_of_ble_eq_true rfl, Nat.le_of_ble_eq_true rfl⟩ rfl hS
theorem sX12_handDown_260 (hn : nl a4 = true) : Wp mX12_handDown d 260 (a0 :: a1 :: a2 :: a3 :: a4 :: .int x :: L) S M N P Q = Wp mX12_handDown d 263 (a0 :: a1 :: a2 :: a3 :: a4 :: .int (x + 1) :: L) S M N P Q := wp_iinc rfl dX12_handDown_260 rfl rfl (okst5 hn) rfl
theorem sX12_handDown_263 : Wp mX12_handDown d 263 L S M N P Q = Wp mX12_handDown d 209 L S M N P Q := wp_goto rfl dX12_handDown_263 rfl
theorem sX12_handDown_266 : Wp mX12_handDown d 266 (.ref r :: L) S M N P Q = Wp mX12_handDown d 267 (.ref r :: L) (.ref r :: S) M N P Q := wp_aload_n rfl dX12_handDown_266 rfl
theorem sX12_handDown_267 (hs : shk r = (12, 0)) : Wp mX12_handDown d 267 L (.ref r :: S) M N P Q = Wp mX12_handDown d 270 L (.ref (P r 50) :: S) M N P Q := wp_getfield rfl dX12_handDown_267 rfl rfl hs rfl
theorem sX12_handDown_270 : Wp mX12_handDown d 270 (a0 :: a1 :: a2 :: .int x :: L) S M N P Q = Wp mX12_handDown d 271 (a0 :: a1 :: a2 :: .int x :: L) (.int x :: S) M N P Q := wp_iload_n rfl dX12_handDown_270 rfl
theorem sX12_handDown_271 : Wp mX12_handDown d 271 L S M N P Q = Wp mX12_handDown d 272 L (.long 0 :: S) M N P Q := wp_lconst rfl dX12_handDown_271 rfl
theorem sX12_handDown_272 (hs : (shk r).1 = 104) : Wp mX12_handDown d 272 L (.long lx :: .int j :: .ref r :: S) M N P Q = (vp_in j (shk r).2 ∧ Wp mX12_handDown d 273 L S M (up2 N r j.toNatClampNeg lx) P Q) := wp_lastore rfl dX12_handDown_272 (kd hs)
theorem sX12_handDown_273 : Wp mX12_handDown d 273 (.ref r :: L) S M N P Q = Wp mX12_handDown d 274 (.ref r :: L) (.ref r :: S) M N P Q := wp_aload_n rfl dX12_handDown_273 rfl
theorem sX12_handDown_274 (hs : shk r = (12, 0)) : Wp mX12_handDown d 274 L (.ref r :: S) M N P Q = Wp mX12_handDown d 277 L (.ref (P r 51) :: S) M N P Q := wp_getfield rfl dX12_handDown_274 rfl rfl hs rfl
theorem sX12_handDown_277 : Wp mX12_handDown d 277 (a0 :: a1 :: a2 :: .int x :: L) S M N P Q = Wp mX12_handDown d 278 (a0 :: a1 :: a2 :: .int x :: L) (.int x :: S) M N P Q := wp_iload_n rfl dX12_handDown_277 rfl
theorem sX12_handDown_278 : Wp mX12_handDown d 278 L S M N P Q = Wp mX12_handDown d 279 L (.long 1 :: S) M N P Q := wp_lconst rfl dX12_handDown_278 rfl
theorem sX12_handDown_279 (hs : (shk r).1 = 104) : Wp mX12_handDown d 279 L (.long lx :: .int j :: .ref r :: S) M N P Q = (vp_in j (shk r).2 ∧ Wp mX12_handDown d 280 L S M (up2 N r j.toNatClampNeg lx) P Q) := wp_lastore rfl dX12_handDown_279 (kd hs)
theorem sX12_handDown_280 (hn : nl a2 = true) : Wp mX12_handDown d 280 (a0 :: a1 :: a2 :: .int x :: L) S M N P Q = Wp mX12_handDown d 283 (a0 :: a1 :: a2 :: .int (x + 1) :: L) S M N P Q := wp_iinc rfl dX12_handDown_280 rfl rfl (okst3 hn) rfl
theorem sX12_handDown_283 : Wp mX12_handDown d 283 L S M N P Q = Wp mX12_handDown d 120 L S M N P Q := wp_goto rfl dX12_handDown_283 rfl
theorem sX12_handDown_286 : Wp mX12_handDown d 286 L [] M N P Q = Q none M N P := wp_vret rfl dX12_handDown_286 rfl
theorem sX12_share_0 : Wp mX12_share d 0 (.ref r :: L) S M N P Q = Wp mX12_share d 1 (.ref r :: L) (.ref r :: S) M N P Q := wp_aload_n rfl dX12_share_0 rfl
theorem sX12_share_1 : Wp mX12_share d 1 (a0 :: .int x :: L) S M N P Q = Wp mX12_share d 2 (a0 :: .int x :: L) (.int x :: S) M N P Q := wp_iload_n rfl dX12_share_1 rfl
theorem sX12_share_2 {x0 : Int32} (hs : shk r = (12, 0)) (hS : stk S ≤ 8) : Wp mX12_share (d + 1) 2 L (.int x0 :: .ref r :: S) M N P Q = Wp mX12_isPerson d 0 [.ref r, .int x0] [] M N P (fun v M' N' P' => Wp mX12_share (d + 1) 5 L (v.toList ++ S) M' N' P' Q) := wp_callV (As := [.int x0]) rfl dX12_share_2 rfl rfl (Or.inl ⟨_, _, _, hs, rfl⟩) rfl ⟨rfl, Nat.le_of_ble_eq_true rfl, Nat.le_of_ble_eq_true rfl⟩ rfl hS
theorem sX12_share_5 : Wp mX12_share d 5 L (.int x :: S) M N P Q = (if x = 0 then Wp mX12_share d 34 L S M N P Q else Wp mX12_share d 8 L S M N P Q) := wp_if_eq rfl dX12_share_5 rfl
theorem sX12_share_8 : Wp mX12_share d 8 (.ref r :: L) S M N P Q = Wp mX12_share d 9 (.ref r :: L) (.ref r :: S) M N P Q := wp_aload_n rfl dX12_share_8 rfl
theorem sX12_share_9 : Wp mX12_share d 9 (a0 :: a1 :: .int x :: L) S M N P Q = Wp mX12_share d 10 (a0 :: a1 :: .int x :: L) (.int x :: S) M N P Q := wp_iload_n rfl dX12_share_9 rfl
theorem sX12_share_10 {x0 : Int32} (hs : shk r = (12, 0)) (hS : stk S ≤ 8) : Wp mX12_share (d + 1) 10 L (.int x0 :: .ref r :: S) M N P Q = Wp mX12_isPerson d 0 [.ref r, .int x0] [] M N P (fun v M' N' P' => Wp mX12_share (d + 1) 13 L (v.toList ++ S) M' N' P' Q) := wp_callV (As := [.int x0]) rfl dX12_share_10 rfl rfl (Or.inl ⟨_, _, _, hs, rfl⟩) rfl ⟨rfl, Nat.le_of_ble_eq_true rfl, Nat.le_of_ble_eq_true rfl⟩ rfl hS
theorem sX12_share_13 : Wp mX12_share d 13 L (.int x :: S) M N P Q = (if x = 0 then Wp mX12_share d 34 L S M N P Q else Wp mX12_share d 16 L S M N P Q) := wp_if_eq rfl dX12_share_13 rfl
theorem sX12_share_16 : Wp mX12_share d 16 (a0 :: a1 :: a2 :: .int x :: L) S M N P Q = Wp mX12_share d 17 (a0 :: a1 :: a2 :: .int x :: L) (.int x :: S) M N P Q := wp_iload_n rfl dX12_share_16 rfl
theorem sX12_share_17 {x0 : Int32} (hS : stk S ≤ 8) : Wp mX12_share (d + 1) 17 L (.int x0 :: S) M N P Q = Wp mX12_isDay d 0 [.int x0] [] M N P (fun v M' N' P' => Wp mX12_share (d + 1) 20 L (v.toList ++ S) M' N' P' Q) := wp_callS (As := [.int x0]) rfl dX12_share_17 rfl rfl rfl ⟨rfl, Nat.le_of_ble_eq_true rfl, Nat.le_of_ble_eq_true rfl⟩ rfl hS
theorem sX12_share_20 : Wp mX12_share d 20 L (.int x :: S) M N P Q = (if x = 0 then Wp mX12_share d 34 L S M N P Q else Wp mX12_share d 23 L S M N P Q) := wp_if_eq rfl dX12_share_20 rfl
theorem sX12_share_23 : Wp mX12_share d 23 (a0 :: a1 :: a2 :: a3 :: .int x :: L) S M N P Q = Wp mX12_share d 25 (a0 :: a1 :: a2 :: a3 :: .int x :: L) (.int x :: S) M N P Q := wp_iload rfl dX12_share_23 rfl
theorem sX12_share_25 : Wp mX12_share d 25 L (.int x :: S) M N P Q = (if x < 0 then Wp mX12_share d 34 L S M N P Q else Wp mX12_share d 28 L S M N P Q) := wp_if_lt rfl dX12_share_25 rfl
theorem sX12_share_28 : Wp mX12_share d 28 (a0 :: a1 :: a2 :: a3 :: .int x :: L) S M N P Q = Wp mX12_share d 30 (a0 :: a1 :: a2 :: a3 :: .int x :: L) (.int x :: S) M N P Q := wp_iload rfl dX12_share_28 rfl
theorem sX12_share_30 : Wp mX12_share d 30 L S M N P Q = Wp mX12_share d 31 L (.int 1 :: S) M N P Q := wp_iconst rfl dX12_share_30 rfl
theorem sX12_share_31 : Wp mX12_share d 31 L (.int z :: .int x :: S) M N P Q = (if x ≤ z then Wp mX12_share d 38 L S M N P Q else Wp mX12_share d 34 L S M N P Q) := wp_icmp_le rfl dX12_share_31 rfl
theorem sX12_share_34 : Wp mX12_share d 34 L S M N P Q = Wp mX12_share d 37 L (.long (-1) :: S) M N P Q := wp_ldc2_w rfl dX12_share_34 rfl rfl
theorem sX12_share_37 : Wp mX12_share d 37 L [.long lx] M N P Q = Q (some (.long lx)) M N P := wp_lret rfl dX12_share_37 rfl
theorem sX12_share_38 : Wp mX12_share d 38 (.ref r :: L) S M N P Q = Wp mX12_share d 39 (.ref r :: L) (.ref r :: S) M N P Q := wp_aload_n rfl dX12_share_38 rfl
theorem sX12_share_39 : Wp mX12_share d 39 (a0 :: .int x :: L) S M N P Q = Wp mX12_share d 40 (a0 :: .int x :: L) (.int x :: S) M N P Q := wp_iload_n rfl dX12_share_39 rfl
theorem sX12_share_40 : Wp mX12_share d 40 (a0 :: a1 :: a2 :: .int x :: L) S M N P Q = Wp mX12_share d 41 (a0 :: a1 :: a2 :: .int x :: L) (.int x :: S) M N P Q := wp_iload_n rfl dX12_share_40 rfl
theorem sX12_share_41 {x0 : Int32} {x1 : Int32} (hs : shk r = (12, 0)) (hS : stk S ≤ 8) : Wp mX12_share (d + 1) 41 L (.int x1 :: .int x0 :: .ref r :: S) M N P Q = Wp mX12_handDown d 0 [.ref r, .int x0, .int x1, .float 0, .float 0, .float 0] [] M N P (fun v M' N' P' => Wp mX12_share (d + 1) 44 L (v.toList ++ S) M' N' P' Q) := wp_callV (As := [.int x0, .int x1]) rfl dX12_share_41 rfl rfl (Or.inl ⟨_, _, _, hs, rfl⟩) rfl ⟨rfl, Nat.le_of_ble_eq_true rfl, Nat.le_of_ble_eq_true rfl⟩ rfl hS
theorem sX12_share_44 : Wp mX12_share d 44 (a0 :: a1 :: a2 :: a3 :: .int x :: L) S M N P Q = Wp mX12_share d 46 (a0 :: a1 :: a2 :: a3 :: .int x :: L) (.int x :: S) M N P Q := wp_iload rfl dX12_share_44 rfl
theorem sX12_share_46 : Wp mX12_share d 46 L (.int x :: S) M N P Q = (if x = 0 then Wp mX12_share d 49 L S M N P Q else Wp mX12_share d 58 L S M N P Q) := wp_if_ne rfl dX12_share_46 rfl
theorem sX12_share_49 : Wp mX12_share d 49 (.ref r :: L) S M N P Q = Wp mX12_share d 50 (.ref r :: L) (.ref r :: S) M N P Q := wp_aload_n rfl dX12_share_49 rfl
theorem sX12_share_50 (hs : shk r = (12, 0)) : Wp mX12_share d 50 L (.ref r :: S) M N P Q = Wp mX12_share d 53 L (.ref (P r 50) :: S) M N P Q := wp_getfield rfl dX12_share_50 rfl rfl hs rfl
theorem sX12_share_53 : Wp mX12_share d 53 (a0 :: a1 :: .int x :: L) S M N P Q = Wp mX12_share d 54 (a0 :: a1 :: .int x :: L) (.int x :: S) M N P Q := wp_iload_n rfl dX12_share_53 rfl
theorem sX12_share_54 (hs : (shk r).1 = 104) : Wp mX12_share d 54 L (.int j :: .ref r :: S) M N P Q = (vp_in j (shk r).2 ∧ Wp mX12_share d 55 L (.long (N r j.toNatClampNeg) :: S) M N P Q) := wp_laload rfl dX12_share_54 (kd hs)
theorem sX12_share_55 : Wp mX12_share d 55 L S M N P Q = Wp mX12_share d 64 L S M N P Q := wp_goto rfl dX12_share_55 rfl
theorem sX12_share_58 : Wp mX12_share d 58 (.ref r :: L) S M N P Q = Wp mX12_share d 59 (.ref r :: L) (.ref r :: S) M N P Q := wp_aload_n rfl dX12_share_58 rfl
theorem sX12_share_59 (hs : shk r = (12, 0)) : Wp mX12_share d 59 L (.ref r :: S) M N P Q = Wp mX12_share d 62 L (.ref (P r 51) :: S) M N P Q := wp_getfield rfl dX12_share_59 rfl rfl hs rfl
theorem sX12_share_62 : Wp mX12_share d 62 (a0 :: a1 :: .int x :: L) S M N P Q = Wp mX12_share d 63 (a0 :: a1 :: .int x :: L) (.int x :: S) M N P Q := wp_iload_n rfl dX12_share_62 rfl
theorem sX12_share_63 (hs : (shk r).1 = 104) : Wp mX12_share d 63 L (.int j :: .ref r :: S) M N P Q = (vp_in j (shk r).2 ∧ Wp mX12_share d 64 L (.long (N r j.toNatClampNeg) :: S) M N P Q) := wp_laload rfl dX12_share_63 (kd hs)
theorem sX12_share_64 : Wp mX12_share d 64 L [.long lx] M N P Q = Q (some (.long lx)) M N P := wp_lret rfl dX12_share_64 rfl
theorem sX12_want_0 : Wp mX12_want d 0 (.ref r :: L) S M N P Q = Wp mX12_want d 1 (.ref r :: L) (.ref r :: S) M N P Q := wp_aload_n rfl dX12_want_0 rfl
theorem sX12_want_1 : Wp mX12_want d 1 (a0 :: .int x :: L) S M N P Q = Wp mX12_want d 2 (a0 :: .int x :: L) (.int x :: S) M N P Q := wp_iload_n rfl dX12_want_1 rfl
theorem sX12_want_2 {x0 : Int32} (hs : shk r = (12, 0)) (hS : stk S ≤ 8) : Wp mX12_want (d + 1) 2 L (.int x0 :: .ref r :: S) M N P Q = Wp mX12_isHouse d 0 [.ref r, .int x0] [] M N P (fun v M' N' P' => Wp mX12_want (d + 1) 5 L (v.toList ++ S) M' N' P' Q) := wp_callV (As := [.int x0]) rfl dX12_want_2 rfl rfl (Or.inl ⟨_, _, _, hs, rfl⟩) rfl ⟨rfl, Nat.le_of_ble_eq_true rfl, Nat.le_of_ble_eq_true rfl⟩ rfl hS
theorem sX12_want_5 : Wp mX12_want d 5 L (.int x :: S) M N P Q = (if x = 0 then Wp mX12_want d 41 L S M N P Q else Wp mX12_want d 8 L S M N P Q) := wp_if_eq rfl dX12_want_5 rfl
theorem sX12_want_8 : Wp mX12_want d 8 (.ref r :: L) S M N P Q = Wp mX12_want d 9 (.ref r :: L) (.ref r :: S) M N P Q := wp_aload_n rfl dX12_want_8 rfl
theorem sX12_want_9 : Wp mX12_want d 9 (a0 :: a1 :: .int x :: L) S M N P Q = Wp mX12_want d 10 (a0 :: a1 :: .int x :: L) (.int x :: S) M N P Q := wp_iload_n rfl dX12_want_9 rfl
theorem sX12_want_10 {x0 : Int32} (hs : shk r = (12, 0)) (hS : stk S ≤ 8) : Wp mX12_want (d + 1) 10 L (.int x0 :: .ref r :: S) M N P Q = Wp mX12_isHouse d 0 [.ref r, .int x0] [] M N P (fun v M' N' P' => Wp mX12_want (d + 1) 13 L (v.toList ++ S) M' N' P' Q) := wp_callV (As := [.int x0]) rfl dX12_want_10 rfl rfl (Or.inl ⟨_, _, _, hs, rfl⟩) rfl ⟨rfl, Nat.le_of_ble_eq_true rfl, Nat.le_of_ble_eq_true rfl⟩ rfl hS
theorem sX12_want_13 : Wp mX12_want d 13 L (.int x :: S) M N P Q = (if x = 0 then Wp mX12_want d 41 L S M N P Q else Wp mX12_want d 16 L S M N P Q) := wp_if_eq rfl dX12_want_13 rfl
theorem sX12_want_16 : Wp mX12_want d 16 (a0 :: .int x :: L) S M N P Q = Wp mX12_want d 17 (a0 :: .int x :: L) (.int x :: S) M N P Q := wp_iload_n rfl dX12_want_16 rfl
theorem sX12_want_17 : Wp mX12_want d 17 (a0 :: a1 :: .int x :: L) S M N P Q = Wp mX12_want d 18 (a0 :: a1 :: .int x :: L) (.int x :: S) M N P Q := wp_iload_n rfl dX12_want_17 rfl
theorem sX12_want_18 : Wp mX12_want d 18 L (.int z :: .int x :: S) M N P Q = (if x = z then Wp mX12_want d 41 L S M N P Q else Wp mX12_want d 21 L S M N P Q) := wp_icmp_eq rfl dX12_want_18 rfl
theorem sX12_want_21 : Wp mX12_want d 21 (a0 :: a1 :: a2 :: .int x :: L) S M N P Q = Wp mX12_want d 22 (a0 :: a1 :: a2 :: .int x :: L) (.int x :: S) M N P Q := wp_iload_n rfl dX12_want_21 rfl
theorem sX12_want_22 : Wp mX12_want d 22 L (.int x :: S) M N P Q = (if x < 0 then Wp mX12_want d 41 L S M N P Q else Wp mX12_want d 25 L S M N P Q) := wp_if_lt rfl dX12_want_22 rfl
theorem sX12_want_25 : Wp mX12_want d 25 (a0 :: a1 :: a2 :: .int x :: L) S M N P Q = Wp mX12_want d 26 (a0 :: a1 :: a2 :: .int x :: L) (.int x :: S) M N P Q := wp_iload_n rfl dX12_want_25 rfl
theorem sX12_want_26 : Wp mX12_want d 26 L S M N P Q = Wp mX12_want d 29 L (.int 1000 :: S) M N P Q := wp_sipush rfl dX12_want_26 rfl
theorem sX12_want_29 : Wp mX12_want d 29 L (.int z :: .int x :: S) M N P Q = (if z < x then Wp mX12_want d 41 L S M N P Q else Wp mX12_want d 32 L S M N P Q) := wp_icmp_gt rfl dX12_want_29 rfl
theorem sX12_want_32 : Wp mX12_want d 32 (.ref r :: L) S M N P Q = Wp mX12_want d 33 (.ref r :: L) (.ref r :: S) M N P Q := wp_aload_n rfl dX12_want_32 rfl
theorem sX12_want_33 (hs : shk r = (12, 0)) : Wp mX12_want d 33 L (.ref r :: S) M N P Q = Wp mX12_want d 36 L (.int (M r 55) :: S) M N P Q := wp_getfield rfl dX12_want_33 rfl rfl hs rfl
theorem sX12_want_36 : Wp mX12_want d 36 L S M N P Q = Wp mX12_want d 38 L (.int 40 :: S) M N P Q := wp_bipush rfl dX12_want_36 rfl
theorem sX12_want_38 : Wp mX12_want d 38 L (.int z :: .int x :: S) M N P Q = (if x = z then Wp mX12_want d 41 L S M N P Q else Wp mX12_want d 43 L S M N P Q) := wp_icmp_ne rfl dX12_want_38 rfl
theorem sX12_want_41 : Wp mX12_want d 41 L S M N P Q = Wp mX12_want d 42 L (.int (-1) :: S) M N P Q := wp_iconst rfl dX12_want_41 rfl
theorem sX12_want_42 : Wp mX12_want d 42 L [.int x] M N P Q = Q (some (.int x)) M N P := wp_iret rfl dX12_want_42 rfl rfl
theorem sX12_want_43 : Wp mX12_want d 43 (.ref r :: L) S M N P Q = Wp mX12_want d 44 (.ref r :: L) (.ref r :: S) M N P Q := wp_aload_n rfl dX12_want_43 rfl
theorem sX12_want_44 (hs : shk r = (12, 0)) : Wp mX12_want d 44 L (.ref r :: S) M N P Q = Wp mX12_want d 47 L (.ref (P r 53) :: S) M N P Q := wp_getfield rfl dX12_want_44 rfl rfl hs rfl
theorem sX12_want_47 : Wp mX12_want d 47 L S M N P Q = Wp mX12_want d 49 L (.int 8 :: S) M N P Q := wp_bipush rfl dX12_want_47 rfl
theorem sX12_want_49 : Wp mX12_want d 49 (a0 :: .int x :: L) S M N P Q = Wp mX12_want d 50 (a0 :: .int x :: L) (.int x :: S) M N P Q := wp_iload_n rfl dX12_want_49 rfl
theorem sX12_want_50 : Wp mX12_want d 50 L (.int z :: .int x :: S) M N P Q = Wp mX12_want d 51 L (.int (x * z) :: S) M N P Q := wp_imul rfl dX12_want_50
theorem sX12_want_51 : Wp mX12_want d 51 (a0 :: a1 :: .int x :: L) S M N P Q = Wp mX12_want d 52 (a0 :: a1 :: .int x :: L) (.int x :: S) M N P Q := wp_iload_n rfl dX12_want_51 rfl
theorem sX12_want_52 : Wp mX12_want d 52 L (.int z :: .int x :: S) M N P Q = Wp mX12_want d 53 L (.int (x + z) :: S) M N P Q := wp_iadd rfl dX12_want_52
theorem sX12_want_53 : Wp mX12_want d 53 (a0 :: a1 :: a2 :: .int x :: L) S M N P Q = Wp mX12_want d 54 (a0 :: a1 :: a2 :: .int x :: L) (.int x :: S) M N P Q := wp_iload_n rfl dX12_want_53 rfl
theorem sX12_want_54 (hs : (shk r).1 = 100) : Wp mX12_want d 54 L (.int x :: .int j :: .ref r :: S) M N P Q = (vp_in j (shk r).2 ∧ Wp mX12_want d 55 L S (up2 M r j.toNatClampNeg x) N P Q) := wp_iastore rfl dX12_want_54 (kd hs)
theorem sX12_want_55 : Wp mX12_want d 55 (.ref r :: L) S M N P Q = Wp mX12_want d 56 (.ref r :: L) (.ref r :: S) M N P Q := wp_aload_n rfl dX12_want_55 rfl
theorem sX12_want_56 (hv : a0.category = 1) : Wp mX12_want d 56 L (a0 :: S) M N P Q = Wp mX12_want d 57 L (a0 :: a0 :: S) M N P Q := wp_dup rfl dX12_want_56 hv
theorem sX12_want_57 (hs : shk r = (12, 0)) : Wp mX12_want d 57 L (.ref r :: S) M N P Q = Wp mX12_want d 60 L (.int (M r 55) :: S) M N P Q := wp_getfield rfl dX12_want_57 rfl rfl hs rfl
theorem sX12_want_60 : Wp mX12_want d 60 L S M N P Q = Wp mX12_want d 61 L (.int 1 :: S) M N P Q := wp_iconst rfl dX12_want_60 rfl
theorem sX12_want_61 : Wp mX12_want d 61 L (.int z :: .int x :: S) M N P Q = Wp mX12_want d 62 L (.int (x + z) :: S) M N P Q := wp_iadd rfl dX12_want_61
theorem sX12_want_62 (hs : shk r = (12, 0)) : Wp mX12_want d 62 L (.int x :: .ref r :: S) M N P Q = Wp mX12_want d 65 L S (up2 M r 55 x) N P Q := wp_putI rfl dX12_want_62 rfl rfl hs rfl ⟨_, _, _, _, rfl, by decide, rfl, tyX12_ok 55 (by decide), rfl, rfl⟩
theorem sX12_want_65 : Wp mX12_want d 65 (.ref r :: L) S M N P Q = Wp mX12_want d 66 (.ref r :: L) (.ref r :: S) M N P Q := wp_aload_n rfl dX12_want_65 rfl
theorem sX12_want_66 (hs : shk r = (12, 0)) : Wp mX12_want d 66 L (.ref r :: S) M N P Q = Wp mX12_want d 69 L (.int (M r 55) :: S) M N P Q := wp_getfield rfl dX12_want_66 rfl rfl hs rfl
theorem sX12_want_69 : Wp mX12_want d 69 L [.int x] M N P Q = Q (some (.int x)) M N P := wp_iret rfl dX12_want_69 rfl rfl
theorem sX12_mayGet_0 : Wp mX12_mayGet d 0 (a0 :: .int x :: L) S M N P Q = Wp mX12_mayGet d 1 (a0 :: .int x :: L) (.int x :: S) M N P Q := wp_iload_n rfl dX12_mayGet_0 rfl
theorem sX12_mayGet_1 : Wp mX12_mayGet d 1 (a0 :: a1 :: .int x :: L) S M N P Q = Wp mX12_mayGet d 2 (a0 :: a1 :: .int x :: L) (.int x :: S) M N P Q := wp_iload_n rfl dX12_mayGet_1 rfl
theorem sX12_mayGet_2 : Wp mX12_mayGet d 2 L (.int z :: .int x :: S) M N P Q = (if x = z then Wp mX12_mayGet d 19 L S M N P Q else Wp mX12_mayGet d 5 L S M N P Q) := wp_icmp_eq rfl dX12_mayGet_2 rfl
theorem sX12_mayGet_5 : Wp mX12_mayGet d 5 (.ref r :: L) S M N P Q = Wp mX12_mayGet d 6 (.ref r :: L) (.ref r :: S) M N P Q := wp_aload_n rfl dX12_mayGet_5 rfl
theorem sX12_mayGet_6 (hs : shk r = (12, 0)) : Wp mX12_mayGet d 6 L (.ref r :: S) M N P Q = Wp mX12_mayGet d 9 L (.ref (P r 53) :: S) M N P Q := wp_getfield rfl dX12_mayGet_6 rfl rfl hs rfl
theorem sX12_mayGet_9 : Wp mX12_mayGet d 9 L S M N P Q = Wp mX12_mayGet d 11 L (.int 8 :: S) M N P Q := wp_bipush rfl dX12_mayGet_9 rfl
theorem sX12_mayGet_11 : Wp mX12_mayGet d 11 (a0 :: .int x :: L) S M N P Q = Wp mX12_mayGet d 12 (a0 :: .int x :: L) (.int x :: S) M N P Q := wp_iload_n rfl dX12_mayGet_11 rfl
theorem sX12_mayGet_12 : Wp mX12_mayGet d 12 L (.int z :: .int x :: S) M N P Q = Wp mX12_mayGet d 13 L (.int (x * z) :: S) M N P Q := wp_imul rfl dX12_mayGet_12
theorem sX12_mayGet_13 : Wp mX12_mayGet d 13 (a0 :: a1 :: .int x :: L) S M N P Q = Wp mX12_mayGet d 14 (a0 :: a1 :: .int x :: L) (.int x :: S) M N P Q := wp_iload_n rfl dX12_mayGet_13 rfl
theorem sX12_mayGet_14 : Wp mX12_mayGet d 14 L (.int z :: .int x :: S) M N P Q = Wp mX12_mayGet d 15 L (.int (x + z) :: S) M N P Q := wp_iadd rfl dX12_mayGet_14
theorem sX12_mayGet_15 (hs : (shk r).1 = 100) : Wp mX12_mayGet d 15 L (.int j :: .ref r :: S) M N P Q = (vp_in j (shk r).2 ∧ Wp mX12_mayGet d 16 L (.int (M r j.toNatClampNeg) :: S) M N P Q) := wp_iaload rfl dX12_mayGet_15 (kd hs)
theorem sX12_mayGet_16 : Wp mX12_mayGet d 16 L (.int x :: S) M N P Q = (if x ≤ 0 then Wp mX12_mayGet d 23 L S M N P Q else Wp mX12_mayGet d 19 L S M N P Q) := wp_if_le rfl dX12_mayGet_16 rfl
theorem sX12_mayGet_19 : Wp mX12_mayGet d 19 L S M N P Q = Wp mX12_mayGet d 20 L (.int 1 :: S) M N P Q := wp_iconst rfl dX12_mayGet_19 rfl
theorem sX12_mayGet_20 : Wp mX12_mayGet d 20 L S M N P Q = Wp mX12_mayGet d 24 L S M N P Q := wp_goto rfl dX12_mayGet_20 rfl
theorem sX12_mayGet_23 : Wp mX12_mayGet d 23 L S M N P Q = Wp mX12_mayGet d 24 L (.int 0 :: S) M N P Q := wp_iconst rfl dX12_mayGet_23 rfl
theorem sX12_mayGet_24 (hb : bit x) : Wp mX12_mayGet d 24 L [.int x] M N P Q = Q (some (.int x)) M N P := wp_iret rfl dX12_mayGet_24 rfl (bit_n hb)
theorem sX12_solve_0 : Wp mX12_solve d 0 (.ref r :: L) S M N P Q = Wp mX12_solve d 1 (.ref r :: L) (.ref r :: S) M N P Q := wp_aload_n rfl dX12_solve_0 rfl
theorem sX12_solve_1 (hs : shk r = (12, 0)) : Wp mX12_solve d 1 L (.ref r :: S) M N P Q = Wp mX12_solve d 4 L (.int (M r 7) :: S) M N P Q := wp_getfield rfl dX12_solve_1 rfl rfl hs rfl
theorem sX12_solve_4 (hn : nl a0 = true) : Wp mX12_solve d 4 (a0 :: a1 :: L) (.int x :: S) M N P Q = Wp mX12_solve d 5 (a0 :: .int x :: L) S M N P Q := wp_istore_n rfl dX12_solve_4 (lenGt1 ..) (okst1 hn) rfl
theorem sX12_solve_5 : Wp mX12_solve d 5 (a0 :: .int x :: L) S M N P Q = Wp mX12_solve d 6 (a0 :: .int x :: L) (.int x :: S) M N P Q := wp_iload_n rfl dX12_solve_5 rfl
theorem sX12_solve_6 : Wp mX12_solve d 6 L (.int x :: S) M N P Q = (if x < 0 then Wp mX12_solve d 178 L S M N P Q else Wp mX12_solve d 9 L S M N P Q) := wp_if_lt rfl dX12_solve_6 rfl
theorem sX12_solve_9 : Wp mX12_solve d 9 L S M N P Q = Wp mX12_solve d 10 L (.int 0 :: S) M N P Q := wp_iconst rfl dX12_solve_9 rfl
theorem sX12_solve_10 (hn : nl a1 = true) : Wp mX12_solve d 10 (a0 :: a1 :: a2 :: L) (.int x :: S) M N P Q = Wp mX12_solve d 11 (a0 :: a1 :: .int x :: L) S M N P Q := wp_istore_n rfl dX12_solve_10 (lenGt2 ..) (okst2 hn) rfl
theorem sX12_solve_11 : Wp mX12_solve d 11 (a0 :: a1 :: .int x :: L) S M N P Q = Wp mX12_solve d 12 (a0 :: a1 :: .int x :: L) (.int x :: S) M N P Q := wp_iload_n rfl dX12_solve_11 rfl
theorem sX12_solve_12 : Wp mX12_solve d 12 L S M N P Q = Wp mX12_solve d 13 L (.int 1 :: S) M N P Q := wp_iconst rfl dX12_solve_12 rfl
theorem sX12_solve_13 : Wp mX12_solve d 13 (.ref r :: L) S M N P Q = Wp mX12_solve d 14 (.ref r :: L) (.ref r :: S) M N P Q := wp_aload_n rfl dX12_solve_13 rfl
theorem sX12_solve_14 (hs : shk r = (12, 0)) : Wp mX12_solve d 14 L (.ref r :: S) M N P Q = Wp mX12_solve d 17 L (.int (M r 7) :: S) M N P Q := wp_getfield rfl dX12_solve_14 rfl rfl hs rfl
theorem sX12_solve_17 : Wp mX12_solve d 17 L (.int z :: .int x :: S) M N P Q = Wp mX12_solve d 18 L (.int (x <<< (z &&& 31)) :: S) M N P Q := wp_ishl rfl dX12_solve_17
theorem sX12_solve_18 : Wp mX12_solve d 18 L (.int z :: .int x :: S) M N P Q = (if z ≤ x then Wp mX12_solve d 172 L S M N P Q else Wp mX12_solve d 21 L S M N P Q) := wp_icmp_ge rfl dX12_solve_18 rfl
theorem sX12_solve_21 : Wp mX12_solve d 21 (a0 :: .int x :: L) S M N P Q = Wp mX12_solve d 22 (a0 :: .int x :: L) (.int x :: S) M N P Q := wp_iload_n rfl dX12_solve_21 rfl
theorem sX12_solve_22 : Wp mX12_solve d 22 (.ref r :: L) S M N P Q = Wp mX12_solve d 23 (.ref r :: L) (.ref r :: S) M N P Q := wp_aload_n rfl dX12_solve_22 rfl
theorem sX12_solve_23 (hs : shk r = (12, 0)) : Wp mX12_solve d 23 L (.ref r :: S) M N P Q = Wp mX12_solve d 26 L (.int (M r 7) :: S) M N P Q := wp_getfield rfl dX12_solve_23 rfl rfl hs rfl
theorem sX12_solve_26 : Wp mX12_solve d 26 L (.int z :: .int x :: S) M N P Q = (if x = z then Wp mX12_solve d 29 L S M N P Q else Wp mX12_solve d 33 L S M N P Q) := wp_icmp_ne rfl dX12_solve_26 rfl
theorem sX12_solve_29 : Wp mX12_solve d 29 L S M N P Q = Wp mX12_solve d 30 L (.int 0 :: S) M N P Q := wp_iconst rfl dX12_solve_29 rfl
theorem sX12_solve_30 : Wp mX12_solve d 30 L S M N P Q = Wp mX12_solve d 34 L S M N P Q := wp_goto rfl dX12_solve_30 rfl
theorem sX12_solve_33 : Wp mX12_solve d 33 L S M N P Q = Wp mX12_solve d 34 L (.int (-1) :: S) M N P Q := wp_iconst rfl dX12_solve_33 rfl
theorem sX12_solve_34 (hn : nl a2 = true) : Wp mX12_solve d 34 (a0 :: a1 :: a2 :: a3 :: L) (.int x :: S) M N P Q = Wp mX12_solve d 35 (a0 :: a1 :: a2 :: .int x :: L) S M N P Q := wp_istore_n rfl dX12_solve_34 (lenGt3 ..) (okst3 hn) rfl
theorem sX12_solve_35 : Wp mX12_solve d 35 L S M N P Q = Wp mX12_solve d 36 L (.int 0 :: S) M N P Q := wp_iconst rfl dX12_solve_35 rfl
theorem sX12_solve_36 (hn : nl a3 = true) : Wp mX12_solve d 36 (a0 :: a1 :: a2 :: a3 :: a4 :: L) (.int x :: S) M N P Q = Wp mX12_solve d 38 (a0 :: a1 :: a2 :: a3 :: .int x :: L) S M N P Q := wp_istore rfl dX12_solve_36 (lenGt4 ..) (okst4 hn) rfl
theorem sX12_solve_38 : Wp mX12_solve d 38 (a0 :: a1 :: a2 :: a3 :: .int x :: L) S M N P Q = Wp mX12_solve d 40 (a0 :: a1 :: a2 :: a3 :: .int x :: L) (.int x :: S) M N P Q := wp_iload rfl dX12_solve_38 rfl
theorem sX12_solve_40 : Wp mX12_solve d 40 (.ref r :: L) S M N P Q = Wp mX12_solve d 41 (.ref r :: L) (.ref r :: S) M N P Q := wp_aload_n rfl dX12_solve_40 rfl
theorem sX12_solve_41 (hs : shk r = (12, 0)) : Wp mX12_solve d 41 L (.ref r :: S) M N P Q = Wp mX12_solve d 44 L (.int (M r 7) :: S) M N P Q := wp_getfield rfl dX12_solve_41 rfl rfl hs rfl
theorem sX12_solve_44 : Wp mX12_solve d 44 L (.int z :: .int x :: S) M N P Q = (if z ≤ x then Wp mX12_solve d 153 L S M N P Q else Wp mX12_solve d 47 L S M N P Q) := wp_icmp_ge rfl dX12_solve_44 rfl
theorem sX12_solve_47 : Wp mX12_solve d 47 (a0 :: .int x :: L) S M N P Q = Wp mX12_solve d 48 (a0 :: .int x :: L) (.int x :: S) M N P Q := wp_iload_n rfl dX12_solve_47 rfl
theorem sX12_solve_48 : Wp mX12_solve d 48 (.ref r :: L) S M N P Q = Wp mX12_solve d 49 (.ref r :: L) (.ref r :: S) M N P Q := wp_aload_n rfl dX12_solve_48 rfl
theorem sX12_solve_49 (hs : shk r = (12, 0)) : Wp mX12_solve d 49 L (.ref r :: S) M N P Q = Wp mX12_solve d 52 L (.int (M r 7) :: S) M N P Q := wp_getfield rfl dX12_solve_49 rfl rfl hs rfl
theorem sX12_solve_52 : Wp mX12_solve d 52 L (.int z :: .int x :: S) M N P Q = (if z ≤ x then Wp mX12_solve d 153 L S M N P Q else Wp mX12_solve d 55 L S M N P Q) := wp_icmp_ge rfl dX12_solve_52 rfl
theorem sX12_solve_55 : Wp mX12_solve d 55 (a0 :: a1 :: .int x :: L) S M N P Q = Wp mX12_solve d 56 (a0 :: a1 :: .int x :: L) (.int x :: S) M N P Q := wp_iload_n rfl dX12_solve_55 rfl
theorem sX12_solve_56 : Wp mX12_solve d 56 (a0 :: a1 :: a2 :: a3 :: .int x :: L) S M N P Q = Wp mX12_solve d 58 (a0 :: a1 :: a2 :: a3 :: .int x :: L) (.int x :: S) M N P Q := wp_iload rfl dX12_solve_56 rfl
theorem sX12_solve_58 : Wp mX12_solve d 58 L (.int z :: .int x :: S) M N P Q = Wp mX12_solve d 59 L (.int (x >>> (z &&& 31)) :: S) M N P Q := wp_ishr rfl dX12_solve_58
theorem sX12_solve_59 : Wp mX12_solve d 59 L S M N P Q = Wp mX12_solve d 60 L (.int 1 :: S) M N P Q := wp_iconst rfl dX12_solve_59 rfl
theorem sX12_solve_60 : Wp mX12_solve d 60 L (.int z :: .int x :: S) M N P Q = Wp mX12_solve d 61 L (.int (x &&& z) :: S) M N P Q := wp_iand rfl dX12_solve_60
theorem sX12_solve_61 : Wp mX12_solve d 61 L S M N P Q = Wp mX12_solve d 62 L (.int 1 :: S) M N P Q := wp_iconst rfl dX12_solve_61 rfl
theorem sX12_solve_62 : Wp mX12_solve d 62 L (.int z :: .int x :: S) M N P Q = (if x = z then Wp mX12_solve d 147 L S M N P Q else Wp mX12_solve d 65 L S M N P Q) := wp_icmp_eq rfl dX12_solve_62 rfl
theorem sX12_solve_65 : Wp mX12_solve d 65 (.ref r :: L) S M N P Q = Wp mX12_solve d 66 (.ref r :: L) (.ref r :: S) M N P Q := wp_aload_n rfl dX12_solve_65 rfl
theorem sX12_solve_66 : Wp mX12_solve d 66 (a0 :: .int x :: L) S M N P Q = Wp mX12_solve d 67 (a0 :: .int x :: L) (.int x :: S) M N P Q := wp_iload_n rfl dX12_solve_66 rfl
theorem sX12_solve_67 : Wp mX12_solve d 67 (a0 :: a1 :: a2 :: a3 :: .int x :: L) S M N P Q = Wp mX12_solve d 69 (a0 :: a1 :: a2 :: a3 :: .int x :: L) (.int x :: S) M N P Q := wp_iload rfl dX12_solve_67 rfl
theorem sX12_solve_69 {x0 : Int32} {x1 : Int32} (hs : shk r = (12, 0)) (hS : stk S ≤ 8) : Wp mX12_solve (d + 1) 69 L (.int x1 :: .int x0 :: .ref r :: S) M N P Q = Wp mX12_mayGet d 0 [.ref r, .int x0, .int x1] [] M N P (fun v M' N' P' => Wp mX12_solve (d + 1) 72 L (v.toList ++ S) M' N' P' Q) := wp_callV (As := [.int x0, .int x1]) rfl dX12_solve_69 rfl rfl (Or.inl ⟨_, _, _, hs, rfl⟩) rfl ⟨rfl, Nat.le_of_ble_eq_true rfl, Nat.le_of_ble_eq_true rfl⟩ rfl hS
theorem sX12_solve_72 : Wp mX12_solve d 72 L (.int x :: S) M N P Q = (if x = 0 then Wp mX12_solve d 147 L S M N P Q else Wp mX12_solve d 75 L S M N P Q) := wp_if_eq rfl dX12_solve_72 rfl
theorem sX12_solve_75 : Wp mX12_solve d 75 (.ref r :: L) S M N P Q = Wp mX12_solve d 76 (.ref r :: L) (.ref r :: S) M N P Q := wp_aload_n rfl dX12_solve_75 rfl
theorem sX12_solve_76 (hs : shk r = (12, 0)) : Wp mX12_solve d 76 L (.ref r :: S) M N P Q = Wp mX12_solve d 79 L (.ref (P r 54) :: S) M N P Q := wp_getfield rfl dX12_solve_76 rfl rfl hs rfl
theorem sX12_solve_79 : Wp mX12_solve d 79 L S M N P Q = Wp mX12_solve d 82 L (.int 256 :: S) M N P Q := wp_sipush rfl dX12_solve_79 rfl
theorem sX12_solve_82 : Wp mX12_solve d 82 (a0 :: .int x :: L) S M N P Q = Wp mX12_solve d 83 (a0 :: .int x :: L) (.int x :: S) M N P Q := wp_iload_n rfl dX12_solve_82 rfl
theorem sX12_solve_83 : Wp mX12_solve d 83 L S M N P Q = Wp mX12_solve d 84 L (.int 1 :: S) M N P Q := wp_iconst rfl dX12_solve_83 rfl
theorem sX12_solve_84 : Wp mX12_solve d 84 L (.int z :: .int x :: S) M N P Q = Wp mX12_solve d 85 L (.int (x + z) :: S) M N P Q := wp_iadd rfl dX12_solve_84
theorem sX12_solve_85 : Wp mX12_solve d 85 L (.int z :: .int x :: S) M N P Q = Wp mX12_solve d 86 L (.int (x * z) :: S) M N P Q := wp_imul rfl dX12_solve_85
theorem sX12_solve_86 : Wp mX12_solve d 86 (a0 :: a1 :: .int x :: L) S M N P Q = Wp mX12_solve d 87 (a0 :: a1 :: .int x :: L) (.int x :: S) M N P Q := wp_iload_n rfl dX12_solve_86 rfl
theorem sX12_solve_87 : Wp mX12_solve d 87 L S M N P Q = Wp mX12_solve d 88 L (.int 1 :: S) M N P Q := wp_iconst rfl dX12_solve_87 rfl
theorem sX12_solve_88 : Wp mX12_solve d 88 (a0 :: a1 :: a2 :: a3 :: .int x :: L) S M N P Q = Wp mX12_solve d 90 (a0 :: a1 :: a2 :: a3 :: .int x :: L) (.int x :: S) M N P Q := wp_iload rfl dX12_solve_88 rfl
theorem sX12_solve_90 : Wp mX12_solve d 90 L (.int z :: .int x :: S) M N P Q = Wp mX12_solve d 91 L (.int (x <<< (z &&& 31)) :: S) M N P Q := wp_ishl rfl dX12_solve_90
theorem sX12_solve_91 : Wp mX12_solve d 91 L (.int z :: .int x :: S) M N P Q = Wp mX12_solve d 92 L (.int (x ||| z) :: S) M N P Q := wp_ior rfl dX12_solve_91
theorem sX12_solve_92 : Wp mX12_solve d 92 L (.int z :: .int x :: S) M N P Q = Wp mX12_solve d 93 L (.int (x + z) :: S) M N P Q := wp_iadd rfl dX12_solve_92
theorem sX12_solve_93 (hs : (shk r).1 = 100) : Wp mX12_solve d 93 L (.int j :: .ref r :: S) M N P Q = (vp_in j (shk r).2 ∧ Wp mX12_solve d 94 L (.int (M r j.toNatClampNeg) :: S) M N P Q) := wp_iaload rfl dX12_solve_93 (kd hs)
theorem sX12_solve_94 : Wp mX12_solve d 94 L (.int x :: S) M N P Q = (if 0 ≤ x then Wp mX12_solve d 100 L S M N P Q else Wp mX12_solve d 97 L S M N P Q) := wp_if_ge rfl dX12_solve_94 rfl
theorem sX12_solve_97 : Wp mX12_solve d 97 L S M N P Q = Wp mX12_solve d 147 L S M N P Q := wp_goto rfl dX12_solve_97 rfl
theorem sX12_solve_100 : Wp mX12_solve d 100 (.ref r :: L) S M N P Q = Wp mX12_solve d 101 (.ref r :: L) (.ref r :: S) M N P Q := wp_aload_n rfl dX12_solve_100 rfl
theorem sX12_solve_101 (hs : shk r = (12, 0)) : Wp mX12_solve d 101 L (.ref r :: S) M N P Q = Wp mX12_solve d 104 L (.ref (P r 53) :: S) M N P Q := wp_getfield rfl dX12_solve_101 rfl rfl hs rfl
theorem sX12_solve_104 : Wp mX12_solve d 104 L S M N P Q = Wp mX12_solve d 106 L (.int 8 :: S) M N P Q := wp_bipush rfl dX12_solve_104 rfl
theorem sX12_solve_106 : Wp mX12_solve d 106 (a0 :: .int x :: L) S M N P Q = Wp mX12_solve d 107 (a0 :: .int x :: L) (.int x :: S) M N P Q := wp_iload_n rfl dX12_solve_106 rfl
theorem sX12_solve_107 : Wp mX12_solve d 107 L (.int z :: .int x :: S) M N P Q = Wp mX12_solve d 108 L (.int (x * z) :: S) M N P Q := wp_imul rfl dX12_solve_107
theorem sX12_solve_108 : Wp mX12_solve d 108 (a0 :: a1 :: a2 :: a3 :: .int x :: L) S M N P Q = Wp mX12_solve d 110 (a0 :: a1 :: a2 :: a3 :: .int x :: L) (.int x :: S) M N P Q := wp_iload rfl dX12_solve_108 rfl
theorem sX12_solve_110 : Wp mX12_solve d 110 L (.int z :: .int x :: S) M N P Q = Wp mX12_solve d 111 L (.int (x + z) :: S) M N P Q := wp_iadd rfl dX12_solve_110
theorem sX12_solve_111 (hs : (shk r).1 = 100) : Wp mX12_solve d 111 L (.int j :: .ref r :: S) M N P Q = (vp_in j (shk r).2 ∧ Wp mX12_solve d 112 L (.int (M r j.toNatClampNeg) :: S) M N P Q) := wp_iaload rfl dX12_solve_111 (kd hs)
theorem sX12_solve_112 : Wp mX12_solve d 112 (.ref r :: L) S M N P Q = Wp mX12_solve d 113 (.ref r :: L) (.ref r :: S) M N P Q := wp_aload_n rfl dX12_solve_112 rfl
theorem sX12_solve_113 (hs : shk r = (12, 0)) : Wp mX12_solve d 113 L (.ref r :: S) M N P Q = Wp mX12_solve d 116 L (.ref (P r 54) :: S) M N P Q := wp_getfield rfl dX12_solve_113 rfl rfl hs rfl
theorem sX12_solve_116 : Wp mX12_solve d 116 L S M N P Q = Wp mX12_solve d 119 L (.int 256 :: S) M N P Q := wp_sipush rfl dX12_solve_116 rfl
theorem sX12_solve_119 : Wp mX12_solve d 119 (a0 :: .int x :: L) S M N P Q = Wp mX12_solve d 120 (a0 :: .int x :: L) (.int x :: S) M N P Q := wp_iload_n rfl dX12_solve_119 rfl
theorem sX12_solve_120 : Wp mX12_solve d 120 L S M N P Q = Wp mX12_solve d 121 L (.int 1 :: S) M N P Q := wp_iconst rfl dX12_solve_120 rfl
theorem sX12_solve_121 : Wp mX12_solve d 121 L (.int z :: .int x :: S) M N P Q = Wp mX12_solve d 122 L (.int (x + z) :: S) M N P Q := wp_iadd rfl dX12_solve_121
theorem sX12_solve_122 : Wp mX12_solve d 122 L (.int z :: .int x :: S) M N P Q = Wp mX12_solve d 123 L (.int (x * z) :: S) M N P Q := wp_imul rfl dX12_solve_122
theorem sX12_solve_123 : Wp mX12_solve d 123 (a0 :: a1 :: .int x :: L) S M N P Q = Wp mX12_solve d 124 (a0 :: a1 :: .int x :: L) (.int x :: S) M N P Q := wp_iload_n rfl dX12_solve_123 rfl
theorem sX12_solve_124 : Wp mX12_solve d 124 L S M N P Q = Wp mX12_solve d 125 L (.int 1 :: S) M N P Q := wp_iconst rfl dX12_solve_124 rfl
theorem sX12_solve_125 : Wp mX12_solve d 125 (a0 :: a1 :: a2 :: a3 :: .int x :: L) S M N P Q = Wp mX12_solve d 127 (a0 :: a1 :: a2 :: a3 :: .int x :: L) (.int x :: S) M N P Q := wp_iload rfl dX12_solve_125 rfl
theorem sX12_solve_127 : Wp mX12_solve d 127 L (.int z :: .int x :: S) M N P Q = Wp mX12_solve d 128 L (.int (x <<< (z &&& 31)) :: S) M N P Q := wp_ishl rfl dX12_solve_127
theorem sX12_solve_128 : Wp mX12_solve d 128 L (.int z :: .int x :: S) M N P Q = Wp mX12_solve d 129 L (.int (x ||| z) :: S) M N P Q := wp_ior rfl dX12_solve_128
theorem sX12_solve_129 : Wp mX12_solve d 129 L (.int z :: .int x :: S) M N P Q = Wp mX12_solve d 130 L (.int (x + z) :: S) M N P Q := wp_iadd rfl dX12_solve_129
theorem sX12_solve_130 (hs : (shk r).1 = 100) : Wp mX12_solve d 130 L (.int j :: .ref r :: S) M N P Q = (vp_in j (shk r).2 ∧ Wp mX12_solve d 131 L (.int (M r j.toNatClampNeg) :: S) M N P Q) := wp_iaload rfl dX12_solve_130 (kd hs)
theorem sX12_solve_131 : Wp mX12_solve d 131 L (.int z :: .int x :: S) M N P Q = Wp mX12_solve d 132 L (.int (x + z) :: S) M N P Q := wp_iadd rfl dX12_solve_131
theorem sX12_solve_132 (hn : nl a4 = true) : Wp mX12_solve d 132 (a0 :: a1 :: a2 :: a3 :: a4 :: a5 :: L) (.int x :: S) M N P Q = Wp mX12_solve d 134 (a0 :: a1 :: a2 :: a3 :: a4 :: .int x :: L) S M N P Q := wp_istore rfl dX12_solve_132 (lenGt5 ..) (okst5 hn) rfl
theorem sX12_solve_134 : Wp mX12_solve d 134 (a0 :: a1 :: a2 :: a3 :: a4 :: .int x :: L) S M N P Q = Wp mX12_solve d 136 (a0 :: a1 :: a2 :: a3 :: a4 :: .int x :: L) (.int x :: S) M N P Q := wp_iload rfl dX12_solve_134 rfl
theorem sX12_solve_136 : Wp mX12_solve d 136 (a0 :: a1 :: a2 :: .int x :: L) S M N P Q = Wp mX12_solve d 137 (a0 :: a1 :: a2 :: .int x :: L) (.int x :: S) M N P Q := wp_iload_n rfl dX12_solve_136 rfl
theorem sX12_solve_137 : Wp mX12_solve d 137 L (.int z :: .int x :: S) M N P Q = (if x ≤ z then Wp mX12_solve d 145 L S M N P Q else Wp mX12_solve d 140 L S M N P Q) := wp_icmp_le rfl dX12_solve_137 rfl
theorem sX12_solve_140 : Wp mX12_solve d 140 (a0 :: a1 :: a2 :: a3 :: a4 :: .int x :: L) S M N P Q = Wp mX12_solve d 142 (a0 :: a1 :: a2 :: a3 :: a4 :: .int x :: L) (.int x :: S) M N P Q := wp_iload rfl dX12_solve_140 rfl
theorem sX12_solve_142 : Wp mX12_solve d 142 L S M N P Q = Wp mX12_solve d 146 L S M N P Q := wp_goto rfl dX12_solve_142 rfl
theorem sX12_solve_145 : Wp mX12_solve d 145 (a0 :: a1 :: a2 :: .int x :: L) S M N P Q = Wp mX12_solve d 146 (a0 :: a1 :: a2 :: .int x :: L) (.int x :: S) M N P Q := wp_iload_n rfl dX12_solve_145 rfl
theorem sX12_solve_146 (hn : nl a2 = true) : Wp mX12_solve d 146 (a0 :: a1 :: a2 :: a3 :: L) (.int x :: S) M N P Q = Wp mX12_solve d 147 (a0 :: a1 :: a2 :: .int x :: L) S M N P Q := wp_istore_n rfl dX12_solve_146 (lenGt3 ..) (okst3 hn) rfl
theorem sX12_solve_147 (hn : nl a3 = true) : Wp mX12_solve d 147 (a0 :: a1 :: a2 :: a3 :: .int x :: L) S M N P Q = Wp mX12_solve d 150 (a0 :: a1 :: a2 :: a3 :: .int (x + 1) :: L) S M N P Q := wp_iinc rfl dX12_solve_147 rfl rfl (okst4 hn) rfl
theorem sX12_solve_150 : Wp mX12_solve d 150 L S M N P Q = Wp mX12_solve d 38 L S M N P Q := wp_goto rfl dX12_solve_150 rfl
theorem sX12_solve_153 : Wp mX12_solve d 153 (.ref r :: L) S M N P Q = Wp mX12_solve d 154 (.ref r :: L) (.ref r :: S) M N P Q := wp_aload_n rfl dX12_solve_153 rfl
theorem sX12_solve_154 (hs : shk r = (12, 0)) : Wp mX12_solve d 154 L (.ref r :: S) M N P Q = Wp mX12_solve d 157 L (.ref (P r 54) :: S) M N P Q := wp_getfield rfl dX12_solve_154 rfl rfl hs rfl
theorem sX12_solve_157 : Wp mX12_solve d 157 L S M N P Q = Wp mX12_solve d 160 L (.int 256 :: S) M N P Q := wp_sipush rfl dX12_solve_157 rfl
theorem sX12_solve_160 : Wp mX12_solve d 160 (a0 :: .int x :: L) S M N P Q = Wp mX12_solve d 161 (a0 :: .int x :: L) (.int x :: S) M N P Q := wp_iload_n rfl dX12_solve_160 rfl
theorem sX12_solve_161 : Wp mX12_solve d 161 L (.int z :: .int x :: S) M N P Q = Wp mX12_solve d 162 L (.int (x * z) :: S) M N P Q := wp_imul rfl dX12_solve_161
theorem sX12_solve_162 : Wp mX12_solve d 162 (a0 :: a1 :: .int x :: L) S M N P Q = Wp mX12_solve d 163 (a0 :: a1 :: .int x :: L) (.int x :: S) M N P Q := wp_iload_n rfl dX12_solve_162 rfl
theorem sX12_solve_163 : Wp mX12_solve d 163 L (.int z :: .int x :: S) M N P Q = Wp mX12_solve d 164 L (.int (x + z) :: S) M N P Q := wp_iadd rfl dX12_solve_163
theorem sX12_solve_164 : Wp mX12_solve d 164 (a0 :: a1 :: a2 :: .int x :: L) S M N P Q = Wp mX12_solve d 165 (a0 :: a1 :: a2 :: .int x :: L) (.int x :: S) M N P Q := wp_iload_n rfl dX12_solve_164 rfl
theorem sX12_solve_165 (hs : (shk r).1 = 100) : Wp mX12_solve d 165 L (.int x :: .int j :: .ref r :: S) M N P Q = (vp_in j (shk r).2 ∧ Wp mX12_solve d 166 L S (up2 M r j.toNatClampNeg x) N P Q) := wp_iastore rfl dX12_solve_165 (kd hs)
theorem sX12_solve_166 (hn : nl a1 = true) : Wp mX12_solve d 166 (a0 :: a1 :: .int x :: L) S M N P Q = Wp mX12_solve d 169 (a0 :: a1 :: .int (x + 1) :: L) S M N P Q := wp_iinc rfl dX12_solve_166 rfl rfl (okst2 hn) rfl
theorem sX12_solve_169 : Wp mX12_solve d 169 L S M N P Q = Wp mX12_solve d 11 L S M N P Q := wp_goto rfl dX12_solve_169 rfl
theorem sX12_solve_172 (hn : nl a0 = true) : Wp mX12_solve d 172 (a0 :: .int x :: L) S M N P Q = Wp mX12_solve d 175 (a0 :: .int (x + (-1)) :: L) S M N P Q := wp_iinc rfl dX12_solve_172 rfl rfl (okst1 hn) rfl
theorem sX12_solve_175 : Wp mX12_solve d 175 L S M N P Q = Wp mX12_solve d 5 L S M N P Q := wp_goto rfl dX12_solve_175 rfl
theorem sX12_solve_178 : Wp mX12_solve d 178 (.ref r :: L) S M N P Q = Wp mX12_solve d 179 (.ref r :: L) (.ref r :: S) M N P Q := wp_aload_n rfl dX12_solve_178 rfl
theorem sX12_solve_179 (hs : shk r = (12, 0)) : Wp mX12_solve d 179 L (.ref r :: S) M N P Q = Wp mX12_solve d 182 L (.ref (P r 54) :: S) M N P Q := wp_getfield rfl dX12_solve_179 rfl rfl hs rfl
theorem sX12_solve_182 : Wp mX12_solve d 182 L S M N P Q = Wp mX12_solve d 183 L (.int 0 :: S) M N P Q := wp_iconst rfl dX12_solve_182 rfl
theorem sX12_solve_183 (hs : (shk r).1 = 100) : Wp mX12_solve d 183 L (.int j :: .ref r :: S) M N P Q = (vp_in j (shk r).2 ∧ Wp mX12_solve d 184 L (.int (M r j.toNatClampNeg) :: S) M N P Q) := wp_iaload rfl dX12_solve_183 (kd hs)
theorem sX12_solve_184 : Wp mX12_solve d 184 L [.int x] M N P Q = Q (some (.int x)) M N P := wp_iret rfl dX12_solve_184 rfl rfl
theorem sX12_joy_0 : Wp mX12_joy d 0 (.ref r :: L) S M N P Q = Wp mX12_joy d 1 (.ref r :: L) (.ref r :: S) M N P Q := wp_aload_n rfl dX12_joy_0 rfl
theorem sX12_joy_1 (hs : shk r = (12, 0)) (hS : stk S ≤ 8) : Wp mX12_joy (d + 1) 1 L (.ref r :: S) M N P Q = Wp mX12_solve d 0 [.ref r, .float 0, .float 0, .float 0, .float 0, .float 0] [] M N P (fun v M' N' P' => Wp mX12_joy (d + 1) 4 L (v.toList ++ S) M' N' P' Q) := wp_callV (As := []) rfl dX12_joy_1 rfl rfl (Or.inl ⟨_, _, _, hs, rfl⟩) rfl ⟨rfl, Nat.le_of_ble_eq_true rfl, Nat.le_of_ble_eq_true rfl⟩ rfl hS
theorem sX12_joy_4 : Wp mX12_joy d 4 L [.int x] M N P Q = Q (some (.int x)) M N P := wp_iret rfl dX12_joy_4 rfl rfl
theorem sX12_swap_0 : Wp mX12_swap d 0 (.ref r :: L) S M N P Q = Wp mX12_swap d 1 (.ref r :: L) (.ref r :: S) M N P Q := wp_aload_n rfl dX12_swap_0 rfl
theorem sX12_swap_1 : Wp mX12_swap d 1 (a0 :: .int x :: L) S M N P Q = Wp mX12_swap d 2 (a0 :: .int x :: L) (.int x :: S) M N P Q := wp_iload_n rfl dX12_swap_1 rfl
theorem sX12_swap_2 {x0 : Int32} (hs : shk r = (12, 0)) (hS : stk S ≤ 8) : Wp mX12_swap (d + 1) 2 L (.int x0 :: .ref r :: S) M N P Q = Wp mX12_isHouse d 0 [.ref r, .int x0] [] M N P (fun v M' N' P' => Wp mX12_swap (d + 1) 5 L (v.toList ++ S) M' N' P' Q) := wp_callV (As := [.int x0]) rfl dX12_swap_2 rfl rfl (Or.inl ⟨_, _, _, hs, rfl⟩) rfl ⟨rfl, Nat.le_of_ble_eq_true rfl, Nat.le_of_ble_eq_true rfl⟩ rfl hS
theorem sX12_swap_5 : Wp mX12_swap d 5 L (.int x :: S) M N P Q = (if x = 0 then Wp mX12_swap d 8 L S M N P Q else Wp mX12_swap d 10 L S M N P Q) := wp_if_ne rfl dX12_swap_5 rfl
theorem sX12_swap_8 : Wp mX12_swap d 8 L S M N P Q = Wp mX12_swap d 9 L (.int (-1) :: S) M N P Q := wp_iconst rfl dX12_swap_8 rfl
theorem sX12_swap_9 : Wp mX12_swap d 9 L [.int x] M N P Q = Q (some (.int x)) M N P := wp_iret rfl dX12_swap_9 rfl rfl
theorem sX12_swap_10 : Wp mX12_swap d 10 (.ref r :: L) S M N P Q = Wp mX12_swap d 11 (.ref r :: L) (.ref r :: S) M N P Q := wp_aload_n rfl dX12_swap_10 rfl
theorem sX12_swap_11 (hs : shk r = (12, 0)) (hS : stk S ≤ 8) : Wp mX12_swap (d + 1) 11 L (.ref r :: S) M N P Q = Wp mX12_solve d 0 [.ref r, .float 0, .float 0, .float 0, .float 0, .float 0] [] M N P (fun v M' N' P' => Wp mX12_swap (d + 1) 14 L (v.toList ++ S) M' N' P' Q) := wp_callV (As := []) rfl dX12_swap_11 rfl rfl (Or.inl ⟨_, _, _, hs, rfl⟩) rfl ⟨rfl, Nat.le_of_ble_eq_true rfl, Nat.le_of_ble_eq_true rfl⟩ rfl hS
theorem sX12_swap_14 (hn : nl a1 = true) : Wp mX12_swap d 14 (a0 :: a1 :: a2 :: L) (.int x :: S) M N P Q = Wp mX12_swap d 15 (a0 :: a1 :: .int x :: L) S M N P Q := wp_istore_n rfl dX12_swap_14 (lenGt2 ..) (okst2 hn) rfl
theorem sX12_swap_15 : Wp mX12_swap d 15 L S M N P Q = Wp mX12_swap d 16 L (.int 0 :: S) M N P Q := wp_iconst rfl dX12_swap_15 rfl
theorem sX12_swap_16 (hn : nl a2 = true) : Wp mX12_swap d 16 (a0 :: a1 :: a2 :: a3 :: L) (.int x :: S) M N P Q = Wp mX12_swap d 17 (a0 :: a1 :: a2 :: .int x :: L) S M N P Q := wp_istore_n rfl dX12_swap_16 (lenGt3 ..) (okst3 hn) rfl
theorem sX12_swap_17 : Wp mX12_swap d 17 L S M N P Q = Wp mX12_swap d 18 L (.int (-1) :: S) M N P Q := wp_iconst rfl dX12_swap_17 rfl
theorem sX12_swap_18 (hn : nl a3 = true) : Wp mX12_swap d 18 (a0 :: a1 :: a2 :: a3 :: a4 :: L) (.int x :: S) M N P Q = Wp mX12_swap d 20 (a0 :: a1 :: a2 :: a3 :: .int x :: L) S M N P Q := wp_istore rfl dX12_swap_18 (lenGt4 ..) (okst4 hn) rfl
theorem sX12_swap_20 : Wp mX12_swap d 20 L S M N P Q = Wp mX12_swap d 21 L (.int 0 :: S) M N P Q := wp_iconst rfl dX12_swap_20 rfl
theorem sX12_swap_21 (hn : nl a4 = true) : Wp mX12_swap d 21 (a0 :: a1 :: a2 :: a3 :: a4 :: a5 :: L) (.int x :: S) M N P Q = Wp mX12_swap d 23 (a0 :: a1 :: a2 :: a3 :: a4 :: .int x :: L) S M N P Q := wp_istore rfl dX12_swap_21 (lenGt5 ..) (okst5 hn) rfl
theorem sX12_swap_23 : Wp mX12_swap d 23 (a0 :: a1 :: a2 :: a3 :: a4 :: .int x :: L) S M N P Q = Wp mX12_swap d 25 (a0 :: a1 :: a2 :: a3 :: a4 :: .int x :: L) (.int x :: S) M N P Q := wp_iload rfl dX12_swap_23 rfl
theorem sX12_swap_25 : Wp mX12_swap d 25 (a0 :: .int x :: L) S M N P Q = Wp mX12_swap d 26 (a0 :: .int x :: L) (.int x :: S) M N P Q := wp_iload_n rfl dX12_swap_25 rfl
theorem sX12_swap_26 : Wp mX12_swap d 26 L (.int z :: .int x :: S) M N P Q = (if z < x then Wp mX12_swap d 149 L S M N P Q else Wp mX12_swap d 29 L S M N P Q) := wp_icmp_gt rfl dX12_swap_26 rfl
theorem sX12_swap_29 : Wp mX12_swap d 29 L S M N P Q = Wp mX12_swap d 30 L (.int 0 :: S) M N P Q := wp_iconst rfl dX12_swap_29 rfl
theorem sX12_swap_30 (hn : nl a3 = true) : Wp mX12_swap d 30 (a0 :: a1 :: a2 :: a3 :: a4 :: L) (.int x :: S) M N P Q = Wp mX12_swap d 32 (a0 :: a1 :: a2 :: a3 :: .int x :: L) S M N P Q := wp_istore rfl dX12_swap_30 (lenGt4 ..) (okst4 hn) rfl
theorem sX12_swap_32 : Wp mX12_swap d 32 (a0 :: a1 :: a2 :: .int x :: L) S M N P Q = Wp mX12_swap d 33 (a0 :: a1 :: a2 :: .int x :: L) (.int x :: S) M N P Q := wp_iload_n rfl dX12_swap_32 rfl
theorem sX12_swap_33 : Wp mX12_swap d 33 (a0 :: a1 :: a2 :: a3 :: .int x :: L) S M N P Q = Wp mX12_swap d 35 (a0 :: a1 :: a2 :: a3 :: .int x :: L) (.int x :: S) M N P Q := wp_iload rfl dX12_swap_33 rfl
theorem sX12_swap_35 : Wp mX12_swap d 35 L (.int z :: .int x :: S) M N P Q = Wp mX12_swap d 36 L (.int (x >>> (z &&& 31)) :: S) M N P Q := wp_ishr rfl dX12_swap_35
theorem sX12_swap_36 : Wp mX12_swap d 36 L S M N P Q = Wp mX12_swap d 37 L (.int 1 :: S) M N P Q := wp_iconst rfl dX12_swap_36 rfl
theorem sX12_swap_37 : Wp mX12_swap d 37 L (.int z :: .int x :: S) M N P Q = Wp mX12_swap d 38 L (.int (x &&& z) :: S) M N P Q := wp_iand rfl dX12_swap_37
theorem sX12_swap_38 : Wp mX12_swap d 38 L S M N P Q = Wp mX12_swap d 39 L (.int 1 :: S) M N P Q := wp_iconst rfl dX12_swap_38 rfl
theorem sX12_swap_39 : Wp mX12_swap d 39 L (.int z :: .int x :: S) M N P Q = (if x = z then Wp mX12_swap d 114 L S M N P Q else Wp mX12_swap d 42 L S M N P Q) := wp_icmp_eq rfl dX12_swap_39 rfl
theorem sX12_swap_42 : Wp mX12_swap d 42 (.ref r :: L) S M N P Q = Wp mX12_swap d 43 (.ref r :: L) (.ref r :: S) M N P Q := wp_aload_n rfl dX12_swap_42 rfl
theorem sX12_swap_43 : Wp mX12_swap d 43 (a0 :: a1 :: a2 :: a3 :: a4 :: .int x :: L) S M N P Q = Wp mX12_swap d 45 (a0 :: a1 :: a2 :: a3 :: a4 :: .int x :: L) (.int x :: S) M N P Q := wp_iload rfl dX12_swap_43 rfl
theorem sX12_swap_45 : Wp mX12_swap d 45 (a0 :: a1 :: a2 :: a3 :: .int x :: L) S M N P Q = Wp mX12_swap d 47 (a0 :: a1 :: a2 :: a3 :: .int x :: L) (.int x :: S) M N P Q := wp_iload rfl dX12_swap_45 rfl
theorem sX12_swap_47 {x0 : Int32} {x1 : Int32} (hs : shk r = (12, 0)) (hS : stk S ≤ 8) : Wp mX12_swap (d + 1) 47 L (.int x1 :: .int x0 :: .ref r :: S) M N P Q = Wp mX12_mayGet d 0 [.ref r, .int x0, .int x1] [] M N P (fun v M' N' P' => Wp mX12_swap (d + 1) 50 L (v.toList ++ S) M' N' P' Q) := wp_callV (As := [.int x0, .int x1]) rfl dX12_swap_47 rfl rfl (Or.inl ⟨_, _, _, hs, rfl⟩) rfl ⟨rfl, Nat.le_of_ble_eq_true rfl, Nat.le_of_ble_eq_true rfl⟩ rfl hS
theorem sX12_swap_50 : Wp mX12_swap d 50 L (.int x :: S) M N P Q = (if x = 0 then Wp mX12_swap d 114 L S M N P Q else Wp mX12_swap d 53 L S M N P Q) := wp_if_eq rfl dX12_swap_50 rfl
theorem sX12_swap_53 : Wp mX12_swap d 53 (.ref r :: L) S M N P Q = Wp mX12_swap d 54 (.ref r :: L) (.ref r :: S) M N P Q := wp_aload_n rfl dX12_swap_53 rfl
theorem sX12_swap_54 (hs : shk r = (12, 0)) : Wp mX12_swap d 54 L (.ref r :: S) M N P Q = Wp mX12_swap d 57 L (.ref (P r 54) :: S) M N P Q := wp_getfield rfl dX12_swap_54 rfl rfl hs rfl
theorem sX12_swap_57 : Wp mX12_swap d 57 L S M N P Q = Wp mX12_swap d 60 L (.int 256 :: S) M N P Q := wp_sipush rfl dX12_swap_57 rfl
theorem sX12_swap_60 : Wp mX12_swap d 60 (a0 :: a1 :: a2 :: a3 :: a4 :: .int x :: L) S M N P Q = Wp mX12_swap d 62 (a0 :: a1 :: a2 :: a3 :: a4 :: .int x :: L) (.int x :: S) M N P Q := wp_iload rfl dX12_swap_60 rfl
theorem sX12_swap_62 : Wp mX12_swap d 62 L S M N P Q = Wp mX12_swap d 63 L (.int 1 :: S) M N P Q := wp_iconst rfl dX12_swap_62 rfl
theorem sX12_swap_63 : Wp mX12_swap d 63 L (.int z :: .int x :: S) M N P Q = Wp mX12_swap d 64 L (.int (x + z) :: S) M N P Q := wp_iadd rfl dX12_swap_63
theorem sX12_swap_64 : Wp mX12_swap d 64 L (.int z :: .int x :: S) M N P Q = Wp mX12_swap d 65 L (.int (x * z) :: S) M N P Q := wp_imul rfl dX12_swap_64
theorem sX12_swap_65 : Wp mX12_swap d 65 (a0 :: a1 :: a2 :: .int x :: L) S M N P Q = Wp mX12_swap d 66 (a0 :: a1 :: a2 :: .int x :: L) (.int x :: S) M N P Q := wp_iload_n rfl dX12_swap_65 rfl
theorem sX12_swap_66 : Wp mX12_swap d 66 L S M N P Q = Wp mX12_swap d 67 L (.int 1 :: S) M N P Q := wp_iconst rfl dX12_swap_66 rfl
theorem sX12_swap_67 : Wp mX12_swap d 67 (a0 :: a1 :: a2 :: a3 :: .int x :: L) S M N P Q = Wp mX12_swap d 69 (a0 :: a1 :: a2 :: a3 :: .int x :: L) (.int x :: S) M N P Q := wp_iload rfl dX12_swap_67 rfl
theorem sX12_swap_69 : Wp mX12_swap d 69 L (.int z :: .int x :: S) M N P Q = Wp mX12_swap d 70 L (.int (x <<< (z &&& 31)) :: S) M N P Q := wp_ishl rfl dX12_swap_69
theorem sX12_swap_70 : Wp mX12_swap d 70 L (.int z :: .int x :: S) M N P Q = Wp mX12_swap d 71 L (.int (x ||| z) :: S) M N P Q := wp_ior rfl dX12_swap_70
theorem sX12_swap_71 : Wp mX12_swap d 71 L (.int z :: .int x :: S) M N P Q = Wp mX12_swap d 72 L (.int (x + z) :: S) M N P Q := wp_iadd rfl dX12_swap_71
theorem sX12_swap_72 (hs : (shk r).1 = 100) : Wp mX12_swap d 72 L (.int j :: .ref r :: S) M N P Q = (vp_in j (shk r).2 ∧ Wp mX12_swap d 73 L (.int (M r j.toNatClampNeg) :: S) M N P Q) := wp_iaload rfl dX12_swap_72 (kd hs)
theorem sX12_swap_73 : Wp mX12_swap d 73 L (.int x :: S) M N P Q = (if x < 0 then Wp mX12_swap d 114 L S M N P Q else Wp mX12_swap d 76 L S M N P Q) := wp_if_lt rfl dX12_swap_73 rfl
theorem sX12_swap_76 : Wp mX12_swap d 76 (.ref r :: L) S M N P Q = Wp mX12_swap d 77 (.ref r :: L) (.ref r :: S) M N P Q := wp_aload_n rfl dX12_swap_76 rfl
theorem sX12_swap_77 (hs : shk r = (12, 0)) : Wp mX12_swap d 77 L (.ref r :: S) M N P Q = Wp mX12_swap d 80 L (.ref (P r 53) :: S) M N P Q := wp_getfield rfl dX12_swap_77 rfl rfl hs rfl
theorem sX12_swap_80 : Wp mX12_swap d 80 L S M N P Q = Wp mX12_swap d 82 L (.int 8 :: S) M N P Q := wp_bipush rfl dX12_swap_80 rfl
theorem sX12_swap_82 : Wp mX12_swap d 82 (a0 :: a1 :: a2 :: a3 :: a4 :: .int x :: L) S M N P Q = Wp mX12_swap d 84 (a0 :: a1 :: a2 :: a3 :: a4 :: .int x :: L) (.int x :: S) M N P Q := wp_iload rfl dX12_swap_82 rfl
theorem sX12_swap_84 : Wp mX12_swap d 84 L (.int z :: .int x :: S) M N P Q = Wp mX12_swap d 85 L (.int (x * z) :: S) M N P Q := wp_imul rfl dX12_swap_84
theorem sX12_swap_85 : Wp mX12_swap d 85 (a0 :: a1 :: a2 :: a3 :: .int x :: L) S M N P Q = Wp mX12_swap d 87 (a0 :: a1 :: a2 :: a3 :: .int x :: L) (.int x :: S) M N P Q := wp_iload rfl dX12_swap_85 rfl
theorem sX12_swap_87 : Wp mX12_swap d 87 L (.int z :: .int x :: S) M N P Q = Wp mX12_swap d 88 L (.int (x + z) :: S) M N P Q := wp_iadd rfl dX12_swap_87
theorem sX12_swap_88 (hs : (shk r).1 = 100) : Wp mX12_swap d 88 L (.int j :: .ref r :: S) M N P Q = (vp_in j (shk r).2 ∧ Wp mX12_swap d 89 L (.int (M r j.toNatClampNeg) :: S) M N P Q) := wp_iaload rfl dX12_swap_88 (kd hs)
theorem sX12_swap_89 : Wp mX12_swap d 89 (.ref r :: L) S M N P Q = Wp mX12_swap d 90 (.ref r :: L) (.ref r :: S) M N P Q := wp_aload_n rfl dX12_swap_89 rfl
theorem sX12_swap_90 (hs : shk r = (12, 0)) : Wp mX12_swap d 90 L (.ref r :: S) M N P Q = Wp mX12_swap d 93 L (.ref (P r 54) :: S) M N P Q := wp_getfield rfl dX12_swap_90 rfl rfl hs rfl
theorem sX12_swap_93 : Wp mX12_swap d 93 L S M N P Q = Wp mX12_swap d 96 L (.int 256 :: S) M N P Q := wp_sipush rfl dX12_swap_93 rfl
theorem sX12_swap_96 : Wp mX12_swap d 96 (a0 :: a1 :: a2 :: a3 :: a4 :: .int x :: L) S M N P Q = Wp mX12_swap d 98 (a0 :: a1 :: a2 :: a3 :: a4 :: .int x :: L) (.int x :: S) M N P Q := wp_iload rfl dX12_swap_96 rfl
theorem sX12_swap_98 : Wp mX12_swap d 98 L S M N P Q = Wp mX12_swap d 99 L (.int 1 :: S) M N P Q := wp_iconst rfl dX12_swap_98 rfl
theorem sX12_swap_99 : Wp mX12_swap d 99 L (.int z :: .int x :: S) M N P Q = Wp mX12_swap d 100 L (.int (x + z) :: S) M N P Q := wp_iadd rfl dX12_swap_99
theorem sX12_swap_100 : Wp mX12_swap d 100 L (.int z :: .int x :: S) M N P Q = Wp mX12_swap d 101 L (.int (x * z) :: S) M N P Q := wp_imul rfl dX12_swap_100
theorem sX12_swap_101 : Wp mX12_swap d 101 (a0 :: a1 :: a2 :: .int x :: L) S M N P Q = Wp mX12_swap d 102 (a0 :: a1 :: a2 :: .int x :: L) (.int x :: S) M N P Q := wp_iload_n rfl dX12_swap_101 rfl
theorem sX12_swap_102 : Wp mX12_swap d 102 L S M N P Q = Wp mX12_swap d 103 L (.int 1 :: S) M N P Q := wp_iconst rfl dX12_swap_102 rfl
theorem sX12_swap_103 : Wp mX12_swap d 103 (a0 :: a1 :: a2 :: a3 :: .int x :: L) S M N P Q = Wp mX12_swap d 105 (a0 :: a1 :: a2 :: a3 :: .int x :: L) (.int x :: S) M N P Q := wp_iload rfl dX12_swap_103 rfl
theorem sX12_swap_105 : Wp mX12_swap d 105 L (.int z :: .int x :: S) M N P Q = Wp mX12_swap d 106 L (.int (x <<< (z &&& 31)) :: S) M N P Q := wp_ishl rfl dX12_swap_105
theorem sX12_swap_106 : Wp mX12_swap d 106 L (.int z :: .int x :: S) M N P Q = Wp mX12_swap d 107 L (.int (x ||| z) :: S) M N P Q := wp_ior rfl dX12_swap_106
theorem sX12_swap_107 : Wp mX12_swap d 107 L (.int z :: .int x :: S) M N P Q = Wp mX12_swap d 108 L (.int (x + z) :: S) M N P Q := wp_iadd rfl dX12_swap_107
theorem sX12_swap_108 (hs : (shk r).1 = 100) : Wp mX12_swap d 108 L (.int j :: .ref r :: S) M N P Q = (vp_in j (shk r).2 ∧ Wp mX12_swap d 109 L (.int (M r j.toNatClampNeg) :: S) M N P Q) := wp_iaload rfl dX12_swap_108 (kd hs)
theorem sX12_swap_109 : Wp mX12_swap d 109 L (.int z :: .int x :: S) M N P Q = Wp mX12_swap d 110 L (.int (x + z) :: S) M N P Q := wp_iadd rfl dX12_swap_109
theorem sX12_swap_110 : Wp mX12_swap d 110 (a0 :: a1 :: .int x :: L) S M N P Q = Wp mX12_swap d 111 (a0 :: a1 :: .int x :: L) (.int x :: S) M N P Q := wp_iload_n rfl dX12_swap_110 rfl
theorem sX12_swap_111 : Wp mX12_swap d 111 L (.int z :: .int x :: S) M N P Q = (if x = z then Wp mX12_swap d 120 L S M N P Q else Wp mX12_swap d 114 L S M N P Q) := wp_icmp_eq rfl dX12_swap_111 rfl
theorem sX12_swap_114 (hn : nl a3 = true) : Wp mX12_swap d 114 (a0 :: a1 :: a2 :: a3 :: .int x :: L) S M N P Q = Wp mX12_swap d 117 (a0 :: a1 :: a2 :: a3 :: .int (x + 1) :: L) S M N P Q := wp_iinc rfl dX12_swap_114 rfl rfl (okst4 hn) rfl
theorem sX12_swap_117 : Wp mX12_swap d 117 L S M N P Q = Wp mX12_swap d 32 L S M N P Q := wp_goto rfl dX12_swap_117 rfl
theorem sX12_swap_120 : Wp mX12_swap d 120 (a0 :: a1 :: .int x :: L) S M N P Q = Wp mX12_swap d 121 (a0 :: a1 :: .int x :: L) (.int x :: S) M N P Q := wp_iload_n rfl dX12_swap_120 rfl
theorem sX12_swap_121 : Wp mX12_swap d 121 (.ref r :: L) S M N P Q = Wp mX12_swap d 122 (.ref r :: L) (.ref r :: S) M N P Q := wp_aload_n rfl dX12_swap_121 rfl
theorem sX12_swap_122 (hs : shk r = (12, 0)) : Wp mX12_swap d 122 L (.ref r :: S) M N P Q = Wp mX12_swap d 125 L (.ref (P r 53) :: S) M N P Q := wp_getfield rfl dX12_swap_122 rfl rfl hs rfl
theorem sX12_swap_125 : Wp mX12_swap d 125 L S M N P Q = Wp mX12_swap d 127 L (.int 8 :: S) M N P Q := wp_bipush rfl dX12_swap_125 rfl
theorem sX12_swap_127 : Wp mX12_swap d 127 (a0 :: a1 :: a2 :: a3 :: a4 :: .int x :: L) S M N P Q = Wp mX12_swap d 129 (a0 :: a1 :: a2 :: a3 :: a4 :: .int x :: L) (.int x :: S) M N P Q := wp_iload rfl dX12_swap_127 rfl
theorem sX12_swap_129 : Wp mX12_swap d 129 L (.int z :: .int x :: S) M N P Q = Wp mX12_swap d 130 L (.int (x * z) :: S) M N P Q := wp_imul rfl dX12_swap_129
theorem sX12_swap_130 : Wp mX12_swap d 130 (a0 :: a1 :: a2 :: a3 :: .int x :: L) S M N P Q = Wp mX12_swap d 132 (a0 :: a1 :: a2 :: a3 :: .int x :: L) (.int x :: S) M N P Q := wp_iload rfl dX12_swap_130 rfl
theorem sX12_swap_132 : Wp mX12_swap d 132 L (.int z :: .int x :: S) M N P Q = Wp mX12_swap d 133 L (.int (x + z) :: S) M N P Q := wp_iadd rfl dX12_swap_132
theorem sX12_swap_133 (hs : (shk r).1 = 100) : Wp mX12_swap d 133 L (.int j :: .ref r :: S) M N P Q = (vp_in j (shk r).2 ∧ Wp mX12_swap d 134 L (.int (M r j.toNatClampNeg) :: S) M N P Q) := wp_iaload rfl dX12_swap_133 (kd hs)
theorem sX12_swap_134 : Wp mX12_swap d 134 L (.int z :: .int x :: S) M N P Q = Wp mX12_swap d 135 L (.int (x - z) :: S) M N P Q := wp_isub rfl dX12_swap_134
theorem sX12_swap_135 (hn : nl a1 = true) : Wp mX12_swap d 135 (a0 :: a1 :: a2 :: L) (.int x :: S) M N P Q = Wp mX12_swap d 136 (a0 :: a1 :: .int x :: L) S M N P Q := wp_istore_n rfl dX12_swap_135 (lenGt2 ..) (okst2 hn) rfl
theorem sX12_swap_136 : Wp mX12_swap d 136 (a0 :: a1 :: a2 :: .int x :: L) S M N P Q = Wp mX12_swap d 137 (a0 :: a1 :: a2 :: .int x :: L) (.int x :: S) M N P Q := wp_iload_n rfl dX12_swap_136 rfl
theorem sX12_swap_137 : Wp mX12_swap d 137 L S M N P Q = Wp mX12_swap d 138 L (.int 1 :: S) M N P Q := wp_iconst rfl dX12_swap_137 rfl
theorem sX12_swap_138 : Wp mX12_swap d 138 (a0 :: a1 :: a2 :: a3 :: .int x :: L) S M N P Q = Wp mX12_swap d 140 (a0 :: a1 :: a2 :: a3 :: .int x :: L) (.int x :: S) M N P Q := wp_iload rfl dX12_swap_138 rfl
theorem sX12_swap_140 : Wp mX12_swap d 140 L (.int z :: .int x :: S) M N P Q = Wp mX12_swap d 141 L (.int (x <<< (z &&& 31)) :: S) M N P Q := wp_ishl rfl dX12_swap_140
theorem sX12_swap_141 : Wp mX12_swap d 141 L (.int z :: .int x :: S) M N P Q = Wp mX12_swap d 142 L (.int (x ||| z) :: S) M N P Q := wp_ior rfl dX12_swap_141
theorem sX12_swap_142 (hn : nl a2 = true) : Wp mX12_swap d 142 (a0 :: a1 :: a2 :: a3 :: L) (.int x :: S) M N P Q = Wp mX12_swap d 143 (a0 :: a1 :: a2 :: .int x :: L) S M N P Q := wp_istore_n rfl dX12_swap_142 (lenGt3 ..) (okst3 hn) rfl
theorem sX12_swap_143 (hn : nl a4 = true) : Wp mX12_swap d 143 (a0 :: a1 :: a2 :: a3 :: a4 :: .int x :: L) S M N P Q = Wp mX12_swap d 146 (a0 :: a1 :: a2 :: a3 :: a4 :: .int (x + 1) :: L) S M N P Q := wp_iinc rfl dX12_swap_143 rfl rfl (okst5 hn) rfl
theorem sX12_swap_146 : Wp mX12_swap d 146 L S M N P Q = Wp mX12_swap d 23 L S M N P Q := wp_goto rfl dX12_swap_146 rfl
theorem sX12_swap_149 : Wp mX12_swap d 149 (a0 :: a1 :: a2 :: a3 :: .int x :: L) S M N P Q = Wp mX12_swap d 151 (a0 :: a1 :: a2 :: a3 :: .int x :: L) (.int x :: S) M N P Q := wp_iload rfl dX12_swap_149 rfl
theorem sX12_swap_151 : Wp mX12_swap d 151 L [.int x] M N P Q = Q (some (.int x)) M N P := wp_iret rfl dX12_swap_151 rfl rfl
theorem sX12_about_0 : Wp mX12_about d 0 (a0 :: .int x :: L) S M N P Q = Wp mX12_about d 1 (a0 :: .int x :: L) (.int x :: S) M N P Q := wp_iload_n rfl dX12_about_0 rfl
theorem sX12_about_1 : Wp mX12_about d 1 L (.int x :: S) M N P Q = (if x = 0 then Wp mX12_about d 48 L S M N P Q else if x = 1 then Wp mX12_about d 53 L S M N P Q else if x = 2 then Wp mX12_about d 58 L S M N P Q else if x = 3 then Wp mX12_about d 63 L S M N P Q else if x = 4 then Wp mX12_about d 68 L S M N P Q else if x = 5 then Wp mX12_about d 78 L S M N P Q else if x = 6 then Wp mX12_about d 83 L S M N P Q else if x = 7 then Wp mX12_about d 88 L S M N P Q else Wp mX12_about d 93 L S M N P Q) := by
  by_cases h0 : x = 0
  · rw [if_pos h0]; subst h0; exact wp_tabIn rfl dX12_about_1 (by decide) (by decide) rfl rfl
  by_cases h1 : x = 1
  · rw [if_neg h0, if_pos h1]; subst h1; exact wp_tabIn rfl dX12_about_1 (by decide) (by decide) rfl rfl
  by_cases h2 : x = 2
  · rw [if_neg h0, if_neg h1, if_pos h2]; subst h2; exact wp_tabIn rfl dX12_about_1 (by decide) (by decide) rfl rfl
  by_cases h3 : x = 3
  · rw [if_neg h0, if_neg h1, if_neg h2, if_pos h3]; subst h3; exact wp_tabIn rfl dX12_about_1 (by decide) (by decide) rfl rfl
  by_cases h4 : x = 4
  · rw [if_neg h0, if_neg h1, if_neg h2, if_neg h3, if_pos h4]; subst h4; exact wp_tabIn rfl dX12_about_1 (by decide) (by decide) rfl rfl
  by_cases h5 : x = 5
  · rw [if_neg h0, if_neg h1, if_neg h2, if_neg h3, if_neg h4, if_pos h5]; subst h5; exact wp_tabIn rfl dX12_about_1 (by decide) (by decide) rfl rfl
  by_cases h6 : x = 6
  · rw [if_neg h0, if_neg h1, if_neg h2, if_neg h3, if_neg h4, if_neg h5, if_pos h6]; subst h6; exact wp_tabIn rfl dX12_about_1 (by decide) (by decide) rfl rfl
  by_cases h7 : x = 7
  · rw [if_neg h0, if_neg h1, if_neg h2, if_neg h3, if_neg h4, if_neg h5, if_neg h6, if_pos h7]; subst h7; exact wp_tabIn rfl dX12_about_1 (by decide) (by decide) rfl rfl
  have q0 := lv_neT h0 (show (0 : Int32).toInt = 0 by decide)
  have q1 := lv_neT h1 (show (1 : Int32).toInt = 1 by decide)
  have q2 := lv_neT h2 (show (2 : Int32).toInt = 2 by decide)
  have q3 := lv_neT h3 (show (3 : Int32).toInt = 3 by decide)
  have q4 := lv_neT h4 (show (4 : Int32).toInt = 4 by decide)
  have q5 := lv_neT h5 (show (5 : Int32).toInt = 5 by decide)
  have q6 := lv_neT h6 (show (6 : Int32).toInt = 6 by decide)
  have q7 := lv_neT h7 (show (7 : Int32).toInt = 7 by decide)
  rw [if_neg h0, if_neg h1, if_neg h2, if_neg h3, if_neg h4, if_neg h5, if_neg h6, if_neg h7]
  exact wp_tabOut rfl dX12_about_1 (by omega) rfl
theorem sX12_about_48 : Wp mX12_about d 48 (.ref r :: L) S M N P Q = Wp mX12_about d 49 (.ref r :: L) (.ref r :: S) M N P Q := wp_aload_n rfl dX12_about_48 rfl
theorem sX12_about_49 (hs : shk r = (12, 0)) : Wp mX12_about d 49 L (.ref r :: S) M N P Q = Wp mX12_about d 52 L (.int (M r 6) :: S) M N P Q := wp_getfield rfl dX12_about_49 rfl rfl hs rfl
theorem sX12_about_52 : Wp mX12_about d 52 L [.int x] M N P Q = Q (some (.int x)) M N P := wp_iret rfl dX12_about_52 rfl rfl
theorem sX12_about_53 : Wp mX12_about d 53 (.ref r :: L) S M N P Q = Wp mX12_about d 54 (.ref r :: L) (.ref r :: S) M N P Q := wp_aload_n rfl dX12_about_53 rfl
theorem sX12_about_54 (hs : shk r = (12, 0)) : Wp mX12_about d 54 L (.ref r :: S) M N P Q = Wp mX12_about d 57 L (.int (M r 7) :: S) M N P Q := wp_getfield rfl dX12_about_54 rfl rfl hs rfl
theorem sX12_about_57 : Wp mX12_about d 57 L [.int x] M N P Q = Q (some (.int x)) M N P := wp_iret rfl dX12_about_57 rfl rfl
theorem sX12_about_58 : Wp mX12_about d 58 (.ref r :: L) S M N P Q = Wp mX12_about d 59 (.ref r :: L) (.ref r :: S) M N P Q := wp_aload_n rfl dX12_about_58 rfl
theorem sX12_about_59 (hs : shk r = (12, 0)) : Wp mX12_about d 59 L (.ref r :: S) M N P Q = Wp mX12_about d 62 L (.int (M r 19) :: S) M N P Q := wp_getfield rfl dX12_about_59 rfl rfl hs rfl
theorem sX12_about_62 : Wp mX12_about d 62 L [.int x] M N P Q = Q (some (.int x)) M N P := wp_iret rfl dX12_about_62 rfl rfl
theorem sX12_about_63 : Wp mX12_about d 63 (.ref r :: L) S M N P Q = Wp mX12_about d 64 (.ref r :: L) (.ref r :: S) M N P Q := wp_aload_n rfl dX12_about_63 rfl
theorem sX12_about_64 (hs : shk r = (12, 0)) : Wp mX12_about d 64 L (.ref r :: S) M N P Q = Wp mX12_about d 67 L (.int (M r 8) :: S) M N P Q := wp_getfield rfl dX12_about_64 rfl rfl hs rfl
theorem sX12_about_67 : Wp mX12_about d 67 L [.int x] M N P Q = Q (some (.int x)) M N P := wp_iret rfl dX12_about_67 rfl rfl
theorem sX12_about_68 : Wp mX12_about d 68 (.ref r :: L) S M N P Q = Wp mX12_about d 69 (.ref r :: L) (.ref r :: S) M N P Q := wp_aload_n rfl dX12_about_68 rfl
theorem sX12_about_69 (hs : shk r = (12, 0)) : Wp mX12_about d 69 L (.ref r :: S) M N P Q = Wp mX12_about d 72 L (.ref (P r 32) :: S) M N P Q := wp_getfield rfl dX12_about_69 rfl rfl hs rfl
theorem sX12_about_72 : Wp mX12_about d 72 (.ref r :: L) S M N P Q = Wp mX12_about d 73 (.ref r :: L) (.ref r :: S) M N P Q := wp_aload_n rfl dX12_about_72 rfl
theorem sX12_about_73 (hs : shk r = (12, 0)) : Wp mX12_about d 73 L (.ref r :: S) M N P Q = Wp mX12_about d 76 L (.int (M r 39) :: S) M N P Q := wp_getfield rfl dX12_about_73 rfl rfl hs rfl
theorem sX12_about_76 (hs : (shk r).1 = 100) : Wp mX12_about d 76 L (.int j :: .ref r :: S) M N P Q = (vp_in j (shk r).2 ∧ Wp mX12_about d 77 L (.int (M r j.toNatClampNeg) :: S) M N P Q) := wp_iaload rfl dX12_about_76 (kd hs)
theorem sX12_about_77 : Wp mX12_about d 77 L [.int x] M N P Q = Q (some (.int x)) M N P := wp_iret rfl dX12_about_77 rfl rfl
theorem sX12_about_78 : Wp mX12_about d 78 (.ref r :: L) S M N P Q = Wp mX12_about d 79 (.ref r :: L) (.ref r :: S) M N P Q := wp_aload_n rfl dX12_about_78 rfl
theorem sX12_about_79 (hs : shk r = (12, 0)) : Wp mX12_about d 79 L (.ref r :: S) M N P Q = Wp mX12_about d 82 L (.int (M r 49) :: S) M N P Q := wp_getfield rfl dX12_about_79 rfl rfl hs rfl
theorem sX12_about_82 : Wp mX12_about d 82 L [.int x] M N P Q = Q (some (.int x)) M N P := wp_iret rfl dX12_about_82 rfl rfl
theorem sX12_about_83 : Wp mX12_about d 83 (.ref r :: L) S M N P Q = Wp mX12_about d 84 (.ref r :: L) (.ref r :: S) M N P Q := wp_aload_n rfl dX12_about_83 rfl
theorem sX12_about_84 (hs : shk r = (12, 0)) : Wp mX12_about d 84 L (.ref r :: S) M N P Q = Wp mX12_about d 87 L (.int (M r 55) :: S) M N P Q := wp_getfield rfl dX12_about_84 rfl rfl hs rfl
theorem sX12_about_87 : Wp mX12_about d 87 L [.int x] M N P Q = Q (some (.int x)) M N P := wp_iret rfl dX12_about_87 rfl rfl
theorem sX12_about_88 : Wp mX12_about d 88 (.ref r :: L) S M N P Q = Wp mX12_about d 89 (.ref r :: L) (.ref r :: S) M N P Q := wp_aload_n rfl dX12_about_88 rfl
theorem sX12_about_89 (hs : shk r = (12, 0)) : Wp mX12_about d 89 L (.ref r :: S) M N P Q = Wp mX12_about d 92 L (.int (M r 23) :: S) M N P Q := wp_getfield rfl dX12_about_89 rfl rfl hs rfl
theorem sX12_about_92 : Wp mX12_about d 92 L [.int x] M N P Q = Q (some (.int x)) M N P := wp_iret rfl dX12_about_92 rfl rfl
theorem sX12_about_93 : Wp mX12_about d 93 L S M N P Q = Wp mX12_about d 94 L (.int (-1) :: S) M N P Q := wp_iconst rfl dX12_about_93 rfl
theorem sX12_about_94 : Wp mX12_about d 94 L [.int x] M N P Q = Q (some (.int x)) M N P := wp_iret rfl dX12_about_94 rfl rfl
theorem sX12_feed_0 : Wp mX12_feed d 0 (.ref r :: L) S M N P Q = Wp mX12_feed d 1 (.ref r :: L) (.ref r :: S) M N P Q := wp_aload_n rfl dX12_feed_0 rfl
theorem sX12_feed_1 (hs : shk r = (12, 0)) : Wp mX12_feed d 1 L (.ref r :: S) M N P Q = Wp mX12_feed d 4 L (.int (M r 23) :: S) M N P Q := wp_getfield rfl dX12_feed_1 rfl rfl hs rfl
theorem sX12_feed_4 : Wp mX12_feed d 4 L S M N P Q = Wp mX12_feed d 6 L (.int 20 :: S) M N P Q := wp_bipush rfl dX12_feed_4 rfl
theorem sX12_feed_6 : Wp mX12_feed d 6 L (.int z :: .int x :: S) M N P Q = Wp mX12_feed d 7 L (.int (x + z) :: S) M N P Q := wp_iadd rfl dX12_feed_6
theorem sX12_feed_7 : Wp mX12_feed d 7 L S M N P Q = Wp mX12_feed d 10 L (.int 600 :: S) M N P Q := wp_sipush rfl dX12_feed_7 rfl
theorem sX12_feed_10 : Wp mX12_feed d 10 L (.int z :: .int x :: S) M N P Q = (if x ≤ z then Wp mX12_feed d 15 L S M N P Q else Wp mX12_feed d 13 L S M N P Q) := wp_icmp_le rfl dX12_feed_10 rfl
theorem sX12_feed_13 : Wp mX12_feed d 13 L S M N P Q = Wp mX12_feed d 14 L (.int (-1) :: S) M N P Q := wp_iconst rfl dX12_feed_13 rfl
theorem sX12_feed_14 : Wp mX12_feed d 14 L [.int x] M N P Q = Q (some (.int x)) M N P := wp_iret rfl dX12_feed_14 rfl rfl
theorem sX12_feed_15 : Wp mX12_feed d 15 L S M N P Q = Wp mX12_feed d 16 L (.int 0 :: S) M N P Q := wp_iconst rfl dX12_feed_15 rfl
theorem sX12_feed_16 (hn : nl a5 = true) : Wp mX12_feed d 16 (a0 :: a1 :: a2 :: a3 :: a4 :: a5 :: a6 :: L) (.int x :: S) M N P Q = Wp mX12_feed d 18 (a0 :: a1 :: a2 :: a3 :: a4 :: a5 :: .int x :: L) S M N P Q := wp_istore rfl dX12_feed_16 (lenGt6 ..) (okst6 hn) rfl
theorem sX12_feed_18 : Wp mX12_feed d 18 (a0 :: a1 :: a2 :: a3 :: a4 :: a5 :: .int x :: L) S M N P Q = Wp mX12_feed d 20 (a0 :: a1 :: a2 :: a3 :: a4 :: a5 :: .int x :: L) (.int x :: S) M N P Q := wp_iload rfl dX12_feed_18 rfl
theorem sX12_feed_20 : Wp mX12_feed d 20 L S M N P Q = Wp mX12_feed d 22 L (.int 20 :: S) M N P Q := wp_bipush rfl dX12_feed_20 rfl
theorem sX12_feed_22 : Wp mX12_feed d 22 L (.int z :: .int x :: S) M N P Q = (if z ≤ x then Wp mX12_feed d 105 L S M N P Q else Wp mX12_feed d 25 L S M N P Q) := wp_icmp_ge rfl dX12_feed_22 rfl
theorem sX12_feed_25 : Wp mX12_feed d 25 (a0 :: a1 :: a2 :: a3 :: a4 :: a5 :: .int x :: L) S M N P Q = Wp mX12_feed d 27 (a0 :: a1 :: a2 :: a3 :: a4 :: a5 :: .int x :: L) (.int x :: S) M N P Q := wp_iload rfl dX12_feed_25 rfl
theorem sX12_feed_27 : Wp mX12_feed d 27 L S M N P Q = Wp mX12_feed d 28 L (.int 4 :: S) M N P Q := wp_iconst rfl dX12_feed_27 rfl
theorem sX12_feed_28 : Wp mX12_feed d 28 L (.int z :: .int x :: S) M N P Q = (if z ≤ x then Wp mX12_feed d 35 L S M N P Q else Wp mX12_feed d 31 L S M N P Q) := wp_icmp_ge rfl dX12_feed_28 rfl
theorem sX12_feed_31 : Wp mX12_feed d 31 (a0 :: .int x :: L) S M N P Q = Wp mX12_feed d 32 (a0 :: .int x :: L) (.int x :: S) M N P Q := wp_iload_n rfl dX12_feed_31 rfl
theorem sX12_feed_32 : Wp mX12_feed d 32 L S M N P Q = Wp mX12_feed d 71 L S M N P Q := wp_goto rfl dX12_feed_32 rfl
theorem sX12_feed_35 : Wp mX12_feed d 35 (a0 :: a1 :: a2 :: a3 :: a4 :: a5 :: .int x :: L) S M N P Q = Wp mX12_feed d 37 (a0 :: a1 :: a2 :: a3 :: a4 :: a5 :: .int x :: L) (.int x :: S) M N P Q := wp_iload rfl dX12_feed_35 rfl
theorem sX12_feed_37 : Wp mX12_feed d 37 L S M N P Q = Wp mX12_feed d 39 L (.int 8 :: S) M N P Q := wp_bipush rfl dX12_feed_37 rfl
theorem sX12_feed_39 : Wp mX12_feed d 39 L (.int z :: .int x :: S) M N P Q = (if z ≤ x then Wp mX12_feed d 46 L S M N P Q else Wp mX12_feed d 42 L S M N P Q) := wp_icmp_ge rfl dX12_feed_39 rfl
theorem sX12_feed_42 : Wp mX12_feed d 42 (a0 :: a1 :: .int x :: L) S M N P Q = Wp mX12_feed d 43 (a0 :: a1 :: .int x :: L) (.int x :: S) M N P Q := wp_iload_n rfl dX12_feed_42 rfl
theorem sX12_feed_43 : Wp mX12_feed d 43 L S M N P Q = Wp mX12_feed d 71 L S M N P Q := wp_goto rfl dX12_feed_43 rfl
theorem sX12_feed_46 : Wp mX12_feed d 46 (a0 :: a1 :: a2 :: a3 :: a4 :: a5 :: .int x :: L) S M N P Q = Wp mX12_feed d 48 (a0 :: a1 :: a2 :: a3 :: a4 :: a5 :: .int x :: L) (.int x :: S) M N P Q := wp_iload rfl dX12_feed_46 rfl
theorem sX12_feed_48 : Wp mX12_feed d 48 L S M N P Q = Wp mX12_feed d 50 L (.int 12 :: S) M N P Q := wp_bipush rfl dX12_feed_48 rfl
theorem sX12_feed_50 : Wp mX12_feed d 50 L (.int z :: .int x :: S) M N P Q = (if z ≤ x then Wp mX12_feed d 57 L S M N P Q else Wp mX12_feed d 53 L S M N P Q) := wp_icmp_ge rfl dX12_feed_50 rfl
theorem sX12_feed_53 : Wp mX12_feed d 53 (a0 :: a1 :: a2 :: .int x :: L) S M N P Q = Wp mX12_feed d 54 (a0 :: a1 :: a2 :: .int x :: L) (.int x :: S) M N P Q := wp_iload_n rfl dX12_feed_53 rfl
theorem sX12_feed_54 : Wp mX12_feed d 54 L S M N P Q = Wp mX12_feed d 71 L S M N P Q := wp_goto rfl dX12_feed_54 rfl
theorem sX12_feed_57 : Wp mX12_feed d 57 (a0 :: a1 :: a2 :: a3 :: a4 :: a5 :: .int x :: L) S M N P Q = Wp mX12_feed d 59 (a0 :: a1 :: a2 :: a3 :: a4 :: a5 :: .int x :: L) (.int x :: S) M N P Q := wp_iload rfl dX12_feed_57 rfl
theorem sX12_feed_59 : Wp mX12_feed d 59 L S M N P Q = Wp mX12_feed d 61 L (.int 16 :: S) M N P Q := wp_bipush rfl dX12_feed_59 rfl
theorem sX12_feed_61 : Wp mX12_feed d 61 L (.int z :: .int x :: S) M N P Q = (if z ≤ x then Wp mX12_feed d 69 L S M N P Q else Wp mX12_feed d 64 L S M N P Q) := wp_icmp_ge rfl dX12_feed_61 rfl
theorem sX12_feed_64 : Wp mX12_feed d 64 (a0 :: a1 :: a2 :: a3 :: .int x :: L) S M N P Q = Wp mX12_feed d 66 (a0 :: a1 :: a2 :: a3 :: .int x :: L) (.int x :: S) M N P Q := wp_iload rfl dX12_feed_64 rfl
theorem sX12_feed_66 : Wp mX12_feed d 66 L S M N P Q = Wp mX12_feed d 71 L S M N P Q := wp_goto rfl dX12_feed_66 rfl
theorem sX12_feed_69 : Wp mX12_feed d 69 (a0 :: a1 :: a2 :: a3 :: a4 :: .int x :: L) S M N P Q = Wp mX12_feed d 71 (a0 :: a1 :: a2 :: a3 :: a4 :: .int x :: L) (.int x :: S) M N P Q := wp_iload rfl dX12_feed_69 rfl
theorem sX12_feed_71 (hn : nl a6 = true) : Wp mX12_feed d 71 (a0 :: a1 :: a2 :: a3 :: a4 :: a5 :: a6 :: a7 :: L) (.int x :: S) M N P Q = Wp mX12_feed d 73 (a0 :: a1 :: a2 :: a3 :: a4 :: a5 :: a6 :: .int x :: L) S M N P Q := wp_istore rfl dX12_feed_71 (lenGt7 ..) (okst7 hn) rfl
theorem sX12_feed_73 : Wp mX12_feed d 73 (.ref r :: L) S M N P Q = Wp mX12_feed d 74 (.ref r :: L) (.ref r :: S) M N P Q := wp_aload_n rfl dX12_feed_73 rfl
theorem sX12_feed_74 (hs : shk r = (12, 0)) : Wp mX12_feed d 74 L (.ref r :: S) M N P Q = Wp mX12_feed d 77 L (.ref (P r 21) :: S) M N P Q := wp_getfield rfl dX12_feed_74 rfl rfl hs rfl
theorem sX12_feed_77 : Wp mX12_feed d 77 (.ref r :: L) S M N P Q = Wp mX12_feed d 78 (.ref r :: L) (.ref r :: S) M N P Q := wp_aload_n rfl dX12_feed_77 rfl
theorem sX12_feed_78 (hs : shk r = (12, 0)) : Wp mX12_feed d 78 L (.ref r :: S) M N P Q = Wp mX12_feed d 81 L (.int (M r 23) :: S) M N P Q := wp_getfield rfl dX12_feed_78 rfl rfl hs rfl
theorem sX12_feed_81 : Wp mX12_feed d 81 (a0 :: a1 :: a2 :: a3 :: a4 :: a5 :: .int x :: L) S M N P Q = Wp mX12_feed d 83 (a0 :: a1 :: a2 :: a3 :: a4 :: a5 :: .int x :: L) (.int x :: S) M N P Q := wp_iload rfl dX12_feed_81 rfl
theorem sX12_feed_83 : Wp mX12_feed d 83 L (.int z :: .int x :: S) M N P Q = Wp mX12_feed d 84 L (.int (x + z) :: S) M N P Q := wp_iadd rfl dX12_feed_83
theorem sX12_feed_84 : Wp mX12_feed d 84 (a0 :: a1 :: a2 :: a3 :: a4 :: a5 :: a6 :: .int x :: L) S M N P Q = Wp mX12_feed d 86 (a0 :: a1 :: a2 :: a3 :: a4 :: a5 :: a6 :: .int x :: L) (.int x :: S) M N P Q := wp_iload rfl dX12_feed_84 rfl
theorem sX12_feed_86 : Wp mX12_feed d 86 L S M N P Q = Wp mX12_feed d 88 L (.int 24 :: S) M N P Q := wp_bipush rfl dX12_feed_86 rfl
theorem sX12_feed_88 : Wp mX12_feed d 88 L S M N P Q = Wp mX12_feed d 90 L (.int 8 :: S) M N P Q := wp_bipush rfl dX12_feed_88 rfl
theorem sX12_feed_90 : Wp mX12_feed d 90 (a0 :: a1 :: a2 :: a3 :: a4 :: a5 :: .int x :: L) S M N P Q = Wp mX12_feed d 92 (a0 :: a1 :: a2 :: a3 :: a4 :: a5 :: .int x :: L) (.int x :: S) M N P Q := wp_iload rfl dX12_feed_90 rfl
theorem sX12_feed_92 : Wp mX12_feed d 92 L S M N P Q = Wp mX12_feed d 93 L (.int 3 :: S) M N P Q := wp_iconst rfl dX12_feed_92 rfl
theorem sX12_feed_93 : Wp mX12_feed d 93 L (.int z :: .int x :: S) M N P Q = Wp mX12_feed d 94 L (.int (x &&& z) :: S) M N P Q := wp_iand rfl dX12_feed_93
theorem sX12_feed_94 : Wp mX12_feed d 94 L (.int z :: .int x :: S) M N P Q = Wp mX12_feed d 95 L (.int (x * z) :: S) M N P Q := wp_imul rfl dX12_feed_94
theorem sX12_feed_95 : Wp mX12_feed d 95 L (.int z :: .int x :: S) M N P Q = Wp mX12_feed d 96 L (.int (x - z) :: S) M N P Q := wp_isub rfl dX12_feed_95
theorem sX12_feed_96 : Wp mX12_feed d 96 L (.int z :: .int x :: S) M N P Q = Wp mX12_feed d 97 L (.int (x >>> (z &&& 31)) :: S) M N P Q := wp_ishr rfl dX12_feed_96
theorem sX12_feed_97 : Wp mX12_feed d 97 L (.int x :: S) M N P Q = Wp mX12_feed d 98 L (.int x.toInt8.toInt32 :: S) M N P Q := wp_i2b rfl dX12_feed_97
theorem sX12_feed_98 (hs : (shk r).1 = 101) : Wp mX12_feed d 98 L (.int x :: .int j :: .ref r :: S) M N P Q = (vp_in j (shk r).2 ∧ Wp mX12_feed d 99 L S (up2 M r j.toNatClampNeg x.toInt8.toInt32) N P Q) := wp_bastoreB rfl dX12_feed_98 (kd hs)
theorem sX12_feed_99 (hn : nl a5 = true) : Wp mX12_feed d 99 (a0 :: a1 :: a2 :: a3 :: a4 :: a5 :: .int x :: L) S M N P Q = Wp mX12_feed d 102 (a0 :: a1 :: a2 :: a3 :: a4 :: a5 :: .int (x + 1) :: L) S M N P Q := wp_iinc rfl dX12_feed_99 rfl rfl (okst6 hn) rfl
theorem sX12_feed_102 : Wp mX12_feed d 102 L S M N P Q = Wp mX12_feed d 18 L S M N P Q := wp_goto rfl dX12_feed_102 rfl
theorem sX12_feed_105 : Wp mX12_feed d 105 (.ref r :: L) S M N P Q = Wp mX12_feed d 106 (.ref r :: L) (.ref r :: S) M N P Q := wp_aload_n rfl dX12_feed_105 rfl
theorem sX12_feed_106 (hv : a0.category = 1) : Wp mX12_feed d 106 L (a0 :: S) M N P Q = Wp mX12_feed d 107 L (a0 :: a0 :: S) M N P Q := wp_dup rfl dX12_feed_106 hv
theorem sX12_feed_107 (hs : shk r = (12, 0)) : Wp mX12_feed d 107 L (.ref r :: S) M N P Q = Wp mX12_feed d 110 L (.int (M r 23) :: S) M N P Q := wp_getfield rfl dX12_feed_107 rfl rfl hs rfl
theorem sX12_feed_110 : Wp mX12_feed d 110 L S M N P Q = Wp mX12_feed d 112 L (.int 20 :: S) M N P Q := wp_bipush rfl dX12_feed_110 rfl
theorem sX12_feed_112 : Wp mX12_feed d 112 L (.int z :: .int x :: S) M N P Q = Wp mX12_feed d 113 L (.int (x + z) :: S) M N P Q := wp_iadd rfl dX12_feed_112
theorem sX12_feed_113 (hs : shk r = (12, 0)) : Wp mX12_feed d 113 L (.int x :: .ref r :: S) M N P Q = Wp mX12_feed d 116 L S (up2 M r 23 x) N P Q := wp_putI rfl dX12_feed_113 rfl rfl hs rfl ⟨_, _, _, _, rfl, by decide, rfl, tyX12_ok 23 (by decide), rfl, rfl⟩
theorem sX12_feed_116 : Wp mX12_feed d 116 (.ref r :: L) S M N P Q = Wp mX12_feed d 117 (.ref r :: L) (.ref r :: S) M N P Q := wp_aload_n rfl dX12_feed_116 rfl
theorem sX12_feed_117 (hs : shk r = (12, 0)) : Wp mX12_feed d 117 L (.ref r :: S) M N P Q = Wp mX12_feed d 120 L (.int (M r 23) :: S) M N P Q := wp_getfield rfl dX12_feed_117 rfl rfl hs rfl
theorem sX12_feed_120 : Wp mX12_feed d 120 L [.int x] M N P Q = Q (some (.int x)) M N P := wp_iret rfl dX12_feed_120 rfl rfl
theorem sX12_end_0 : Wp mX12_end d 0 (a0 :: .int x :: L) S M N P Q = Wp mX12_end d 1 (a0 :: .int x :: L) (.int x :: S) M N P Q := wp_iload_n rfl dX12_end_0 rfl
theorem sX12_end_1 : Wp mX12_end d 1 L (.int x :: S) M N P Q = (if x < 0 then Wp mX12_end d 12 L S M N P Q else Wp mX12_end d 4 L S M N P Q) := wp_if_lt rfl dX12_end_1 rfl
theorem sX12_end_4 : Wp mX12_end d 4 (a0 :: .int x :: L) S M N P Q = Wp mX12_end d 5 (a0 :: .int x :: L) (.int x :: S) M N P Q := wp_iload_n rfl dX12_end_4 rfl
theorem sX12_end_5 : Wp mX12_end d 5 (.ref r :: L) S M N P Q = Wp mX12_end d 6 (.ref r :: L) (.ref r :: S) M N P Q := wp_aload_n rfl dX12_end_5 rfl
theorem sX12_end_6 (hs : shk r = (12, 0)) : Wp mX12_end d 6 L (.ref r :: S) M N P Q = Wp mX12_end d 9 L (.int (M r 23) :: S) M N P Q := wp_getfield rfl dX12_end_6 rfl rfl hs rfl
theorem sX12_end_9 : Wp mX12_end d 9 L (.int z :: .int x :: S) M N P Q = (if x ≤ z then Wp mX12_end d 14 L S M N P Q else Wp mX12_end d 12 L S M N P Q) := wp_icmp_le rfl dX12_end_9 rfl
theorem sX12_end_12 : Wp mX12_end d 12 L S M N P Q = Wp mX12_end d 13 L (.int (-1) :: S) M N P Q := wp_iconst rfl dX12_end_12 rfl
theorem sX12_end_13 : Wp mX12_end d 13 L [.int x] M N P Q = Q (some (.int x)) M N P := wp_iret rfl dX12_end_13 rfl rfl
theorem sX12_end_14 : Wp mX12_end d 14 (.ref r :: L) S M N P Q = Wp mX12_end d 15 (.ref r :: L) (.ref r :: S) M N P Q := wp_aload_n rfl dX12_end_14 rfl
theorem sX12_end_15 : Wp mX12_end d 15 (a0 :: .int x :: L) S M N P Q = Wp mX12_end d 16 (a0 :: .int x :: L) (.int x :: S) M N P Q := wp_iload_n rfl dX12_end_15 rfl
theorem sX12_end_16 (hs : shk r = (12, 0)) : Wp mX12_end d 16 L (.int x :: .ref r :: S) M N P Q = Wp mX12_end d 19 L S (up2 M r 23 x) N P Q := wp_putI rfl dX12_end_16 rfl rfl hs rfl ⟨_, _, _, _, rfl, by decide, rfl, tyX12_ok 23 (by decide), rfl, rfl⟩
theorem sX12_end_19 : Wp mX12_end d 19 (a0 :: .int x :: L) S M N P Q = Wp mX12_end d 20 (a0 :: .int x :: L) (.int x :: S) M N P Q := wp_iload_n rfl dX12_end_19 rfl
theorem sX12_end_20 : Wp mX12_end d 20 L [.int x] M N P Q = Q (some (.int x)) M N P := wp_iret rfl dX12_end_20 rfl rfl
end SS3
