section SS2
variable {d : Nat} {a0 a1 a2 a3 a4 a5 a6 a7 a8 a9 a10 a11 : Value} {L S : List Value} {M : Mt} {N : Nt} {P : Pt'} {Q : Qt} {x z j : Int32} {lx lz : Int64} {r r2 c n : Nat}
theorem sX11_person_0 : Wp mX11_person d 0 (.ref r :: L) S M N P Q = Wp mX11_person d 1 (.ref r :: L) (.ref r :: S) M N P Q := wp_aload_n rfl dX11_person_0 rfl
theorem sX11_person_1 (hs : shk r = (11, 0)) : Wp mX11_person d 1 L (.ref r :: S) M N P Q = Wp mX11_person d 4 L (.ref (P r 0) :: S) M N P Q := wp_getfield rfl dX11_person_1 rfl rfl hs rfl
theorem sX11_person_4 : Wp mX11_person d 4 (a0 :: .int x :: L) S M N P Q = Wp mX11_person d 5 (a0 :: .int x :: L) (.int x :: S) M N P Q := wp_iload_n rfl dX11_person_4 rfl
theorem sX11_person_5 : Wp mX11_person d 5 (a0 :: a1 :: .int x :: L) S M N P Q = Wp mX11_person d 6 (a0 :: a1 :: .int x :: L) (.int x :: S) M N P Q := wp_iload_n rfl dX11_person_5 rfl
theorem sX11_person_6 {x0 : Int32} {x1 : Int32} (hs : shk r = (5, 0)) (hS : stk S ≤ 8) : Wp mX11_person (d + 1) 6 L (.int x1 :: .int x0 :: .ref r :: S) M N P Q = Wp mX5_add d 0 [.ref r, .int x0, .int x1] [] M N P (fun v M' N' P' => Wp mX11_person (d + 1) 9 L (v.toList ++ S) M' N' P' Q) := wp_callV (As := [.int x0, .int x1]) rfl dX11_person_6 rfl rfl (Or.inl ⟨_, _, _, hs, rfl⟩) rfl ⟨rfl, Nat.le_of_ble_eq_true rfl, Nat.le_of_ble_eq_true rfl⟩ rfl hS
theorem sX11_person_9 : Wp mX11_person d 9 L [.int x] M N P Q = Q (some (.int x)) M N P := wp_iret rfl dX11_person_9 rfl rfl
theorem sX11_dead_0 : Wp mX11_dead d 0 (a0 :: a1 :: .int x :: L) S M N P Q = Wp mX11_dead d 1 (a0 :: a1 :: .int x :: L) (.int x :: S) M N P Q := wp_iload_n rfl dX11_dead_0 rfl
theorem sX11_dead_1 {x0 : Int32} (hS : stk S ≤ 8) : Wp mX11_dead (d + 1) 1 L (.int x0 :: S) M N P Q = Wp mX11_isDay d 0 [.int x0] [] M N P (fun v M' N' P' => Wp mX11_dead (d + 1) 4 L (v.toList ++ S) M' N' P' Q) := wp_callS (As := [.int x0]) rfl dX11_dead_1 rfl rfl rfl ⟨rfl, Nat.le_of_ble_eq_true rfl, Nat.le_of_ble_eq_true rfl⟩ rfl hS
theorem sX11_dead_4 : Wp mX11_dead d 4 L (.int x :: S) M N P Q = (if x = 0 then Wp mX11_dead d 23 L S M N P Q else Wp mX11_dead d 7 L S M N P Q) := wp_if_eq rfl dX11_dead_4 rfl
theorem sX11_dead_7 : Wp mX11_dead d 7 (.ref r :: L) S M N P Q = Wp mX11_dead d 8 (.ref r :: L) (.ref r :: S) M N P Q := wp_aload_n rfl dX11_dead_7 rfl
theorem sX11_dead_8 (hs : shk r = (11, 0)) : Wp mX11_dead d 8 L (.ref r :: S) M N P Q = Wp mX11_dead d 11 L (.ref (P r 0) :: S) M N P Q := wp_getfield rfl dX11_dead_8 rfl rfl hs rfl
theorem sX11_dead_11 : Wp mX11_dead d 11 (a0 :: .int x :: L) S M N P Q = Wp mX11_dead d 12 (a0 :: .int x :: L) (.int x :: S) M N P Q := wp_iload_n rfl dX11_dead_11 rfl
theorem sX11_dead_12 : Wp mX11_dead d 12 (a0 :: a1 :: .int x :: L) S M N P Q = Wp mX11_dead d 13 (a0 :: a1 :: .int x :: L) (.int x :: S) M N P Q := wp_iload_n rfl dX11_dead_12 rfl
theorem sX11_dead_13 {x0 : Int32} {x1 : Int32} (hs : shk r = (5, 0)) (hS : stk S ≤ 8) : Wp mX11_dead (d + 1) 13 L (.int x1 :: .int x0 :: .ref r :: S) M N P Q = Wp mX5_tellDeath d 0 [.ref r, .int x0, .int x1] [] M N P (fun v M' N' P' => Wp mX11_dead (d + 1) 16 L (v.toList ++ S) M' N' P' Q) := wp_callV (As := [.int x0, .int x1]) rfl dX11_dead_13 rfl rfl (Or.inl ⟨_, _, _, hs, rfl⟩) rfl ⟨rfl, Nat.le_of_ble_eq_true rfl, Nat.le_of_ble_eq_true rfl⟩ rfl hS
theorem sX11_dead_16 : Wp mX11_dead d 16 L (.int x :: S) M N P Q = (if x = 0 then Wp mX11_dead d 23 L S M N P Q else Wp mX11_dead d 19 L S M N P Q) := wp_if_eq rfl dX11_dead_16 rfl
theorem sX11_dead_19 : Wp mX11_dead d 19 L S M N P Q = Wp mX11_dead d 20 L (.int 1 :: S) M N P Q := wp_iconst rfl dX11_dead_19 rfl
theorem sX11_dead_20 : Wp mX11_dead d 20 L S M N P Q = Wp mX11_dead d 24 L S M N P Q := wp_goto rfl dX11_dead_20 rfl
theorem sX11_dead_23 : Wp mX11_dead d 23 L S M N P Q = Wp mX11_dead d 24 L (.int 0 :: S) M N P Q := wp_iconst rfl dX11_dead_23 rfl
theorem sX11_dead_24 (hb : bit x) : Wp mX11_dead d 24 L [.int x] M N P Q = Q (some (.int x)) M N P := wp_iret rfl dX11_dead_24 rfl (bit_n hb)
theorem sX11_house_0 : Wp mX11_house d 0 (.ref r :: L) S M N P Q = Wp mX11_house d 1 (.ref r :: L) (.ref r :: S) M N P Q := wp_aload_n rfl dX11_house_0 rfl
theorem sX11_house_1 (hs : shk r = (11, 0)) : Wp mX11_house d 1 L (.ref r :: S) M N P Q = Wp mX11_house d 4 L (.ref (P r 0) :: S) M N P Q := wp_getfield rfl dX11_house_1 rfl rfl hs rfl
theorem sX11_house_4 : Wp mX11_house d 4 (a0 :: .int x :: L) S M N P Q = Wp mX11_house d 5 (a0 :: .int x :: L) (.int x :: S) M N P Q := wp_iload_n rfl dX11_house_4 rfl
theorem sX11_house_5 {x0 : Int32} (hs : shk r = (5, 0)) (hS : stk S ≤ 8) : Wp mX11_house (d + 1) 5 L (.int x0 :: .ref r :: S) M N P Q = Wp mX5_has d 0 [.ref r, .int x0] [] M N P (fun v M' N' P' => Wp mX11_house (d + 1) 8 L (v.toList ++ S) M' N' P' Q) := wp_callV (As := [.int x0]) rfl dX11_house_5 rfl rfl (Or.inl ⟨_, _, _, hs, rfl⟩) rfl ⟨rfl, Nat.le_of_ble_eq_true rfl, Nat.le_of_ble_eq_true rfl⟩ rfl hS
theorem sX11_house_8 : Wp mX11_house d 8 L (.int x :: S) M N P Q = (if x = 0 then Wp mX11_house d 18 L S M N P Q else Wp mX11_house d 11 L S M N P Q) := wp_if_eq rfl dX11_house_8 rfl
theorem sX11_house_11 : Wp mX11_house d 11 (a0 :: a1 :: .int x :: L) S M N P Q = Wp mX11_house d 12 (a0 :: a1 :: .int x :: L) (.int x :: S) M N P Q := wp_iload_n rfl dX11_house_11 rfl
theorem sX11_house_12 {x0 : Int32} (hS : stk S ≤ 8) : Wp mX11_house (d + 1) 12 L (.int x0 :: S) M N P Q = Wp mX11_isMoney d 0 [.int x0] [] M N P (fun v M' N' P' => Wp mX11_house (d + 1) 15 L (v.toList ++ S) M' N' P' Q) := wp_callS (As := [.int x0]) rfl dX11_house_12 rfl rfl rfl ⟨rfl, Nat.le_of_ble_eq_true rfl, Nat.le_of_ble_eq_true rfl⟩ rfl hS
theorem sX11_house_15 : Wp mX11_house d 15 L (.int x :: S) M N P Q = (if x = 0 then Wp mX11_house d 18 L S M N P Q else Wp mX11_house d 20 L S M N P Q) := wp_if_ne rfl dX11_house_15 rfl
theorem sX11_house_18 : Wp mX11_house d 18 L S M N P Q = Wp mX11_house d 19 L (.int (-1) :: S) M N P Q := wp_iconst rfl dX11_house_18 rfl
theorem sX11_house_19 : Wp mX11_house d 19 L [.int x] M N P Q = Q (some (.int x)) M N P := wp_iret rfl dX11_house_19 rfl rfl
theorem sX11_house_20 : Wp mX11_house d 20 (.ref r :: L) S M N P Q = Wp mX11_house d 21 (.ref r :: L) (.ref r :: S) M N P Q := wp_aload_n rfl dX11_house_20 rfl
theorem sX11_house_21 (hs : shk r = (11, 0)) : Wp mX11_house d 21 L (.ref r :: S) M N P Q = Wp mX11_house d 24 L (.ref (P r 2) :: S) M N P Q := wp_getfield rfl dX11_house_21 rfl rfl hs rfl
theorem sX11_house_24 : Wp mX11_house d 24 (a0 :: .int x :: L) S M N P Q = Wp mX11_house d 25 (a0 :: .int x :: L) (.int x :: S) M N P Q := wp_iload_n rfl dX11_house_24 rfl
theorem sX11_house_25 : Wp mX11_house d 25 (a0 :: a1 :: .int x :: L) S M N P Q = Wp mX11_house d 26 (a0 :: a1 :: .int x :: L) (.int x :: S) M N P Q := wp_iload_n rfl dX11_house_25 rfl
theorem sX11_house_26 {x0 : Int32} {x1 : Int32} (hs : shk r = (1, 0)) (hS : stk S ≤ 8) : Wp mX11_house (d + 1) 26 L (.int x1 :: .int x0 :: .ref r :: S) M N P Q = Wp mX1_add d 0 [.ref r, .int x0, .int x1] [] M N P (fun v M' N' P' => Wp mX11_house (d + 1) 29 L (v.toList ++ S) M' N' P' Q) := wp_callV (As := [.int x0, .int x1]) rfl dX11_house_26 rfl rfl (Or.inl ⟨_, _, _, hs, rfl⟩) rfl ⟨rfl, Nat.le_of_ble_eq_true rfl, Nat.le_of_ble_eq_true rfl⟩ rfl hS
theorem sX11_house_29 (hn : nl a2 = true) : Wp mX11_house d 29 (a0 :: a1 :: a2 :: a3 :: L) (.int x :: S) M N P Q = Wp mX11_house d 30 (a0 :: a1 :: a2 :: .int x :: L) S M N P Q := wp_istore_n rfl dX11_house_29 (lenGt3 ..) (okst3 hn) rfl
theorem sX11_house_30 : Wp mX11_house d 30 (.ref r :: L) S M N P Q = Wp mX11_house d 31 (.ref r :: L) (.ref r :: S) M N P Q := wp_aload_n rfl dX11_house_30 rfl
theorem sX11_house_31 (hs : shk r = (11, 0)) : Wp mX11_house d 31 L (.ref r :: S) M N P Q = Wp mX11_house d 34 L (.ref (P r 10) :: S) M N P Q := wp_getfield rfl dX11_house_31 rfl rfl hs rfl
theorem sX11_house_34 : Wp mX11_house d 34 (.ref r :: L) S M N P Q = Wp mX11_house d 35 (.ref r :: L) (.ref r :: S) M N P Q := wp_aload_n rfl dX11_house_34 rfl
theorem sX11_house_35 (hs : shk r = (11, 0)) : Wp mX11_house d 35 L (.ref r :: S) M N P Q = Wp mX11_house d 38 L (.ref (P r 2) :: S) M N P Q := wp_getfield rfl dX11_house_35 rfl rfl hs rfl
theorem sX11_house_38 (hs : shk r = (1, 0)) : Wp mX11_house d 38 L (.ref r :: S) M N P Q = Wp mX11_house d 41 L (.int (M r 2) :: S) M N P Q := wp_getfield rfl dX11_house_38 rfl rfl hs rfl
theorem sX11_house_41 {x0 : Int32} (hs : shk r = (7, 0)) (hS : stk S ≤ 8) : Wp mX11_house (d + 1) 41 L (.int x0 :: .ref r :: S) M N P Q = Wp mX7_reachTo d 0 [.ref r, .int x0] [] M N P (fun v M' N' P' => Wp mX11_house (d + 1) 44 L (v.toList ++ S) M' N' P' Q) := wp_callV (As := [.int x0]) rfl dX11_house_41 rfl rfl (Or.inl ⟨_, _, _, hs, rfl⟩) rfl ⟨rfl, Nat.le_of_ble_eq_true rfl, Nat.le_of_ble_eq_true rfl⟩ rfl hS
theorem sX11_house_44 : Wp mX11_house d 44 (a0 :: a1 :: a2 :: .int x :: L) S M N P Q = Wp mX11_house d 45 (a0 :: a1 :: a2 :: .int x :: L) (.int x :: S) M N P Q := wp_iload_n rfl dX11_house_44 rfl
theorem sX11_house_45 : Wp mX11_house d 45 L [.int x] M N P Q = Q (some (.int x)) M N P := wp_iret rfl dX11_house_45 rfl rfl
theorem sX11_level_0 : Wp mX11_level d 0 (a0 :: .int x :: L) S M N P Q = Wp mX11_level d 1 (a0 :: .int x :: L) (.int x :: S) M N P Q := wp_iload_n rfl dX11_level_0 rfl
theorem sX11_level_1 {x0 : Int32} (hS : stk S ≤ 8) : Wp mX11_level (d + 1) 1 L (.int x0 :: S) M N P Q = Wp mX11_isYear d 0 [.int x0] [] M N P (fun v M' N' P' => Wp mX11_level (d + 1) 4 L (v.toList ++ S) M' N' P' Q) := wp_callS (As := [.int x0]) rfl dX11_level_1 rfl rfl rfl ⟨rfl, Nat.le_of_ble_eq_true rfl, Nat.le_of_ble_eq_true rfl⟩ rfl hS
theorem sX11_level_4 : Wp mX11_level d 4 L (.int x :: S) M N P Q = (if x = 0 then Wp mX11_level d 19 L S M N P Q else Wp mX11_level d 7 L S M N P Q) := wp_if_eq rfl dX11_level_4 rfl
theorem sX11_level_7 : Wp mX11_level d 7 (a0 :: a1 :: .int x :: L) S M N P Q = Wp mX11_level d 8 (a0 :: a1 :: .int x :: L) (.int x :: S) M N P Q := wp_iload_n rfl dX11_level_7 rfl
theorem sX11_level_8 : Wp mX11_level d 8 L S M N P Q = Wp mX11_level d 9 L (.int 1 :: S) M N P Q := wp_iconst rfl dX11_level_8 rfl
theorem sX11_level_9 : Wp mX11_level d 9 L (.int z :: .int x :: S) M N P Q = (if x < z then Wp mX11_level d 19 L S M N P Q else Wp mX11_level d 12 L S M N P Q) := wp_icmp_lt rfl dX11_level_9 rfl
theorem sX11_level_12 : Wp mX11_level d 12 (a0 :: a1 :: .int x :: L) S M N P Q = Wp mX11_level d 13 (a0 :: a1 :: .int x :: L) (.int x :: S) M N P Q := wp_iload_n rfl dX11_level_12 rfl
theorem sX11_level_13 : Wp mX11_level d 13 L S M N P Q = Wp mX11_level d 16 L (.int 10000 :: S) M N P Q := wp_sipush rfl dX11_level_13 rfl
theorem sX11_level_16 : Wp mX11_level d 16 L (.int z :: .int x :: S) M N P Q = (if x ≤ z then Wp mX11_level d 21 L S M N P Q else Wp mX11_level d 19 L S M N P Q) := wp_icmp_le rfl dX11_level_16 rfl
theorem sX11_level_19 : Wp mX11_level d 19 L S M N P Q = Wp mX11_level d 20 L (.int 0 :: S) M N P Q := wp_iconst rfl dX11_level_19 rfl
theorem sX11_level_20 (hb : bit x) : Wp mX11_level d 20 L [.int x] M N P Q = Q (some (.int x)) M N P := wp_iret rfl dX11_level_20 rfl (bit_n hb)
theorem sX11_level_21 : Wp mX11_level d 21 (.ref r :: L) S M N P Q = Wp mX11_level d 22 (.ref r :: L) (.ref r :: S) M N P Q := wp_aload_n rfl dX11_level_21 rfl
theorem sX11_level_22 (hs : shk r = (11, 0)) : Wp mX11_level d 22 L (.ref r :: S) M N P Q = Wp mX11_level d 25 L (.ref (P r 3) :: S) M N P Q := wp_getfield rfl dX11_level_22 rfl rfl hs rfl
theorem sX11_level_25 : Wp mX11_level d 25 (a0 :: .int x :: L) S M N P Q = Wp mX11_level d 26 (a0 :: .int x :: L) (.int x :: S) M N P Q := wp_iload_n rfl dX11_level_25 rfl
theorem sX11_level_26 : Wp mX11_level d 26 (a0 :: a1 :: .int x :: L) S M N P Q = Wp mX11_level d 27 (a0 :: a1 :: .int x :: L) (.int x :: S) M N P Q := wp_iload_n rfl dX11_level_26 rfl
theorem sX11_level_27 (hs : (shk r).1 = 100) : Wp mX11_level d 27 L (.int x :: .int j :: .ref r :: S) M N P Q = (vp_in j (shk r).2 ∧ Wp mX11_level d 28 L S (up2 M r j.toNatClampNeg x) N P Q) := wp_iastore rfl dX11_level_27 (kd hs)
theorem sX11_level_28 : Wp mX11_level d 28 L S M N P Q = Wp mX11_level d 29 L (.int 1 :: S) M N P Q := wp_iconst rfl dX11_level_28 rfl
theorem sX11_level_29 (hb : bit x) : Wp mX11_level d 29 L [.int x] M N P Q = Q (some (.int x)) M N P := wp_iret rfl dX11_level_29 rfl (bit_n hb)
theorem sX11_money_0 : Wp mX11_money d 0 (a0 :: .int x :: L) S M N P Q = Wp mX11_money d 1 (a0 :: .int x :: L) (.int x :: S) M N P Q := wp_iload_n rfl dX11_money_0 rfl
theorem sX11_money_1 {x0 : Int32} (hS : stk S ≤ 8) : Wp mX11_money (d + 1) 1 L (.int x0 :: S) M N P Q = Wp mX11_isMoney d 0 [.int x0] [] M N P (fun v M' N' P' => Wp mX11_money (d + 1) 4 L (v.toList ++ S) M' N' P' Q) := wp_callS (As := [.int x0]) rfl dX11_money_1 rfl rfl rfl ⟨rfl, Nat.le_of_ble_eq_true rfl, Nat.le_of_ble_eq_true rfl⟩ rfl hS
theorem sX11_money_4 : Wp mX11_money d 4 L (.int x :: S) M N P Q = (if x = 0 then Wp mX11_money d 17 L S M N P Q else Wp mX11_money d 7 L S M N P Q) := wp_if_eq rfl dX11_money_4 rfl
theorem sX11_money_7 : Wp mX11_money d 7 (.ref r :: L) S M N P Q = Wp mX11_money d 8 (.ref r :: L) (.ref r :: S) M N P Q := wp_aload_n rfl dX11_money_7 rfl
theorem sX11_money_8 : Wp mX11_money d 8 (a0 :: .int x :: L) S M N P Q = Wp mX11_money d 9 (a0 :: .int x :: L) (.int x :: S) M N P Q := wp_iload_n rfl dX11_money_8 rfl
theorem sX11_money_9 : Wp mX11_money d 9 (a0 :: a1 :: .int x :: L) S M N P Q = Wp mX11_money d 10 (a0 :: a1 :: .int x :: L) (.int x :: S) M N P Q := wp_iload_n rfl dX11_money_9 rfl
theorem sX11_money_10 : Wp mX11_money d 10 (a0 :: a1 :: a2 :: .int x :: L) S M N P Q = Wp mX11_money d 11 (a0 :: a1 :: a2 :: .int x :: L) (.int x :: S) M N P Q := wp_iload_n rfl dX11_money_10 rfl
theorem sX11_money_11 {x0 : Int32} {x1 : Int32} {x2 : Int32} (hs : shk r = (11, 0)) (hS : stk S ≤ 8) : Wp mX11_money (d + 1) 11 L (.int x2 :: .int x1 :: .int x0 :: .ref r :: S) M N P Q = Wp mX11_convert d 0 [.ref r, .int x0, .int x1, .int x2] [] M N P (fun v M' N' P' => Wp mX11_money (d + 1) 14 L (v.toList ++ S) M' N' P' Q) := wp_callV (As := [.int x0, .int x1, .int x2]) rfl dX11_money_11 rfl rfl (Or.inl ⟨_, _, _, hs, rfl⟩) rfl ⟨rfl, Nat.le_of_ble_eq_true rfl, Nat.le_of_ble_eq_true rfl⟩ rfl hS
theorem sX11_money_14 : Wp mX11_money d 14 L S M N P Q = Wp mX11_money d 20 L S M N P Q := wp_goto rfl dX11_money_14 rfl
theorem sX11_money_17 : Wp mX11_money d 17 L S M N P Q = Wp mX11_money d 20 L (.long (-1) :: S) M N P Q := wp_ldc2_w rfl dX11_money_17 rfl rfl
theorem sX11_money_20 : Wp mX11_money d 20 L [.long lx] M N P Q = Q (some (.long lx)) M N P := wp_lret rfl dX11_money_20 rfl
theorem sX11_paper_0 : Wp mX11_paper d 0 (.ref r :: L) S M N P Q = Wp mX11_paper d 1 (.ref r :: L) (.ref r :: S) M N P Q := wp_aload_n rfl dX11_paper_0 rfl
theorem sX11_paper_1 (hs : shk r = (11, 0)) : Wp mX11_paper d 1 L (.ref r :: S) M N P Q = Wp mX11_paper d 4 L (.ref (P r 2) :: S) M N P Q := wp_getfield rfl dX11_paper_1 rfl rfl hs rfl
theorem sX11_paper_4 : Wp mX11_paper d 4 (a0 :: .int x :: L) S M N P Q = Wp mX11_paper d 5 (a0 :: .int x :: L) (.int x :: S) M N P Q := wp_iload_n rfl dX11_paper_4 rfl
theorem sX11_paper_5 {x0 : Int32} (hs : shk r = (1, 0)) (hS : stk S ≤ 8) : Wp mX11_paper (d + 1) 5 L (.int x0 :: .ref r :: S) M N P Q = Wp mX1_has d 0 [.ref r, .int x0] [] M N P (fun v M' N' P' => Wp mX11_paper (d + 1) 8 L (v.toList ++ S) M' N' P' Q) := wp_callV (As := [.int x0]) rfl dX11_paper_5 rfl rfl (Or.inl ⟨_, _, _, hs, rfl⟩) rfl ⟨rfl, Nat.le_of_ble_eq_true rfl, Nat.le_of_ble_eq_true rfl⟩ rfl hS
theorem sX11_paper_8 : Wp mX11_paper d 8 L (.int x :: S) M N P Q = (if x = 0 then Wp mX11_paper d 38 L S M N P Q else Wp mX11_paper d 11 L S M N P Q) := wp_if_eq rfl dX11_paper_8 rfl
theorem sX11_paper_11 : Wp mX11_paper d 11 (.ref r :: L) S M N P Q = Wp mX11_paper d 12 (.ref r :: L) (.ref r :: S) M N P Q := wp_aload_n rfl dX11_paper_11 rfl
theorem sX11_paper_12 (hs : shk r = (11, 0)) : Wp mX11_paper d 12 L (.ref r :: S) M N P Q = Wp mX11_paper d 15 L (.ref (P r 0) :: S) M N P Q := wp_getfield rfl dX11_paper_12 rfl rfl hs rfl
theorem sX11_paper_15 : Wp mX11_paper d 15 (a0 :: a1 :: .int x :: L) S M N P Q = Wp mX11_paper d 16 (a0 :: a1 :: .int x :: L) (.int x :: S) M N P Q := wp_iload_n rfl dX11_paper_15 rfl
theorem sX11_paper_16 {x0 : Int32} (hs : shk r = (5, 0)) (hS : stk S ≤ 8) : Wp mX11_paper (d + 1) 16 L (.int x0 :: .ref r :: S) M N P Q = Wp mX5_has d 0 [.ref r, .int x0] [] M N P (fun v M' N' P' => Wp mX11_paper (d + 1) 19 L (v.toList ++ S) M' N' P' Q) := wp_callV (As := [.int x0]) rfl dX11_paper_16 rfl rfl (Or.inl ⟨_, _, _, hs, rfl⟩) rfl ⟨rfl, Nat.le_of_ble_eq_true rfl, Nat.le_of_ble_eq_true rfl⟩ rfl hS
theorem sX11_paper_19 : Wp mX11_paper d 19 L (.int x :: S) M N P Q = (if x = 0 then Wp mX11_paper d 38 L S M N P Q else Wp mX11_paper d 22 L S M N P Q) := wp_if_eq rfl dX11_paper_19 rfl
theorem sX11_paper_22 : Wp mX11_paper d 22 (.ref r :: L) S M N P Q = Wp mX11_paper d 23 (.ref r :: L) (.ref r :: S) M N P Q := wp_aload_n rfl dX11_paper_22 rfl
theorem sX11_paper_23 (hs : shk r = (11, 0)) : Wp mX11_paper d 23 L (.ref r :: S) M N P Q = Wp mX11_paper d 26 L (.ref (P r 0) :: S) M N P Q := wp_getfield rfl dX11_paper_23 rfl rfl hs rfl
theorem sX11_paper_26 : Wp mX11_paper d 26 (a0 :: a1 :: a2 :: .int x :: L) S M N P Q = Wp mX11_paper d 27 (a0 :: a1 :: a2 :: .int x :: L) (.int x :: S) M N P Q := wp_iload_n rfl dX11_paper_26 rfl
theorem sX11_paper_27 {x0 : Int32} (hs : shk r = (5, 0)) (hS : stk S ≤ 8) : Wp mX11_paper (d + 1) 27 L (.int x0 :: .ref r :: S) M N P Q = Wp mX5_has d 0 [.ref r, .int x0] [] M N P (fun v M' N' P' => Wp mX11_paper (d + 1) 30 L (v.toList ++ S) M' N' P' Q) := wp_callV (As := [.int x0]) rfl dX11_paper_27 rfl rfl (Or.inl ⟨_, _, _, hs, rfl⟩) rfl ⟨rfl, Nat.le_of_ble_eq_true rfl, Nat.le_of_ble_eq_true rfl⟩ rfl hS
theorem sX11_paper_30 : Wp mX11_paper d 30 L (.int x :: S) M N P Q = (if x = 0 then Wp mX11_paper d 38 L S M N P Q else Wp mX11_paper d 33 L S M N P Q) := wp_if_eq rfl dX11_paper_30 rfl
theorem sX11_paper_33 : Wp mX11_paper d 33 (a0 :: a1 :: .int x :: L) S M N P Q = Wp mX11_paper d 34 (a0 :: a1 :: .int x :: L) (.int x :: S) M N P Q := wp_iload_n rfl dX11_paper_33 rfl
theorem sX11_paper_34 : Wp mX11_paper d 34 (a0 :: a1 :: a2 :: .int x :: L) S M N P Q = Wp mX11_paper d 35 (a0 :: a1 :: a2 :: .int x :: L) (.int x :: S) M N P Q := wp_iload_n rfl dX11_paper_34 rfl
theorem sX11_paper_35 : Wp mX11_paper d 35 L (.int z :: .int x :: S) M N P Q = (if x = z then Wp mX11_paper d 38 L S M N P Q else Wp mX11_paper d 40 L S M N P Q) := wp_icmp_ne rfl dX11_paper_35 rfl
theorem sX11_paper_38 : Wp mX11_paper d 38 L S M N P Q = Wp mX11_paper d 39 L (.int (-1) :: S) M N P Q := wp_iconst rfl dX11_paper_38 rfl
theorem sX11_paper_39 : Wp mX11_paper d 39 L [.int x] M N P Q = Q (some (.int x)) M N P := wp_iret rfl dX11_paper_39 rfl rfl
theorem sX11_paper_40 : Wp mX11_paper d 40 (a0 :: a1 :: a2 :: a3 :: .int x :: L) S M N P Q = Wp mX11_paper d 42 (a0 :: a1 :: a2 :: a3 :: .int x :: L) (.int x :: S) M N P Q := wp_iload rfl dX11_paper_40 rfl
theorem sX11_paper_42 : Wp mX11_paper d 42 L (.int x :: S) M N P Q = (if x < 0 then Wp mX11_paper d 73 L S M N P Q else Wp mX11_paper d 45 L S M N P Q) := wp_if_lt rfl dX11_paper_42 rfl
theorem sX11_paper_45 : Wp mX11_paper d 45 (a0 :: a1 :: a2 :: a3 :: .int x :: L) S M N P Q = Wp mX11_paper d 47 (a0 :: a1 :: a2 :: a3 :: .int x :: L) (.int x :: S) M N P Q := wp_iload rfl dX11_paper_45 rfl
theorem sX11_paper_47 : Wp mX11_paper d 47 (.ref r :: L) S M N P Q = Wp mX11_paper d 48 (.ref r :: L) (.ref r :: S) M N P Q := wp_aload_n rfl dX11_paper_47 rfl
theorem sX11_paper_48 (hs : shk r = (11, 0)) : Wp mX11_paper d 48 L (.ref r :: S) M N P Q = Wp mX11_paper d 51 L (.int (M r 12) :: S) M N P Q := wp_getfield rfl dX11_paper_48 rfl rfl hs rfl
theorem sX11_paper_51 : Wp mX11_paper d 51 L (.int z :: .int x :: S) M N P Q = (if z < x then Wp mX11_paper d 73 L S M N P Q else Wp mX11_paper d 54 L S M N P Q) := wp_icmp_gt rfl dX11_paper_51 rfl
theorem sX11_paper_54 : Wp mX11_paper d 54 (a0 :: a1 :: a2 :: a3 :: a4 :: .int x :: L) S M N P Q = Wp mX11_paper d 56 (a0 :: a1 :: a2 :: a3 :: a4 :: .int x :: L) (.int x :: S) M N P Q := wp_iload rfl dX11_paper_54 rfl
theorem sX11_paper_56 : Wp mX11_paper d 56 L (.int x :: S) M N P Q = (if x < 0 then Wp mX11_paper d 73 L S M N P Q else Wp mX11_paper d 59 L S M N P Q) := wp_if_lt rfl dX11_paper_56 rfl
theorem sX11_paper_59 : Wp mX11_paper d 59 (a0 :: a1 :: a2 :: a3 :: a4 :: .int x :: L) S M N P Q = Wp mX11_paper d 61 (a0 :: a1 :: a2 :: a3 :: a4 :: .int x :: L) (.int x :: S) M N P Q := wp_iload rfl dX11_paper_59 rfl
theorem sX11_paper_61 : Wp mX11_paper d 61 L S M N P Q = Wp mX11_paper d 62 L (.int 2 :: S) M N P Q := wp_iconst rfl dX11_paper_61 rfl
theorem sX11_paper_62 : Wp mX11_paper d 62 L (.int z :: .int x :: S) M N P Q = (if z < x then Wp mX11_paper d 73 L S M N P Q else Wp mX11_paper d 65 L S M N P Q) := wp_icmp_gt rfl dX11_paper_62 rfl
theorem sX11_paper_65 : Wp mX11_paper d 65 (a0 :: a1 :: a2 :: a3 :: a4 :: a5 :: .int x :: L) S M N P Q = Wp mX11_paper d 67 (a0 :: a1 :: a2 :: a3 :: a4 :: a5 :: .int x :: L) (.int x :: S) M N P Q := wp_iload rfl dX11_paper_65 rfl
theorem sX11_paper_67 {x0 : Int32} (hS : stk S ≤ 8) : Wp mX11_paper (d + 1) 67 L (.int x0 :: S) M N P Q = Wp mX11_isMoney d 0 [.int x0] [] M N P (fun v M' N' P' => Wp mX11_paper (d + 1) 70 L (v.toList ++ S) M' N' P' Q) := wp_callS (As := [.int x0]) rfl dX11_paper_67 rfl rfl rfl ⟨rfl, Nat.le_of_ble_eq_true rfl, Nat.le_of_ble_eq_true rfl⟩ rfl hS
theorem sX11_paper_70 : Wp mX11_paper d 70 L (.int x :: S) M N P Q = (if x = 0 then Wp mX11_paper d 73 L S M N P Q else Wp mX11_paper d 75 L S M N P Q) := wp_if_ne rfl dX11_paper_70 rfl
theorem sX11_paper_73 : Wp mX11_paper d 73 L S M N P Q = Wp mX11_paper d 74 L (.int (-1) :: S) M N P Q := wp_iconst rfl dX11_paper_73 rfl
theorem sX11_paper_74 : Wp mX11_paper d 74 L [.int x] M N P Q = Q (some (.int x)) M N P := wp_iret rfl dX11_paper_74 rfl rfl
theorem sX11_paper_75 : Wp mX11_paper d 75 (.ref r :: L) S M N P Q = Wp mX11_paper d 76 (.ref r :: L) (.ref r :: S) M N P Q := wp_aload_n rfl dX11_paper_75 rfl
theorem sX11_paper_76 (hs : shk r = (11, 0)) : Wp mX11_paper d 76 L (.ref r :: S) M N P Q = Wp mX11_paper d 79 L (.ref (P r 4) :: S) M N P Q := wp_getfield rfl dX11_paper_76 rfl rfl hs rfl
theorem sX11_paper_79 : Wp mX11_paper d 79 (a0 :: .int x :: L) S M N P Q = Wp mX11_paper d 80 (a0 :: .int x :: L) (.int x :: S) M N P Q := wp_iload_n rfl dX11_paper_79 rfl
theorem sX11_paper_80 : Wp mX11_paper d 80 (a0 :: a1 :: .int x :: L) S M N P Q = Wp mX11_paper d 81 (a0 :: a1 :: .int x :: L) (.int x :: S) M N P Q := wp_iload_n rfl dX11_paper_80 rfl
theorem sX11_paper_81 : Wp mX11_paper d 81 (a0 :: a1 :: a2 :: .int x :: L) S M N P Q = Wp mX11_paper d 82 (a0 :: a1 :: a2 :: .int x :: L) (.int x :: S) M N P Q := wp_iload_n rfl dX11_paper_81 rfl
theorem sX11_paper_82 : Wp mX11_paper d 82 (a0 :: a1 :: a2 :: a3 :: .int x :: L) S M N P Q = Wp mX11_paper d 84 (a0 :: a1 :: a2 :: a3 :: .int x :: L) (.int x :: S) M N P Q := wp_iload rfl dX11_paper_82 rfl
theorem sX11_paper_84 {x0 : Int32} {x1 : Int32} {x2 : Int32} {x3 : Int32} (hs : shk r = (3, 0)) (hS : stk S ≤ 8) : Wp mX11_paper (d + 1) 84 L (.int x3 :: .int x2 :: .int x1 :: .int x0 :: .ref r :: S) M N P Q = Wp mX3_add d 0 [.ref r, .int x0, .int x1, .int x2, .int x3, .float 0] [] M N P (fun v M' N' P' => Wp mX11_paper (d + 1) 87 L (v.toList ++ S) M' N' P' Q) := wp_callV (As := [.int x0, .int x1, .int x2, .int x3]) rfl dX11_paper_84 rfl rfl (Or.inl ⟨_, _, _, hs, rfl⟩) rfl ⟨rfl, Nat.le_of_ble_eq_true rfl, Nat.le_of_ble_eq_true rfl⟩ rfl hS
theorem sX11_paper_87 (hn : nl a6 = true) : Wp mX11_paper d 87 (a0 :: a1 :: a2 :: a3 :: a4 :: a5 :: a6 :: a7 :: L) (.int x :: S) M N P Q = Wp mX11_paper d 89 (a0 :: a1 :: a2 :: a3 :: a4 :: a5 :: a6 :: .int x :: L) S M N P Q := wp_istore rfl dX11_paper_87 (lenGt7 ..) (okst7 hn) rfl
theorem sX11_paper_89 : Wp mX11_paper d 89 (.ref r :: L) S M N P Q = Wp mX11_paper d 90 (.ref r :: L) (.ref r :: S) M N P Q := wp_aload_n rfl dX11_paper_89 rfl
theorem sX11_paper_90 (hs : shk r = (11, 0)) : Wp mX11_paper d 90 L (.ref r :: S) M N P Q = Wp mX11_paper d 93 L (.ref (P r 4) :: S) M N P Q := wp_getfield rfl dX11_paper_90 rfl rfl hs rfl
theorem sX11_paper_93 : Wp mX11_paper d 93 (a0 :: a1 :: a2 :: a3 :: a4 :: a5 :: a6 :: .int x :: L) S M N P Q = Wp mX11_paper d 95 (a0 :: a1 :: a2 :: a3 :: a4 :: a5 :: a6 :: .int x :: L) (.int x :: S) M N P Q := wp_iload rfl dX11_paper_93 rfl
theorem sX11_paper_95 : Wp mX11_paper d 95 (a0 :: a1 :: a2 :: a3 :: a4 :: .int x :: L) S M N P Q = Wp mX11_paper d 97 (a0 :: a1 :: a2 :: a3 :: a4 :: .int x :: L) (.int x :: S) M N P Q := wp_iload rfl dX11_paper_95 rfl
theorem sX11_paper_97 : Wp mX11_paper d 97 (a0 :: a1 :: a2 :: a3 :: a4 :: a5 :: .int x :: L) S M N P Q = Wp mX11_paper d 99 (a0 :: a1 :: a2 :: a3 :: a4 :: a5 :: .int x :: L) (.int x :: S) M N P Q := wp_iload rfl dX11_paper_97 rfl
theorem sX11_paper_99 : Wp mX11_paper d 99 (.ref r :: L) S M N P Q = Wp mX11_paper d 100 (.ref r :: L) (.ref r :: S) M N P Q := wp_aload_n rfl dX11_paper_99 rfl
theorem sX11_paper_100 (hs : shk r = (11, 0)) : Wp mX11_paper d 100 L (.ref r :: S) M N P Q = Wp mX11_paper d 103 L (.int (M r 12) :: S) M N P Q := wp_getfield rfl dX11_paper_100 rfl rfl hs rfl
theorem sX11_paper_103 {x0 : Int32} {x1 : Int32} {x2 : Int32} {x3 : Int32} (hs : shk r = (3, 0)) (hS : stk S ≤ 8) : Wp mX11_paper (d + 1) 103 L (.int x3 :: .int x2 :: .int x1 :: .int x0 :: .ref r :: S) M N P Q = Wp mX3_describe d 0 [.ref r, .int x0, .int x1, .int x2, .int x3] [] M N P (fun v M' N' P' => Wp mX11_paper (d + 1) 106 L (v.toList ++ S) M' N' P' Q) := wp_callV (As := [.int x0, .int x1, .int x2, .int x3]) rfl dX11_paper_103 rfl rfl (Or.inl ⟨_, _, _, hs, rfl⟩) rfl ⟨rfl, Nat.le_of_ble_eq_true rfl, Nat.le_of_ble_eq_true rfl⟩ rfl hS
theorem sX11_paper_106 : Wp mX11_paper d 106 (a0 :: a1 :: a2 :: a3 :: a4 :: a5 :: a6 :: .int x :: L) S M N P Q = Wp mX11_paper d 108 (a0 :: a1 :: a2 :: a3 :: a4 :: a5 :: a6 :: .int x :: L) (.int x :: S) M N P Q := wp_iload rfl dX11_paper_106 rfl
theorem sX11_paper_108 : Wp mX11_paper d 108 L [.int x] M N P Q = Q (some (.int x)) M N P := wp_iret rfl dX11_paper_108 rfl rfl
theorem sX11_isFalse_0 : Wp mX11_isFalse d 0 (.ref r :: L) S M N P Q = Wp mX11_isFalse d 1 (.ref r :: L) (.ref r :: S) M N P Q := wp_aload_n rfl dX11_isFalse_0 rfl
theorem sX11_isFalse_1 (hs : shk r = (11, 0)) : Wp mX11_isFalse d 1 L (.ref r :: S) M N P Q = Wp mX11_isFalse d 4 L (.ref (P r 4) :: S) M N P Q := wp_getfield rfl dX11_isFalse_1 rfl rfl hs rfl
theorem sX11_isFalse_4 : Wp mX11_isFalse d 4 (a0 :: .int x :: L) S M N P Q = Wp mX11_isFalse d 5 (a0 :: .int x :: L) (.int x :: S) M N P Q := wp_iload_n rfl dX11_isFalse_4 rfl
theorem sX11_isFalse_5 : Wp mX11_isFalse d 5 (.ref r :: L) S M N P Q = Wp mX11_isFalse d 6 (.ref r :: L) (.ref r :: S) M N P Q := wp_aload_n rfl dX11_isFalse_5 rfl
theorem sX11_isFalse_6 (hs : shk r = (11, 0)) : Wp mX11_isFalse d 6 L (.ref r :: S) M N P Q = Wp mX11_isFalse d 9 L (.int (M r 12) :: S) M N P Q := wp_getfield rfl dX11_isFalse_6 rfl rfl hs rfl
theorem sX11_isFalse_9 {x0 : Int32} {x1 : Int32} (hs : shk r = (3, 0)) (hS : stk S ≤ 8) : Wp mX11_isFalse (d + 1) 9 L (.int x1 :: .int x0 :: .ref r :: S) M N P Q = Wp mX3_revoke d 0 [.ref r, .int x0, .int x1] [] M N P (fun v M' N' P' => Wp mX11_isFalse (d + 1) 12 L (v.toList ++ S) M' N' P' Q) := wp_callV (As := [.int x0, .int x1]) rfl dX11_isFalse_9 rfl rfl (Or.inl ⟨_, _, _, hs, rfl⟩) rfl ⟨rfl, Nat.le_of_ble_eq_true rfl, Nat.le_of_ble_eq_true rfl⟩ rfl hS
theorem sX11_isFalse_12 (hb : bit x) : Wp mX11_isFalse d 12 L [.int x] M N P Q = Q (some (.int x)) M N P := wp_iret rfl dX11_isFalse_12 rfl (bit_n hb)
theorem sX11_later_0 : Wp mX11_later d 0 (a0 :: .int x :: L) S M N P Q = Wp mX11_later d 1 (a0 :: .int x :: L) (.int x :: S) M N P Q := wp_iload_n rfl dX11_later_0 rfl
theorem sX11_later_1 : Wp mX11_later d 1 L (.int x :: S) M N P Q = (if x < 0 then Wp mX11_later d 22 L S M N P Q else Wp mX11_later d 4 L S M N P Q) := wp_if_lt rfl dX11_later_1 rfl
theorem sX11_later_4 : Wp mX11_later d 4 (a0 :: .int x :: L) S M N P Q = Wp mX11_later d 5 (a0 :: .int x :: L) (.int x :: S) M N P Q := wp_iload_n rfl dX11_later_4 rfl
theorem sX11_later_5 : Wp mX11_later d 5 L S M N P Q = Wp mX11_later d 8 L (.int 1000 :: S) M N P Q := wp_sipush rfl dX11_later_5 rfl
theorem sX11_later_8 : Wp mX11_later d 8 L (.int z :: .int x :: S) M N P Q = (if z < x then Wp mX11_later d 22 L S M N P Q else Wp mX11_later d 11 L S M N P Q) := wp_icmp_gt rfl dX11_later_8 rfl
theorem sX11_later_11 : Wp mX11_later d 11 (.ref r :: L) S M N P Q = Wp mX11_later d 12 (.ref r :: L) (.ref r :: S) M N P Q := wp_aload_n rfl dX11_later_11 rfl
theorem sX11_later_12 (hs : shk r = (11, 0)) : Wp mX11_later d 12 L (.ref r :: S) M N P Q = Wp mX11_later d 15 L (.int (M r 12) :: S) M N P Q := wp_getfield rfl dX11_later_12 rfl rfl hs rfl
theorem sX11_later_15 : Wp mX11_later d 15 (a0 :: .int x :: L) S M N P Q = Wp mX11_later d 16 (a0 :: .int x :: L) (.int x :: S) M N P Q := wp_iload_n rfl dX11_later_15 rfl
theorem sX11_later_16 : Wp mX11_later d 16 L (.int z :: .int x :: S) M N P Q = Wp mX11_later d 17 L (.int (x + z) :: S) M N P Q := wp_iadd rfl dX11_later_16
theorem sX11_later_17 : Wp mX11_later d 17 L S M N P Q = Wp mX11_later d 19 L (.int (36499) :: S) M N P Q := wp_ldc rfl dX11_later_17 rfl rfl
theorem sX11_later_19 : Wp mX11_later d 19 L (.int z :: .int x :: S) M N P Q = (if x ≤ z then Wp mX11_later d 24 L S M N P Q else Wp mX11_later d 22 L S M N P Q) := wp_icmp_le rfl dX11_later_19 rfl
theorem sX11_later_22 : Wp mX11_later d 22 L S M N P Q = Wp mX11_later d 23 L (.int (-1) :: S) M N P Q := wp_iconst rfl dX11_later_22 rfl
theorem sX11_later_23 : Wp mX11_later d 23 L [.int x] M N P Q = Q (some (.int x)) M N P := wp_iret rfl dX11_later_23 rfl rfl
theorem sX11_later_24 : Wp mX11_later d 24 (.ref r :: L) S M N P Q = Wp mX11_later d 25 (.ref r :: L) (.ref r :: S) M N P Q := wp_aload_n rfl dX11_later_24 rfl
theorem sX11_later_25 (hv : a0.category = 1) : Wp mX11_later d 25 L (a0 :: S) M N P Q = Wp mX11_later d 26 L (a0 :: a0 :: S) M N P Q := wp_dup rfl dX11_later_25 hv
theorem sX11_later_26 (hs : shk r = (11, 0)) : Wp mX11_later d 26 L (.ref r :: S) M N P Q = Wp mX11_later d 29 L (.int (M r 12) :: S) M N P Q := wp_getfield rfl dX11_later_26 rfl rfl hs rfl
theorem sX11_later_29 : Wp mX11_later d 29 (a0 :: .int x :: L) S M N P Q = Wp mX11_later d 30 (a0 :: .int x :: L) (.int x :: S) M N P Q := wp_iload_n rfl dX11_later_29 rfl
theorem sX11_later_30 : Wp mX11_later d 30 L (.int z :: .int x :: S) M N P Q = Wp mX11_later d 31 L (.int (x + z) :: S) M N P Q := wp_iadd rfl dX11_later_30
theorem sX11_later_31 (hs : shk r = (11, 0)) : Wp mX11_later d 31 L (.int x :: .ref r :: S) M N P Q = Wp mX11_later d 34 L S (up2 M r 12 x) N P Q := wp_putI rfl dX11_later_31 rfl rfl hs rfl ⟨_, _, _, _, rfl, by decide, rfl, tyX11_ok 12 (by decide), rfl, rfl⟩
theorem sX11_later_34 : Wp mX11_later d 34 (.ref r :: L) S M N P Q = Wp mX11_later d 35 (.ref r :: L) (.ref r :: S) M N P Q := wp_aload_n rfl dX11_later_34 rfl
theorem sX11_later_35 (hs : shk r = (11, 0)) : Wp mX11_later d 35 L (.ref r :: S) M N P Q = Wp mX11_later d 38 L (.int (M r 12) :: S) M N P Q := wp_getfield rfl dX11_later_35 rfl rfl hs rfl
theorem sX11_later_38 : Wp mX11_later d 38 L [.int x] M N P Q = Q (some (.int x)) M N P := wp_iret rfl dX11_later_38 rfl rfl
theorem sX11_holder_0 : Wp mX11_holder d 0 (.ref r :: L) S M N P Q = Wp mX11_holder d 1 (.ref r :: L) (.ref r :: S) M N P Q := wp_aload_n rfl dX11_holder_0 rfl
theorem sX11_holder_1 (hs : shk r = (11, 0)) : Wp mX11_holder d 1 L (.ref r :: S) M N P Q = Wp mX11_holder d 4 L (.ref (P r 2) :: S) M N P Q := wp_getfield rfl dX11_holder_1 rfl rfl hs rfl
theorem sX11_holder_4 : Wp mX11_holder d 4 (a0 :: .int x :: L) S M N P Q = Wp mX11_holder d 5 (a0 :: .int x :: L) (.int x :: S) M N P Q := wp_iload_n rfl dX11_holder_4 rfl
theorem sX11_holder_5 {x0 : Int32} (hs : shk r = (1, 0)) (hS : stk S ≤ 8) : Wp mX11_holder (d + 1) 5 L (.int x0 :: .ref r :: S) M N P Q = Wp mX1_has d 0 [.ref r, .int x0] [] M N P (fun v M' N' P' => Wp mX11_holder (d + 1) 8 L (v.toList ++ S) M' N' P' Q) := wp_callV (As := [.int x0]) rfl dX11_holder_5 rfl rfl (Or.inl ⟨_, _, _, hs, rfl⟩) rfl ⟨rfl, Nat.le_of_ble_eq_true rfl, Nat.le_of_ble_eq_true rfl⟩ rfl hS
theorem sX11_holder_8 : Wp mX11_holder d 8 L (.int x :: S) M N P Q = (if x = 0 then Wp mX11_holder d 11 L S M N P Q else Wp mX11_holder d 13 L S M N P Q) := wp_if_ne rfl dX11_holder_8 rfl
theorem sX11_holder_11 : Wp mX11_holder d 11 L S M N P Q = Wp mX11_holder d 12 L (.int (-1) :: S) M N P Q := wp_iconst rfl dX11_holder_11 rfl
theorem sX11_holder_12 : Wp mX11_holder d 12 L [.int x] M N P Q = Q (some (.int x)) M N P := wp_iret rfl dX11_holder_12 rfl rfl
theorem sX11_holder_13 : Wp mX11_holder d 13 (.ref r :: L) S M N P Q = Wp mX11_holder d 14 (.ref r :: L) (.ref r :: S) M N P Q := wp_aload_n rfl dX11_holder_13 rfl
theorem sX11_holder_14 (hs : shk r = (11, 0)) : Wp mX11_holder d 14 L (.ref r :: S) M N P Q = Wp mX11_holder d 17 L (.ref (P r 5) :: S) M N P Q := wp_getfield rfl dX11_holder_14 rfl rfl hs rfl
theorem sX11_holder_17 : Wp mX11_holder d 17 (a0 :: .int x :: L) S M N P Q = Wp mX11_holder d 18 (a0 :: .int x :: L) (.int x :: S) M N P Q := wp_iload_n rfl dX11_holder_17 rfl
theorem sX11_holder_18 : Wp mX11_holder d 18 (a0 :: a1 :: .int x :: L) S M N P Q = Wp mX11_holder d 19 (a0 :: a1 :: .int x :: L) (.int x :: S) M N P Q := wp_iload_n rfl dX11_holder_18 rfl
theorem sX11_holder_19 : Wp mX11_holder d 19 (a0 :: a1 :: a2 :: .int x :: L) S M N P Q = Wp mX11_holder d 20 (a0 :: a1 :: a2 :: .int x :: L) (.int x :: S) M N P Q := wp_iload_n rfl dX11_holder_19 rfl
theorem sX11_holder_20 : Wp mX11_holder d 20 L S M N P Q = Wp mX11_holder d 21 L (.int (-1) :: S) M N P Q := wp_iconst rfl dX11_holder_20 rfl
theorem sX11_holder_21 {x0 : Int32} {x1 : Int32} {x2 : Int32} {x3 : Int32} (hs : shk r = (10, 0)) (hS : stk S ≤ 8) : Wp mX11_holder (d + 1) 21 L (.int x3 :: .int x2 :: .int x1 :: .int x0 :: .ref r :: S) M N P Q = Wp mX10_follow d 0 [.ref r, .int x0, .int x1, .int x2, .int x3, .float 0, .float 0, .float 0] [] M N P (fun v M' N' P' => Wp mX11_holder (d + 1) 24 L (v.toList ++ S) M' N' P' Q) := wp_callV (As := [.int x0, .int x1, .int x2, .int x3]) rfl dX11_holder_21 rfl rfl (Or.inl ⟨_, _, _, hs, rfl⟩) rfl ⟨rfl, Nat.le_of_ble_eq_true rfl, Nat.le_of_ble_eq_true rfl⟩ rfl hS
theorem sX11_holder_24 : Wp mX11_holder d 24 (.ref r :: L) S M N P Q = Wp mX11_holder d 25 (.ref r :: L) (.ref r :: S) M N P Q := wp_aload_n rfl dX11_holder_24 rfl
theorem sX11_holder_25 (hs : shk r = (11, 0)) : Wp mX11_holder d 25 L (.ref r :: S) M N P Q = Wp mX11_holder d 28 L (.ref (P r 5) :: S) M N P Q := wp_getfield rfl dX11_holder_25 rfl rfl hs rfl
theorem sX11_holder_28 (hs : shk r = (10, 0)) : Wp mX11_holder d 28 L (.ref r :: S) M N P Q = Wp mX11_holder d 31 L (.int (M r 2) :: S) M N P Q := wp_getfield rfl dX11_holder_28 rfl rfl hs rfl
theorem sX11_holder_31 : Wp mX11_holder d 31 L [.int x] M N P Q = Q (some (.int x)) M N P := wp_iret rfl dX11_holder_31 rfl rfl
theorem sX11_loose_0 : Wp mX11_loose d 0 (.ref r :: L) S M N P Q = Wp mX11_loose d 1 (.ref r :: L) (.ref r :: S) M N P Q := wp_aload_n rfl dX11_loose_0 rfl
theorem sX11_loose_1 (hs : shk r = (11, 0)) : Wp mX11_loose d 1 L (.ref r :: S) M N P Q = Wp mX11_loose d 4 L (.ref (P r 4) :: S) M N P Q := wp_getfield rfl dX11_loose_1 rfl rfl hs rfl
theorem sX11_loose_4 : Wp mX11_loose d 4 (a0 :: .int x :: L) S M N P Q = Wp mX11_loose d 5 (a0 :: .int x :: L) (.int x :: S) M N P Q := wp_iload_n rfl dX11_loose_4 rfl
theorem sX11_loose_5 : Wp mX11_loose d 5 (a0 :: a1 :: .int x :: L) S M N P Q = Wp mX11_loose d 6 (a0 :: a1 :: .int x :: L) (.int x :: S) M N P Q := wp_iload_n rfl dX11_loose_5 rfl
theorem sX11_loose_6 {x0 : Int32} {x1 : Int32} (hs : shk r = (3, 0)) (hS : stk S ≤ 8) : Wp mX11_loose (d + 1) 6 L (.int x1 :: .int x0 :: .ref r :: S) M N P Q = Wp mX3_countsOn d 0 [.ref r, .int x0, .int x1] [] M N P (fun v M' N' P' => Wp mX11_loose (d + 1) 9 L (v.toList ++ S) M' N' P' Q) := wp_callV (As := [.int x0, .int x1]) rfl dX11_loose_6 rfl rfl (Or.inl ⟨_, _, _, hs, rfl⟩) rfl ⟨rfl, Nat.le_of_ble_eq_true rfl, Nat.le_of_ble_eq_true rfl⟩ rfl hS
theorem sX11_loose_9 : Wp mX11_loose d 9 L (.int x :: S) M N P Q = (if x = 0 then Wp mX11_loose d 12 L S M N P Q else Wp mX11_loose d 14 L S M N P Q) := wp_if_ne rfl dX11_loose_9 rfl
theorem sX11_loose_12 : Wp mX11_loose d 12 L S M N P Q = Wp mX11_loose d 13 L (.int (-1) :: S) M N P Q := wp_iconst rfl dX11_loose_12 rfl
theorem sX11_loose_13 : Wp mX11_loose d 13 L [.int x] M N P Q = Q (some (.int x)) M N P := wp_iret rfl dX11_loose_13 rfl rfl
theorem sX11_loose_14 : Wp mX11_loose d 14 (.ref r :: L) S M N P Q = Wp mX11_loose d 15 (.ref r :: L) (.ref r :: S) M N P Q := wp_aload_n rfl dX11_loose_14 rfl
theorem sX11_loose_15 (hs : shk r = (11, 0)) : Wp mX11_loose d 15 L (.ref r :: S) M N P Q = Wp mX11_loose d 18 L (.ref (P r 5) :: S) M N P Q := wp_getfield rfl dX11_loose_15 rfl rfl hs rfl
theorem sX11_loose_18 : Wp mX11_loose d 18 (.ref r :: L) S M N P Q = Wp mX11_loose d 19 (.ref r :: L) (.ref r :: S) M N P Q := wp_aload_n rfl dX11_loose_18 rfl
theorem sX11_loose_19 (hs : shk r = (11, 0)) : Wp mX11_loose d 19 L (.ref r :: S) M N P Q = Wp mX11_loose d 22 L (.ref (P r 4) :: S) M N P Q := wp_getfield rfl dX11_loose_19 rfl rfl hs rfl
theorem sX11_loose_22 (hs : shk r = (3, 0)) : Wp mX11_loose d 22 L (.ref r :: S) M N P Q = Wp mX11_loose d 25 L (.ref (P r 0) :: S) M N P Q := wp_getfield rfl dX11_loose_22 rfl rfl hs rfl
theorem sX11_loose_25 : Wp mX11_loose d 25 (a0 :: .int x :: L) S M N P Q = Wp mX11_loose d 26 (a0 :: .int x :: L) (.int x :: S) M N P Q := wp_iload_n rfl dX11_loose_25 rfl
theorem sX11_loose_26 (hs : (shk r).1 = 100) : Wp mX11_loose d 26 L (.int j :: .ref r :: S) M N P Q = (vp_in j (shk r).2 ∧ Wp mX11_loose d 27 L (.int (M r j.toNatClampNeg) :: S) M N P Q) := wp_iaload rfl dX11_loose_26 (kd hs)
theorem sX11_loose_27 : Wp mX11_loose d 27 L S M N P Q = Wp mX11_loose d 29 L (.int (36499) :: S) M N P Q := wp_ldc rfl dX11_loose_27 rfl rfl
theorem sX11_loose_29 : Wp mX11_loose d 29 (a0 :: a1 :: .int x :: L) S M N P Q = Wp mX11_loose d 30 (a0 :: a1 :: .int x :: L) (.int x :: S) M N P Q := wp_iload_n rfl dX11_loose_29 rfl
theorem sX11_loose_30 : Wp mX11_loose d 30 (a0 :: .int x :: L) S M N P Q = Wp mX11_loose d 31 (a0 :: .int x :: L) (.int x :: S) M N P Q := wp_iload_n rfl dX11_loose_30 rfl
theorem sX11_loose_31 {x0 : Int32} {x1 : Int32} {x2 : Int32} {x3 : Int32} (hs : shk r = (10, 0)) (hS : stk S ≤ 8) : Wp mX11_loose (d + 1) 31 L (.int x3 :: .int x2 :: .int x1 :: .int x0 :: .ref r :: S) M N P Q = Wp mX10_follow d 0 [.ref r, .int x0, .int x1, .int x2, .int x3, .float 0, .float 0, .float 0] [] M N P (fun v M' N' P' => Wp mX11_loose (d + 1) 34 L (v.toList ++ S) M' N' P' Q) := wp_callV (As := [.int x0, .int x1, .int x2, .int x3]) rfl dX11_loose_31 rfl rfl (Or.inl ⟨_, _, _, hs, rfl⟩) rfl ⟨rfl, Nat.le_of_ble_eq_true rfl, Nat.le_of_ble_eq_true rfl⟩ rfl hS
theorem sX11_loose_34 : Wp mX11_loose d 34 (.ref r :: L) S M N P Q = Wp mX11_loose d 35 (.ref r :: L) (.ref r :: S) M N P Q := wp_aload_n rfl dX11_loose_34 rfl
theorem sX11_loose_35 (hs : shk r = (11, 0)) : Wp mX11_loose d 35 L (.ref r :: S) M N P Q = Wp mX11_loose d 38 L (.ref (P r 5) :: S) M N P Q := wp_getfield rfl dX11_loose_35 rfl rfl hs rfl
theorem sX11_loose_38 (hs : shk r = (10, 0)) : Wp mX11_loose d 38 L (.ref r :: S) M N P Q = Wp mX11_loose d 41 L (.int (M r 3) :: S) M N P Q := wp_getfield rfl dX11_loose_38 rfl rfl hs rfl
theorem sX11_loose_41 : Wp mX11_loose d 41 L (.int x :: S) M N P Q = (if x = 0 then Wp mX11_loose d 48 L S M N P Q else Wp mX11_loose d 44 L S M N P Q) := wp_if_eq rfl dX11_loose_41 rfl
theorem sX11_loose_44 : Wp mX11_loose d 44 L S M N P Q = Wp mX11_loose d 45 L (.int 0 :: S) M N P Q := wp_iconst rfl dX11_loose_44 rfl
theorem sX11_loose_45 : Wp mX11_loose d 45 L S M N P Q = Wp mX11_loose d 49 L S M N P Q := wp_goto rfl dX11_loose_45 rfl
theorem sX11_loose_48 : Wp mX11_loose d 48 L S M N P Q = Wp mX11_loose d 49 L (.int 1 :: S) M N P Q := wp_iconst rfl dX11_loose_48 rfl
theorem sX11_loose_49 : Wp mX11_loose d 49 L [.int x] M N P Q = Q (some (.int x)) M N P := wp_iret rfl dX11_loose_49 rfl rfl
theorem sX11_feed_0 : Wp mX11_feed d 0 (.ref r :: L) S M N P Q = Wp mX11_feed d 1 (.ref r :: L) (.ref r :: S) M N P Q := wp_aload_n rfl dX11_feed_0 rfl
theorem sX11_feed_1 (hs : shk r = (11, 0)) : Wp mX11_feed d 1 L (.ref r :: S) M N P Q = Wp mX11_feed d 4 L (.ref (P r 7) :: S) M N P Q := wp_getfield rfl dX11_feed_1 rfl rfl hs rfl
theorem sX11_feed_4 : Wp mX11_feed d 4 L S M N P Q = Wp mX11_feed d 5 L (.int 5 :: S) M N P Q := wp_iconst rfl dX11_feed_4 rfl
theorem sX11_feed_5 {x0 : Int32} (hs : shk r = (8, 0)) (hS : stk S ≤ 8) : Wp mX11_feed (d + 1) 5 L (.int x0 :: .ref r :: S) M N P Q = Wp mX8_hasRoomFor d 0 [.ref r, .int x0] [] M N P (fun v M' N' P' => Wp mX11_feed (d + 1) 8 L (v.toList ++ S) M' N' P' Q) := wp_callV (As := [.int x0]) rfl dX11_feed_5 rfl rfl (Or.inl ⟨_, _, _, hs, rfl⟩) rfl ⟨rfl, Nat.le_of_ble_eq_true rfl, Nat.le_of_ble_eq_true rfl⟩ rfl hS
theorem sX11_feed_8 : Wp mX11_feed d 8 L (.int x :: S) M N P Q = (if x = 0 then Wp mX11_feed d 11 L S M N P Q else Wp mX11_feed d 13 L S M N P Q) := wp_if_ne rfl dX11_feed_8 rfl
theorem sX11_feed_11 : Wp mX11_feed d 11 L S M N P Q = Wp mX11_feed d 12 L (.int (-1) :: S) M N P Q := wp_iconst rfl dX11_feed_11 rfl
theorem sX11_feed_12 : Wp mX11_feed d 12 L [.int x] M N P Q = Q (some (.int x)) M N P := wp_iret rfl dX11_feed_12 rfl rfl
theorem sX11_feed_13 : Wp mX11_feed d 13 (.ref r :: L) S M N P Q = Wp mX11_feed d 14 (.ref r :: L) (.ref r :: S) M N P Q := wp_aload_n rfl dX11_feed_13 rfl
theorem sX11_feed_14 (hs : shk r = (11, 0)) : Wp mX11_feed d 14 L (.ref r :: S) M N P Q = Wp mX11_feed d 17 L (.ref (P r 7) :: S) M N P Q := wp_getfield rfl dX11_feed_14 rfl rfl hs rfl
theorem sX11_feed_17 : Wp mX11_feed d 17 (a0 :: .int x :: L) S M N P Q = Wp mX11_feed d 18 (a0 :: .int x :: L) (.int x :: S) M N P Q := wp_iload_n rfl dX11_feed_17 rfl
theorem sX11_feed_18 {x0 : Int32} (hs : shk r = (8, 0)) (hS : stk S ≤ 8) : Wp mX11_feed (d + 1) 18 L (.int x0 :: .ref r :: S) M N P Q = Wp mX8_put d 0 [.ref r, .int x0] [] M N P (fun v M' N' P' => Wp mX11_feed (d + 1) 21 L (v.toList ++ S) M' N' P' Q) := wp_callV (As := [.int x0]) rfl dX11_feed_18 rfl rfl (Or.inl ⟨_, _, _, hs, rfl⟩) rfl ⟨rfl, Nat.le_of_ble_eq_true rfl, Nat.le_of_ble_eq_true rfl⟩ rfl hS
theorem sX11_feed_21 : Wp mX11_feed d 21 (.ref r :: L) S M N P Q = Wp mX11_feed d 22 (.ref r :: L) (.ref r :: S) M N P Q := wp_aload_n rfl dX11_feed_21 rfl
theorem sX11_feed_22 (hs : shk r = (11, 0)) : Wp mX11_feed d 22 L (.ref r :: S) M N P Q = Wp mX11_feed d 25 L (.ref (P r 7) :: S) M N P Q := wp_getfield rfl dX11_feed_22 rfl rfl hs rfl
theorem sX11_feed_25 : Wp mX11_feed d 25 (a0 :: a1 :: .int x :: L) S M N P Q = Wp mX11_feed d 26 (a0 :: a1 :: .int x :: L) (.int x :: S) M N P Q := wp_iload_n rfl dX11_feed_25 rfl
theorem sX11_feed_26 {x0 : Int32} (hs : shk r = (8, 0)) (hS : stk S ≤ 8) : Wp mX11_feed (d + 1) 26 L (.int x0 :: .ref r :: S) M N P Q = Wp mX8_put d 0 [.ref r, .int x0] [] M N P (fun v M' N' P' => Wp mX11_feed (d + 1) 29 L (v.toList ++ S) M' N' P' Q) := wp_callV (As := [.int x0]) rfl dX11_feed_26 rfl rfl (Or.inl ⟨_, _, _, hs, rfl⟩) rfl ⟨rfl, Nat.le_of_ble_eq_true rfl, Nat.le_of_ble_eq_true rfl⟩ rfl hS
theorem sX11_feed_29 : Wp mX11_feed d 29 (.ref r :: L) S M N P Q = Wp mX11_feed d 30 (.ref r :: L) (.ref r :: S) M N P Q := wp_aload_n rfl dX11_feed_29 rfl
theorem sX11_feed_30 (hs : shk r = (11, 0)) : Wp mX11_feed d 30 L (.ref r :: S) M N P Q = Wp mX11_feed d 33 L (.ref (P r 7) :: S) M N P Q := wp_getfield rfl dX11_feed_30 rfl rfl hs rfl
theorem sX11_feed_33 : Wp mX11_feed d 33 (a0 :: a1 :: a2 :: .int x :: L) S M N P Q = Wp mX11_feed d 34 (a0 :: a1 :: a2 :: .int x :: L) (.int x :: S) M N P Q := wp_iload_n rfl dX11_feed_33 rfl
theorem sX11_feed_34 {x0 : Int32} (hs : shk r = (8, 0)) (hS : stk S ≤ 8) : Wp mX11_feed (d + 1) 34 L (.int x0 :: .ref r :: S) M N P Q = Wp mX8_put d 0 [.ref r, .int x0] [] M N P (fun v M' N' P' => Wp mX11_feed (d + 1) 37 L (v.toList ++ S) M' N' P' Q) := wp_callV (As := [.int x0]) rfl dX11_feed_34 rfl rfl (Or.inl ⟨_, _, _, hs, rfl⟩) rfl ⟨rfl, Nat.le_of_ble_eq_true rfl, Nat.le_of_ble_eq_true rfl⟩ rfl hS
theorem sX11_feed_37 : Wp mX11_feed d 37 (.ref r :: L) S M N P Q = Wp mX11_feed d 38 (.ref r :: L) (.ref r :: S) M N P Q := wp_aload_n rfl dX11_feed_37 rfl
theorem sX11_feed_38 (hs : shk r = (11, 0)) : Wp mX11_feed d 38 L (.ref r :: S) M N P Q = Wp mX11_feed d 41 L (.ref (P r 7) :: S) M N P Q := wp_getfield rfl dX11_feed_38 rfl rfl hs rfl
theorem sX11_feed_41 : Wp mX11_feed d 41 (a0 :: a1 :: a2 :: a3 :: .int x :: L) S M N P Q = Wp mX11_feed d 43 (a0 :: a1 :: a2 :: a3 :: .int x :: L) (.int x :: S) M N P Q := wp_iload rfl dX11_feed_41 rfl
theorem sX11_feed_43 {x0 : Int32} (hs : shk r = (8, 0)) (hS : stk S ≤ 8) : Wp mX11_feed (d + 1) 43 L (.int x0 :: .ref r :: S) M N P Q = Wp mX8_put d 0 [.ref r, .int x0] [] M N P (fun v M' N' P' => Wp mX11_feed (d + 1) 46 L (v.toList ++ S) M' N' P' Q) := wp_callV (As := [.int x0]) rfl dX11_feed_43 rfl rfl (Or.inl ⟨_, _, _, hs, rfl⟩) rfl ⟨rfl, Nat.le_of_ble_eq_true rfl, Nat.le_of_ble_eq_true rfl⟩ rfl hS
theorem sX11_feed_46 : Wp mX11_feed d 46 (.ref r :: L) S M N P Q = Wp mX11_feed d 47 (.ref r :: L) (.ref r :: S) M N P Q := wp_aload_n rfl dX11_feed_46 rfl
theorem sX11_feed_47 (hs : shk r = (11, 0)) : Wp mX11_feed d 47 L (.ref r :: S) M N P Q = Wp mX11_feed d 50 L (.ref (P r 7) :: S) M N P Q := wp_getfield rfl dX11_feed_47 rfl rfl hs rfl
theorem sX11_feed_50 : Wp mX11_feed d 50 (a0 :: a1 :: a2 :: a3 :: a4 :: .int x :: L) S M N P Q = Wp mX11_feed d 52 (a0 :: a1 :: a2 :: a3 :: a4 :: .int x :: L) (.int x :: S) M N P Q := wp_iload rfl dX11_feed_50 rfl
theorem sX11_feed_52 {x0 : Int32} (hs : shk r = (8, 0)) (hS : stk S ≤ 8) : Wp mX11_feed (d + 1) 52 L (.int x0 :: .ref r :: S) M N P Q = Wp mX8_put d 0 [.ref r, .int x0] [] M N P (fun v M' N' P' => Wp mX11_feed (d + 1) 55 L (v.toList ++ S) M' N' P' Q) := wp_callV (As := [.int x0]) rfl dX11_feed_52 rfl rfl (Or.inl ⟨_, _, _, hs, rfl⟩) rfl ⟨rfl, Nat.le_of_ble_eq_true rfl, Nat.le_of_ble_eq_true rfl⟩ rfl hS
theorem sX11_feed_55 : Wp mX11_feed d 55 (.ref r :: L) S M N P Q = Wp mX11_feed d 56 (.ref r :: L) (.ref r :: S) M N P Q := wp_aload_n rfl dX11_feed_55 rfl
theorem sX11_feed_56 (hs : shk r = (11, 0)) : Wp mX11_feed d 56 L (.ref r :: S) M N P Q = Wp mX11_feed d 59 L (.ref (P r 7) :: S) M N P Q := wp_getfield rfl dX11_feed_56 rfl rfl hs rfl
theorem sX11_feed_59 (hs : shk r = (8, 0)) : Wp mX11_feed d 59 L (.ref r :: S) M N P Q = Wp mX11_feed d 62 L (.int (M r 1) :: S) M N P Q := wp_getfield rfl dX11_feed_59 rfl rfl hs rfl
theorem sX11_feed_62 : Wp mX11_feed d 62 L [.int x] M N P Q = Q (some (.int x)) M N P := wp_iret rfl dX11_feed_62 rfl rfl
theorem sX11_end_0 : Wp mX11_end d 0 (.ref r :: L) S M N P Q = Wp mX11_end d 1 (.ref r :: L) (.ref r :: S) M N P Q := wp_aload_n rfl dX11_end_0 rfl
theorem sX11_end_1 (hs : shk r = (11, 0)) : Wp mX11_end d 1 L (.ref r :: S) M N P Q = Wp mX11_end d 4 L (.ref (P r 7) :: S) M N P Q := wp_getfield rfl dX11_end_1 rfl rfl hs rfl
theorem sX11_end_4 : Wp mX11_end d 4 (a0 :: .int x :: L) S M N P Q = Wp mX11_end d 5 (a0 :: .int x :: L) (.int x :: S) M N P Q := wp_iload_n rfl dX11_end_4 rfl
theorem sX11_end_5 {x0 : Int32} (hs : shk r = (8, 0)) (hS : stk S ≤ 8) : Wp mX11_end (d + 1) 5 L (.int x0 :: .ref r :: S) M N P Q = Wp mX8_cut d 0 [.ref r, .int x0] [] M N P (fun v M' N' P' => Wp mX11_end (d + 1) 8 L (v.toList ++ S) M' N' P' Q) := wp_callV (As := [.int x0]) rfl dX11_end_5 rfl rfl (Or.inl ⟨_, _, _, hs, rfl⟩) rfl ⟨rfl, Nat.le_of_ble_eq_true rfl, Nat.le_of_ble_eq_true rfl⟩ rfl hS
theorem sX11_end_8 : Wp mX11_end d 8 L (.int x :: S) M N P Q = (if x = 0 then Wp mX11_end d 15 L S M N P Q else Wp mX11_end d 11 L S M N P Q) := wp_if_eq rfl dX11_end_8 rfl
theorem sX11_end_11 : Wp mX11_end d 11 (a0 :: .int x :: L) S M N P Q = Wp mX11_end d 12 (a0 :: .int x :: L) (.int x :: S) M N P Q := wp_iload_n rfl dX11_end_11 rfl
theorem sX11_end_12 : Wp mX11_end d 12 L S M N P Q = Wp mX11_end d 16 L S M N P Q := wp_goto rfl dX11_end_12 rfl
theorem sX11_end_15 : Wp mX11_end d 15 L S M N P Q = Wp mX11_end d 16 L (.int (-1) :: S) M N P Q := wp_iconst rfl dX11_end_15 rfl
theorem sX11_end_16 : Wp mX11_end d 16 L [.int x] M N P Q = Q (some (.int x)) M N P := wp_iret rfl dX11_end_16 rfl rfl
theorem sX11_law_0 : Wp mX11_law d 0 (.ref r :: L) S M N P Q = Wp mX11_law d 1 (.ref r :: L) (.ref r :: S) M N P Q := wp_aload_n rfl dX11_law_0 rfl
theorem sX11_law_1 (hs : shk r = (11, 0)) : Wp mX11_law d 1 L (.ref r :: S) M N P Q = Wp mX11_law d 4 L (.ref (P r 8) :: S) M N P Q := wp_getfield rfl dX11_law_1 rfl rfl hs rfl
theorem sX11_law_4 : Wp mX11_law d 4 (.ref r :: L) S M N P Q = Wp mX11_law d 5 (.ref r :: L) (.ref r :: S) M N P Q := wp_aload_n rfl dX11_law_4 rfl
theorem sX11_law_5 (hs : shk r = (11, 0)) : Wp mX11_law d 5 L (.ref r :: S) M N P Q = Wp mX11_law d 8 L (.ref (P r 7) :: S) M N P Q := wp_getfield rfl dX11_law_5 rfl rfl hs rfl
theorem sX11_law_8 (hs : shk r = (8, 0)) : Wp mX11_law d 8 L (.ref r :: S) M N P Q = Wp mX11_law d 11 L (.ref (P r 0) :: S) M N P Q := wp_getfield rfl dX11_law_8 rfl rfl hs rfl
theorem sX11_law_11 : Wp mX11_law d 11 (.ref r :: L) S M N P Q = Wp mX11_law d 12 (.ref r :: L) (.ref r :: S) M N P Q := wp_aload_n rfl dX11_law_11 rfl
theorem sX11_law_12 (hs : shk r = (11, 0)) : Wp mX11_law d 12 L (.ref r :: S) M N P Q = Wp mX11_law d 15 L (.ref (P r 7) :: S) M N P Q := wp_getfield rfl dX11_law_12 rfl rfl hs rfl
theorem sX11_law_15 (hs : shk r = (8, 0)) : Wp mX11_law d 15 L (.ref r :: S) M N P Q = Wp mX11_law d 18 L (.int (M r 1) :: S) M N P Q := wp_getfield rfl dX11_law_15 rfl rfl hs rfl
theorem sX11_law_18 {r0 : Nat} {x1 : Int32} (hs : shk r = (9, 0)) (hS : stk S ≤ 8) : Wp mX11_law (d + 1) 18 L (.int x1 :: .ref r0 :: .ref r :: S) M N P Q = Wp mX9_scan d 0 [.ref r, .ref r0, .int x1, .float 0, .float 0, .float 0] [] M N P (fun v M' N' P' => Wp mX11_law (d + 1) 21 L (v.toList ++ S) M' N' P' Q) := wp_callV (As := [.ref r0, .int x1]) rfl dX11_law_18 rfl rfl (Or.inl ⟨_, _, _, hs, rfl⟩) rfl ⟨rfl, Nat.le_of_ble_eq_true rfl, Nat.le_of_ble_eq_true rfl⟩ rfl hS
theorem sX11_law_21 : Wp mX11_law d 21 (.ref r :: L) S M N P Q = Wp mX11_law d 22 (.ref r :: L) (.ref r :: S) M N P Q := wp_aload_n rfl dX11_law_21 rfl
theorem sX11_law_22 (hs : shk r = (11, 0)) : Wp mX11_law d 22 L (.ref r :: S) M N P Q = Wp mX11_law d 25 L (.ref (P r 7) :: S) M N P Q := wp_getfield rfl dX11_law_22 rfl rfl hs rfl
theorem sX11_law_25 : Wp mX11_law d 25 L S M N P Q = Wp mX11_law d 26 L (.int 0 :: S) M N P Q := wp_iconst rfl dX11_law_25 rfl
theorem sX11_law_26 {x0 : Int32} (hs : shk r = (8, 0)) (hS : stk S ≤ 8) : Wp mX11_law (d + 1) 26 L (.int x0 :: .ref r :: S) M N P Q = Wp mX8_cut d 0 [.ref r, .int x0] [] M N P (fun v M' N' P' => Wp mX11_law (d + 1) 29 L (v.toList ++ S) M' N' P' Q) := wp_callV (As := [.int x0]) rfl dX11_law_26 rfl rfl (Or.inl ⟨_, _, _, hs, rfl⟩) rfl ⟨rfl, Nat.le_of_ble_eq_true rfl, Nat.le_of_ble_eq_true rfl⟩ rfl hS
theorem sX11_law_29 (hv : a0.category = 1) : Wp mX11_law d 29 L (a0 :: S) M N P Q = Wp mX11_law d 30 L S M N P Q := wp_pop rfl dX11_law_29 hv
theorem sX11_law_30 : Wp mX11_law d 30 (.ref r :: L) S M N P Q = Wp mX11_law d 31 (.ref r :: L) (.ref r :: S) M N P Q := wp_aload_n rfl dX11_law_30 rfl
theorem sX11_law_31 (hs : shk r = (11, 0)) : Wp mX11_law d 31 L (.ref r :: S) M N P Q = Wp mX11_law d 34 L (.ref (P r 9) :: S) M N P Q := wp_getfield rfl dX11_law_31 rfl rfl hs rfl
theorem sX11_law_34 (hs : shk r = (4, 0)) (hS : stk S ≤ 8) : Wp mX11_law (d + 1) 34 L (.ref r :: S) M N P Q = Wp mX4_parse d 0 [.ref r, .float 0] [] M N P (fun v M' N' P' => Wp mX11_law (d + 1) 37 L (v.toList ++ S) M' N' P' Q) := wp_callV (As := []) rfl dX11_law_34 rfl rfl (Or.inl ⟨_, _, _, hs, rfl⟩) rfl ⟨rfl, Nat.le_of_ble_eq_true rfl, Nat.le_of_ble_eq_true rfl⟩ rfl hS
theorem sX11_law_37 : Wp mX11_law d 37 L (.int x :: S) M N P Q = (if x = 0 then Wp mX11_law d 40 L S M N P Q else Wp mX11_law d 42 L S M N P Q) := wp_if_ne rfl dX11_law_37 rfl
theorem sX11_law_40 : Wp mX11_law d 40 L S M N P Q = Wp mX11_law d 41 L (.int (-1) :: S) M N P Q := wp_iconst rfl dX11_law_40 rfl
theorem sX11_law_41 : Wp mX11_law d 41 L [.int x] M N P Q = Q (some (.int x)) M N P := wp_iret rfl dX11_law_41 rfl rfl
theorem sX11_law_42 : Wp mX11_law d 42 (.ref r :: L) S M N P Q = Wp mX11_law d 43 (.ref r :: L) (.ref r :: S) M N P Q := wp_aload_n rfl dX11_law_42 rfl
theorem sX11_law_43 (hs : shk r = (11, 0)) : Wp mX11_law d 43 L (.ref r :: S) M N P Q = Wp mX11_law d 46 L (.ref (P r 11) :: S) M N P Q := wp_getfield rfl dX11_law_43 rfl rfl hs rfl
theorem sX11_law_46 (hn : nl a0 = true) : Wp mX11_law d 46 (a0 :: a1 :: L) (.ref r :: S) M N P Q = Wp mX11_law d 47 (a0 :: .ref r :: L) S M N P Q := wp_astore_n rfl dX11_law_46 (lenGt1 ..) (okst1 hn) rfl
theorem sX11_law_47 : Wp mX11_law d 47 (.ref r :: L) S M N P Q = Wp mX11_law d 48 (.ref r :: L) (.ref r :: S) M N P Q := wp_aload_n rfl dX11_law_47 rfl
theorem sX11_law_48 : Wp mX11_law d 48 (.ref r :: L) S M N P Q = Wp mX11_law d 49 (.ref r :: L) (.ref r :: S) M N P Q := wp_aload_n rfl dX11_law_48 rfl
theorem sX11_law_49 (hs : shk r = (11, 0)) : Wp mX11_law d 49 L (.ref r :: S) M N P Q = Wp mX11_law d 52 L (.ref (P r 9) :: S) M N P Q := wp_getfield rfl dX11_law_49 rfl rfl hs rfl
theorem sX11_law_52 (hs : shk r = (4, 0)) : Wp mX11_law d 52 L (.ref r :: S) M N P Q = Wp mX11_law d 55 L (.ref (P r 1) :: S) M N P Q := wp_getfield rfl dX11_law_52 rfl rfl hs rfl
theorem sX11_law_55 (hs : shk r = (11, 0)) : Wp mX11_law d 55 L (.ref r2 :: .ref r :: S) M N P Q = Wp mX11_law d 58 L S M N (up2 P r 11 r2) Q := wp_putR rfl dX11_law_55 rfl rfl hs rfl ⟨_, _, _, _, rfl, by decide, rfl, tyX11_ok 11 (by decide), rfl, rfl⟩
theorem sX11_law_58 : Wp mX11_law d 58 (.ref r :: L) S M N P Q = Wp mX11_law d 59 (.ref r :: L) (.ref r :: S) M N P Q := wp_aload_n rfl dX11_law_58 rfl
theorem sX11_law_59 (hs : shk r = (11, 0)) : Wp mX11_law d 59 L (.ref r :: S) M N P Q = Wp mX11_law d 62 L (.ref (P r 9) :: S) M N P Q := wp_getfield rfl dX11_law_59 rfl rfl hs rfl
theorem sX11_law_62 : Wp mX11_law d 62 (a0 :: .ref r :: L) S M N P Q = Wp mX11_law d 63 (a0 :: .ref r :: L) (.ref r :: S) M N P Q := wp_aload_n rfl dX11_law_62 rfl
theorem sX11_law_63 (hs : shk r = (4, 0)) : Wp mX11_law d 63 L (.ref r2 :: .ref r :: S) M N P Q = Wp mX11_law d 66 L S M N (up2 P r 1 r2) Q := wp_putR rfl dX11_law_63 rfl rfl hs rfl ⟨_, _, _, _, rfl, by decide, rfl, tyX4_ok 1 (by decide), rfl, rfl⟩
theorem sX11_law_66 : Wp mX11_law d 66 (.ref r :: L) S M N P Q = Wp mX11_law d 67 (.ref r :: L) (.ref r :: S) M N P Q := wp_aload_n rfl dX11_law_66 rfl
theorem sX11_law_67 (hs : shk r = (11, 0)) : Wp mX11_law d 67 L (.ref r :: S) M N P Q = Wp mX11_law d 70 L (.ref (P r 11) :: S) M N P Q := wp_getfield rfl dX11_law_67 rfl rfl hs rfl
theorem sX11_law_70 (hs : shk r = (2, 0)) : Wp mX11_law d 70 L (.ref r :: S) M N P Q = Wp mX11_law d 73 L (.int (M r 6) :: S) M N P Q := wp_getfield rfl dX11_law_70 rfl rfl hs rfl
theorem sX11_law_73 : Wp mX11_law d 73 L [.int x] M N P Q = Q (some (.int x)) M N P := wp_iret rfl dX11_law_73 rfl rfl
theorem sX11_fault_0 : Wp mX11_fault d 0 (a0 :: .int x :: L) S M N P Q = Wp mX11_fault d 1 (a0 :: .int x :: L) (.int x :: S) M N P Q := wp_iload_n rfl dX11_fault_0 rfl
theorem sX11_fault_1 : Wp mX11_fault d 1 L (.int x :: S) M N P Q = (if x = 0 then Wp mX11_fault d 28 L S M N P Q else if x = 1 then Wp mX11_fault d 36 L S M N P Q else Wp mX11_fault d 44 L S M N P Q) := by
  by_cases h0 : x = 0
  · rw [if_pos h0]; subst h0; exact wp_look rfl dX11_fault_1 (by decide) (by decide)
  by_cases h1 : x = 1
  · rw [if_neg h0, if_pos h1]; subst h1; exact wp_look rfl dX11_fault_1 (by decide) (by decide)
  rw [if_neg h0, if_neg h1]
  refine wp_look rfl dX11_fault_1 (by decide) ?_
  rw [show (#[(0, 27), (1, 35)] : Array (Int × Int)).toList = [(0, 27), (1, 35)] from rfl, lv_osw h0 (show (0 : Int32).toInt = 0 by decide), lv_osw h1 (show (1 : Int32).toInt = 1 by decide)]
  rfl
theorem sX11_fault_28 : Wp mX11_fault d 28 (.ref r :: L) S M N P Q = Wp mX11_fault d 29 (.ref r :: L) (.ref r :: S) M N P Q := wp_aload_n rfl dX11_fault_28 rfl
theorem sX11_fault_29 (hs : shk r = (11, 0)) : Wp mX11_fault d 29 L (.ref r :: S) M N P Q = Wp mX11_fault d 32 L (.ref (P r 9) :: S) M N P Q := wp_getfield rfl dX11_fault_29 rfl rfl hs rfl
theorem sX11_fault_32 (hs : shk r = (4, 0)) : Wp mX11_fault d 32 L (.ref r :: S) M N P Q = Wp mX11_fault d 35 L (.int (M r 2) :: S) M N P Q := wp_getfield rfl dX11_fault_32 rfl rfl hs rfl
theorem sX11_fault_35 : Wp mX11_fault d 35 L [.int x] M N P Q = Q (some (.int x)) M N P := wp_iret rfl dX11_fault_35 rfl rfl
theorem sX11_fault_36 : Wp mX11_fault d 36 (.ref r :: L) S M N P Q = Wp mX11_fault d 37 (.ref r :: L) (.ref r :: S) M N P Q := wp_aload_n rfl dX11_fault_36 rfl
theorem sX11_fault_37 (hs : shk r = (11, 0)) : Wp mX11_fault d 37 L (.ref r :: S) M N P Q = Wp mX11_fault d 40 L (.ref (P r 9) :: S) M N P Q := wp_getfield rfl dX11_fault_37 rfl rfl hs rfl
theorem sX11_fault_40 (hs : shk r = (4, 0)) : Wp mX11_fault d 40 L (.ref r :: S) M N P Q = Wp mX11_fault d 43 L (.int (M r 3) :: S) M N P Q := wp_getfield rfl dX11_fault_40 rfl rfl hs rfl
theorem sX11_fault_43 : Wp mX11_fault d 43 L [.int x] M N P Q = Q (some (.int x)) M N P := wp_iret rfl dX11_fault_43 rfl rfl
theorem sX11_fault_44 : Wp mX11_fault d 44 L S M N P Q = Wp mX11_fault d 45 L (.int (-1) :: S) M N P Q := wp_iconst rfl dX11_fault_44 rfl
theorem sX11_fault_45 : Wp mX11_fault d 45 L [.int x] M N P Q = Q (some (.int x)) M N P := wp_iret rfl dX11_fault_45 rfl rfl
theorem sX11_claim_0 : Wp mX11_claim d 0 (.ref r :: L) S M N P Q = Wp mX11_claim d 1 (.ref r :: L) (.ref r :: S) M N P Q := wp_aload_n rfl dX11_claim_0 rfl
theorem sX11_claim_1 (hs : shk r = (11, 0)) : Wp mX11_claim d 1 L (.ref r :: S) M N P Q = Wp mX11_claim d 4 L (.ref (P r 4) :: S) M N P Q := wp_getfield rfl dX11_claim_1 rfl rfl hs rfl
theorem sX11_claim_4 : Wp mX11_claim d 4 (a0 :: .int x :: L) S M N P Q = Wp mX11_claim d 5 (a0 :: .int x :: L) (.int x :: S) M N P Q := wp_iload_n rfl dX11_claim_4 rfl
theorem sX11_claim_5 {x0 : Int32} (hs : shk r = (3, 0)) (hS : stk S ≤ 8) : Wp mX11_claim (d + 1) 5 L (.int x0 :: .ref r :: S) M N P Q = Wp mX3_has d 0 [.ref r, .int x0] [] M N P (fun v M' N' P' => Wp mX11_claim (d + 1) 8 L (v.toList ++ S) M' N' P' Q) := wp_callV (As := [.int x0]) rfl dX11_claim_5 rfl rfl (Or.inl ⟨_, _, _, hs, rfl⟩) rfl ⟨rfl, Nat.le_of_ble_eq_true rfl, Nat.le_of_ble_eq_true rfl⟩ rfl hS
theorem sX11_claim_8 : Wp mX11_claim d 8 L (.int x :: S) M N P Q = (if x = 0 then Wp mX11_claim d 22 L S M N P Q else Wp mX11_claim d 11 L S M N P Q) := wp_if_eq rfl dX11_claim_8 rfl
theorem sX11_claim_11 : Wp mX11_claim d 11 (.ref r :: L) S M N P Q = Wp mX11_claim d 12 (.ref r :: L) (.ref r :: S) M N P Q := wp_aload_n rfl dX11_claim_11 rfl
theorem sX11_claim_12 (hs : shk r = (11, 0)) : Wp mX11_claim d 12 L (.ref r :: S) M N P Q = Wp mX11_claim d 15 L (.ref (P r 6) :: S) M N P Q := wp_getfield rfl dX11_claim_12 rfl rfl hs rfl
theorem sX11_claim_15 : Wp mX11_claim d 15 (a0 :: .int x :: L) S M N P Q = Wp mX11_claim d 16 (a0 :: .int x :: L) (.int x :: S) M N P Q := wp_iload_n rfl dX11_claim_15 rfl
theorem sX11_claim_16 {x0 : Int32} (hs : shk r = (0, 0)) (hS : stk S ≤ 8) : Wp mX11_claim (d + 1) 16 L (.int x0 :: .ref r :: S) M N P Q = Wp mX0_add d 0 [.ref r, .int x0] [] M N P (fun v M' N' P' => Wp mX11_claim (d + 1) 19 L (v.toList ++ S) M' N' P' Q) := wp_callV (As := [.int x0]) rfl dX11_claim_16 rfl rfl (Or.inl ⟨_, _, _, hs, rfl⟩) rfl ⟨rfl, Nat.le_of_ble_eq_true rfl, Nat.le_of_ble_eq_true rfl⟩ rfl hS
theorem sX11_claim_19 : Wp mX11_claim d 19 L S M N P Q = Wp mX11_claim d 23 L S M N P Q := wp_goto rfl dX11_claim_19 rfl
theorem sX11_claim_22 : Wp mX11_claim d 22 L S M N P Q = Wp mX11_claim d 23 L (.int (-1) :: S) M N P Q := wp_iconst rfl dX11_claim_22 rfl
theorem sX11_claim_23 : Wp mX11_claim d 23 L [.int x] M N P Q = Q (some (.int x)) M N P := wp_iret rfl dX11_claim_23 rfl rfl
theorem sX11_ruling_0 : Wp mX11_ruling d 0 (.ref r :: L) S M N P Q = Wp mX11_ruling d 1 (.ref r :: L) (.ref r :: S) M N P Q := wp_aload_n rfl dX11_ruling_0 rfl
theorem sX11_ruling_1 : Wp mX11_ruling d 1 (a0 :: .int x :: L) S M N P Q = Wp mX11_ruling d 2 (a0 :: .int x :: L) (.int x :: S) M N P Q := wp_iload_n rfl dX11_ruling_1 rfl
theorem sX11_ruling_2 : Wp mX11_ruling d 2 (a0 :: a1 :: .int x :: L) S M N P Q = Wp mX11_ruling d 3 (a0 :: a1 :: .int x :: L) (.int x :: S) M N P Q := wp_iload_n rfl dX11_ruling_2 rfl
theorem sX11_ruling_3 {x0 : Int32} {x1 : Int32} (hs : shk r = (11, 0)) (hS : stk S ≤ 8) : Wp mX11_ruling (d + 1) 3 L (.int x1 :: .int x0 :: .ref r :: S) M N P Q = Wp mX11_weigh d 0 [.ref r, .int x0, .int x1, .float 0, .float 0, .float 0, .float 0] [] M N P (fun v M' N' P' => Wp mX11_ruling (d + 1) 6 L (v.toList ++ S) M' N' P' Q) := wp_callV (As := [.int x0, .int x1]) rfl dX11_ruling_3 rfl rfl (Or.inl ⟨_, _, _, hs, rfl⟩) rfl ⟨rfl, Nat.le_of_ble_eq_true rfl, Nat.le_of_ble_eq_true rfl⟩ rfl hS
theorem sX11_ruling_6 : Wp mX11_ruling d 6 L (.int x :: S) M N P Q = (if x = 0 then Wp mX11_ruling d 9 L S M N P Q else Wp mX11_ruling d 11 L S M N P Q) := wp_if_ne rfl dX11_ruling_6 rfl
theorem sX11_ruling_9 : Wp mX11_ruling d 9 L S M N P Q = Wp mX11_ruling d 10 L (.int (-1) :: S) M N P Q := wp_iconst rfl dX11_ruling_9 rfl
theorem sX11_ruling_10 : Wp mX11_ruling d 10 L [.int x] M N P Q = Q (some (.int x)) M N P := wp_iret rfl dX11_ruling_10 rfl rfl
theorem sX11_ruling_11 : Wp mX11_ruling d 11 (.ref r :: L) S M N P Q = Wp mX11_ruling d 12 (.ref r :: L) (.ref r :: S) M N P Q := wp_aload_n rfl dX11_ruling_11 rfl
theorem sX11_ruling_12 (hs : shk r = (11, 0)) : Wp mX11_ruling d 12 L (.ref r :: S) M N P Q = Wp mX11_ruling d 15 L (.ref (P r 11) :: S) M N P Q := wp_getfield rfl dX11_ruling_12 rfl rfl hs rfl
theorem sX11_ruling_15 : Wp mX11_ruling d 15 (.ref r :: L) S M N P Q = Wp mX11_ruling d 16 (.ref r :: L) (.ref r :: S) M N P Q := wp_aload_n rfl dX11_ruling_15 rfl
theorem sX11_ruling_16 (hs : shk r = (11, 0)) : Wp mX11_ruling d 16 L (.ref r :: S) M N P Q = Wp mX11_ruling d 19 L (.ref (P r 6) :: S) M N P Q := wp_getfield rfl dX11_ruling_16 rfl rfl hs rfl
theorem sX11_ruling_19 (hs : shk r = (0, 0)) : Wp mX11_ruling d 19 L (.ref r :: S) M N P Q = Wp mX11_ruling d 22 L (.ref (P r 1) :: S) M N P Q := wp_getfield rfl dX11_ruling_19 rfl rfl hs rfl
theorem sX11_ruling_22 {r0 : Nat} (hs : shk r = (2, 0)) (hS : stk S ≤ 8) : Wp mX11_ruling (d + 1) 22 L (.ref r0 :: .ref r :: S) M N P Q = Wp mX2_firstLineThatHolds d 0 [.ref r, .ref r0, .float 0, .float 0] [] M N P (fun v M' N' P' => Wp mX11_ruling (d + 1) 25 L (v.toList ++ S) M' N' P' Q) := wp_callV (As := [.ref r0]) rfl dX11_ruling_22 rfl rfl (Or.inl ⟨_, _, _, hs, rfl⟩) rfl ⟨rfl, Nat.le_of_ble_eq_true rfl, Nat.le_of_ble_eq_true rfl⟩ rfl hS
theorem sX11_ruling_25 (hn : nl a2 = true) : Wp mX11_ruling d 25 (a0 :: a1 :: a2 :: a3 :: L) (.int x :: S) M N P Q = Wp mX11_ruling d 26 (a0 :: a1 :: a2 :: .int x :: L) S M N P Q := wp_istore_n rfl dX11_ruling_25 (lenGt3 ..) (okst3 hn) rfl
theorem sX11_ruling_26 : Wp mX11_ruling d 26 (a0 :: a1 :: a2 :: .int x :: L) S M N P Q = Wp mX11_ruling d 27 (a0 :: a1 :: a2 :: .int x :: L) (.int x :: S) M N P Q := wp_iload_n rfl dX11_ruling_26 rfl
theorem sX11_ruling_27 : Wp mX11_ruling d 27 L S M N P Q = Wp mX11_ruling d 28 L (.int (-1) :: S) M N P Q := wp_iconst rfl dX11_ruling_27 rfl
theorem sX11_ruling_28 : Wp mX11_ruling d 28 L (.int z :: .int x :: S) M N P Q = (if x = z then Wp mX11_ruling d 31 L S M N P Q else Wp mX11_ruling d 35 L S M N P Q) := wp_icmp_ne rfl dX11_ruling_28 rfl
theorem sX11_ruling_31 : Wp mX11_ruling d 31 L S M N P Q = Wp mX11_ruling d 32 L (.int 4 :: S) M N P Q := wp_iconst rfl dX11_ruling_31 rfl
theorem sX11_ruling_32 : Wp mX11_ruling d 32 L S M N P Q = Wp mX11_ruling d 44 L S M N P Q := wp_goto rfl dX11_ruling_32 rfl
theorem sX11_ruling_35 : Wp mX11_ruling d 35 (.ref r :: L) S M N P Q = Wp mX11_ruling d 36 (.ref r :: L) (.ref r :: S) M N P Q := wp_aload_n rfl dX11_ruling_35 rfl
theorem sX11_ruling_36 (hs : shk r = (11, 0)) : Wp mX11_ruling d 36 L (.ref r :: S) M N P Q = Wp mX11_ruling d 39 L (.ref (P r 11) :: S) M N P Q := wp_getfield rfl dX11_ruling_36 rfl rfl hs rfl
theorem sX11_ruling_39 (hs : shk r = (2, 0)) : Wp mX11_ruling d 39 L (.ref r :: S) M N P Q = Wp mX11_ruling d 42 L (.ref (P r 2) :: S) M N P Q := wp_getfield rfl dX11_ruling_39 rfl rfl hs rfl
theorem sX11_ruling_42 : Wp mX11_ruling d 42 (a0 :: a1 :: a2 :: .int x :: L) S M N P Q = Wp mX11_ruling d 43 (a0 :: a1 :: a2 :: .int x :: L) (.int x :: S) M N P Q := wp_iload_n rfl dX11_ruling_42 rfl
theorem sX11_ruling_43 (hs : (shk r).1 = 100) : Wp mX11_ruling d 43 L (.int j :: .ref r :: S) M N P Q = (vp_in j (shk r).2 ∧ Wp mX11_ruling d 44 L (.int (M r j.toNatClampNeg) :: S) M N P Q) := wp_iaload rfl dX11_ruling_43 (kd hs)
theorem sX11_ruling_44 : Wp mX11_ruling d 44 L [.int x] M N P Q = Q (some (.int x)) M N P := wp_iret rfl dX11_ruling_44 rfl rfl
theorem sX11_sum_0 : Wp mX11_sum d 0 (.ref r :: L) S M N P Q = Wp mX11_sum d 1 (.ref r :: L) (.ref r :: S) M N P Q := wp_aload_n rfl dX11_sum_0 rfl
theorem sX11_sum_1 : Wp mX11_sum d 1 (a0 :: .int x :: L) S M N P Q = Wp mX11_sum d 2 (a0 :: .int x :: L) (.int x :: S) M N P Q := wp_iload_n rfl dX11_sum_1 rfl
theorem sX11_sum_2 : Wp mX11_sum d 2 (a0 :: a1 :: .int x :: L) S M N P Q = Wp mX11_sum d 3 (a0 :: a1 :: .int x :: L) (.int x :: S) M N P Q := wp_iload_n rfl dX11_sum_2 rfl
theorem sX11_sum_3 {x0 : Int32} {x1 : Int32} (hs : shk r = (11, 0)) (hS : stk S ≤ 8) : Wp mX11_sum (d + 1) 3 L (.int x1 :: .int x0 :: .ref r :: S) M N P Q = Wp mX11_weigh d 0 [.ref r, .int x0, .int x1, .float 0, .float 0, .float 0, .float 0] [] M N P (fun v M' N' P' => Wp mX11_sum (d + 1) 6 L (v.toList ++ S) M' N' P' Q) := wp_callV (As := [.int x0, .int x1]) rfl dX11_sum_3 rfl rfl (Or.inl ⟨_, _, _, hs, rfl⟩) rfl ⟨rfl, Nat.le_of_ble_eq_true rfl, Nat.le_of_ble_eq_true rfl⟩ rfl hS
theorem sX11_sum_6 : Wp mX11_sum d 6 L (.int x :: S) M N P Q = (if x = 0 then Wp mX11_sum d 9 L S M N P Q else Wp mX11_sum d 11 L S M N P Q) := wp_if_ne rfl dX11_sum_6 rfl
theorem sX11_sum_9 : Wp mX11_sum d 9 L S M N P Q = Wp mX11_sum d 10 L (.int (-1) :: S) M N P Q := wp_iconst rfl dX11_sum_9 rfl
theorem sX11_sum_10 : Wp mX11_sum d 10 L [.int x] M N P Q = Q (some (.int x)) M N P := wp_iret rfl dX11_sum_10 rfl rfl
theorem sX11_sum_11 : Wp mX11_sum d 11 (.ref r :: L) S M N P Q = Wp mX11_sum d 12 (.ref r :: L) (.ref r :: S) M N P Q := wp_aload_n rfl dX11_sum_11 rfl
theorem sX11_sum_12 (hs : shk r = (11, 0)) : Wp mX11_sum d 12 L (.ref r :: S) M N P Q = Wp mX11_sum d 15 L (.ref (P r 11) :: S) M N P Q := wp_getfield rfl dX11_sum_12 rfl rfl hs rfl
theorem sX11_sum_15 : Wp mX11_sum d 15 (.ref r :: L) S M N P Q = Wp mX11_sum d 16 (.ref r :: L) (.ref r :: S) M N P Q := wp_aload_n rfl dX11_sum_15 rfl
theorem sX11_sum_16 (hs : shk r = (11, 0)) : Wp mX11_sum d 16 L (.ref r :: S) M N P Q = Wp mX11_sum d 19 L (.ref (P r 6) :: S) M N P Q := wp_getfield rfl dX11_sum_16 rfl rfl hs rfl
theorem sX11_sum_19 (hs : shk r = (0, 0)) : Wp mX11_sum d 19 L (.ref r :: S) M N P Q = Wp mX11_sum d 22 L (.ref (P r 1) :: S) M N P Q := wp_getfield rfl dX11_sum_19 rfl rfl hs rfl
theorem sX11_sum_22 {r0 : Nat} (hs : shk r = (2, 0)) (hS : stk S ≤ 8) : Wp mX11_sum (d + 1) 22 L (.ref r0 :: .ref r :: S) M N P Q = Wp mX2_firstLineThatHolds d 0 [.ref r, .ref r0, .float 0, .float 0] [] M N P (fun v M' N' P' => Wp mX11_sum (d + 1) 25 L (v.toList ++ S) M' N' P' Q) := wp_callV (As := [.ref r0]) rfl dX11_sum_22 rfl rfl (Or.inl ⟨_, _, _, hs, rfl⟩) rfl ⟨rfl, Nat.le_of_ble_eq_true rfl, Nat.le_of_ble_eq_true rfl⟩ rfl hS
theorem sX11_sum_25 (hn : nl a2 = true) : Wp mX11_sum d 25 (a0 :: a1 :: a2 :: a3 :: L) (.int x :: S) M N P Q = Wp mX11_sum d 26 (a0 :: a1 :: a2 :: .int x :: L) S M N P Q := wp_istore_n rfl dX11_sum_25 (lenGt3 ..) (okst3 hn) rfl
theorem sX11_sum_26 : Wp mX11_sum d 26 (a0 :: a1 :: a2 :: .int x :: L) S M N P Q = Wp mX11_sum d 27 (a0 :: a1 :: a2 :: .int x :: L) (.int x :: S) M N P Q := wp_iload_n rfl dX11_sum_26 rfl
theorem sX11_sum_27 : Wp mX11_sum d 27 L S M N P Q = Wp mX11_sum d 28 L (.int (-1) :: S) M N P Q := wp_iconst rfl dX11_sum_27 rfl
theorem sX11_sum_28 : Wp mX11_sum d 28 L (.int z :: .int x :: S) M N P Q = (if x = z then Wp mX11_sum d 31 L S M N P Q else Wp mX11_sum d 35 L S M N P Q) := wp_icmp_ne rfl dX11_sum_28 rfl
theorem sX11_sum_31 : Wp mX11_sum d 31 L S M N P Q = Wp mX11_sum d 32 L (.int 0 :: S) M N P Q := wp_iconst rfl dX11_sum_31 rfl
theorem sX11_sum_32 : Wp mX11_sum d 32 L S M N P Q = Wp mX11_sum d 57 L S M N P Q := wp_goto rfl dX11_sum_32 rfl
theorem sX11_sum_35 : Wp mX11_sum d 35 (.ref r :: L) S M N P Q = Wp mX11_sum d 36 (.ref r :: L) (.ref r :: S) M N P Q := wp_aload_n rfl dX11_sum_35 rfl
theorem sX11_sum_36 (hs : shk r = (11, 0)) : Wp mX11_sum d 36 L (.ref r :: S) M N P Q = Wp mX11_sum d 39 L (.ref (P r 6) :: S) M N P Q := wp_getfield rfl dX11_sum_36 rfl rfl hs rfl
theorem sX11_sum_39 (hs : shk r = (0, 0)) : Wp mX11_sum d 39 L (.ref r :: S) M N P Q = Wp mX11_sum d 42 L (.ref (P r 1) :: S) M N P Q := wp_getfield rfl dX11_sum_39 rfl rfl hs rfl
theorem sX11_sum_42 : Wp mX11_sum d 42 L S M N P Q = Wp mX11_sum d 43 L (.int 3 :: S) M N P Q := wp_iconst rfl dX11_sum_42 rfl
theorem sX11_sum_43 (hs : (shk r).1 = 100) : Wp mX11_sum d 43 L (.int j :: .ref r :: S) M N P Q = (vp_in j (shk r).2 ∧ Wp mX11_sum d 44 L (.int (M r j.toNatClampNeg) :: S) M N P Q) := wp_iaload rfl dX11_sum_43 (kd hs)
theorem sX11_sum_44 : Wp mX11_sum d 44 (.ref r :: L) S M N P Q = Wp mX11_sum d 45 (.ref r :: L) (.ref r :: S) M N P Q := wp_aload_n rfl dX11_sum_44 rfl
theorem sX11_sum_45 (hs : shk r = (11, 0)) : Wp mX11_sum d 45 L (.ref r :: S) M N P Q = Wp mX11_sum d 48 L (.ref (P r 11) :: S) M N P Q := wp_getfield rfl dX11_sum_45 rfl rfl hs rfl
theorem sX11_sum_48 (hs : shk r = (2, 0)) : Wp mX11_sum d 48 L (.ref r :: S) M N P Q = Wp mX11_sum d 51 L (.ref (P r 3) :: S) M N P Q := wp_getfield rfl dX11_sum_48 rfl rfl hs rfl
theorem sX11_sum_51 : Wp mX11_sum d 51 (a0 :: a1 :: a2 :: .int x :: L) S M N P Q = Wp mX11_sum d 52 (a0 :: a1 :: a2 :: .int x :: L) (.int x :: S) M N P Q := wp_iload_n rfl dX11_sum_51 rfl
theorem sX11_sum_52 (hs : (shk r).1 = 100) : Wp mX11_sum d 52 L (.int j :: .ref r :: S) M N P Q = (vp_in j (shk r).2 ∧ Wp mX11_sum d 53 L (.int (M r j.toNatClampNeg) :: S) M N P Q) := wp_iaload rfl dX11_sum_52 (kd hs)
theorem sX11_sum_53 : Wp mX11_sum d 53 L (.int z :: .int x :: S) M N P Q = Wp mX11_sum d 54 L (.int (x * z) :: S) M N P Q := wp_imul rfl dX11_sum_53
theorem sX11_sum_54 : Wp mX11_sum d 54 L S M N P Q = Wp mX11_sum d 56 L (.int 100 :: S) M N P Q := wp_bipush rfl dX11_sum_54 rfl
theorem sX11_sum_56 : Wp mX11_sum d 56 L (.int z :: .int x :: S) M N P Q = (¬ z = 0 ∧ Wp mX11_sum d 57 L (.int (x / z) :: S) M N P Q) := wp_idiv rfl dX11_sum_56
theorem sX11_sum_57 : Wp mX11_sum d 57 L [.int x] M N P Q = Q (some (.int x)) M N P := wp_iret rfl dX11_sum_57 rfl rfl
theorem sX11_term_0 : Wp mX11_term d 0 (a0 :: a1 :: .int x :: L) S M N P Q = Wp mX11_term d 1 (a0 :: a1 :: .int x :: L) (.int x :: S) M N P Q := wp_iload_n rfl dX11_term_0 rfl
theorem sX11_term_1 : Wp mX11_term d 1 L (.int x :: S) M N P Q = (if x < 0 then Wp mX11_term d 19 L S M N P Q else Wp mX11_term d 4 L S M N P Q) := wp_if_lt rfl dX11_term_1 rfl
theorem sX11_term_4 : Wp mX11_term d 4 (a0 :: a1 :: .int x :: L) S M N P Q = Wp mX11_term d 5 (a0 :: a1 :: .int x :: L) (.int x :: S) M N P Q := wp_iload_n rfl dX11_term_4 rfl
theorem sX11_term_5 : Wp mX11_term d 5 L S M N P Q = Wp mX11_term d 7 L (.int 9 :: S) M N P Q := wp_bipush rfl dX11_term_5 rfl
theorem sX11_term_7 : Wp mX11_term d 7 L (.int z :: .int x :: S) M N P Q = (if z ≤ x then Wp mX11_term d 19 L S M N P Q else Wp mX11_term d 10 L S M N P Q) := wp_icmp_ge rfl dX11_term_7 rfl
theorem sX11_term_10 : Wp mX11_term d 10 (.ref r :: L) S M N P Q = Wp mX11_term d 11 (.ref r :: L) (.ref r :: S) M N P Q := wp_aload_n rfl dX11_term_10 rfl
theorem sX11_term_11 : Wp mX11_term d 11 (a0 :: .int x :: L) S M N P Q = Wp mX11_term d 12 (a0 :: .int x :: L) (.int x :: S) M N P Q := wp_iload_n rfl dX11_term_11 rfl
theorem sX11_term_12 : Wp mX11_term d 12 (a0 :: a1 :: a2 :: .int x :: L) S M N P Q = Wp mX11_term d 13 (a0 :: a1 :: a2 :: .int x :: L) (.int x :: S) M N P Q := wp_iload_n rfl dX11_term_12 rfl
theorem sX11_term_13 {x0 : Int32} {x1 : Int32} (hs : shk r = (11, 0)) (hS : stk S ≤ 8) : Wp mX11_term (d + 1) 13 L (.int x1 :: .int x0 :: .ref r :: S) M N P Q = Wp mX11_weigh d 0 [.ref r, .int x0, .int x1, .float 0, .float 0, .float 0, .float 0] [] M N P (fun v M' N' P' => Wp mX11_term (d + 1) 16 L (v.toList ++ S) M' N' P' Q) := wp_callV (As := [.int x0, .int x1]) rfl dX11_term_13 rfl rfl (Or.inl ⟨_, _, _, hs, rfl⟩) rfl ⟨rfl, Nat.le_of_ble_eq_true rfl, Nat.le_of_ble_eq_true rfl⟩ rfl hS
theorem sX11_term_16 : Wp mX11_term d 16 L (.int x :: S) M N P Q = (if x = 0 then Wp mX11_term d 19 L S M N P Q else Wp mX11_term d 21 L S M N P Q) := wp_if_ne rfl dX11_term_16 rfl
theorem sX11_term_19 : Wp mX11_term d 19 L S M N P Q = Wp mX11_term d 20 L (.int (-1) :: S) M N P Q := wp_iconst rfl dX11_term_19 rfl
theorem sX11_term_20 : Wp mX11_term d 20 L [.int x] M N P Q = Q (some (.int x)) M N P := wp_iret rfl dX11_term_20 rfl rfl
theorem sX11_term_21 : Wp mX11_term d 21 (.ref r :: L) S M N P Q = Wp mX11_term d 22 (.ref r :: L) (.ref r :: S) M N P Q := wp_aload_n rfl dX11_term_21 rfl
theorem sX11_term_22 (hs : shk r = (11, 0)) : Wp mX11_term d 22 L (.ref r :: S) M N P Q = Wp mX11_term d 25 L (.ref (P r 6) :: S) M N P Q := wp_getfield rfl dX11_term_22 rfl rfl hs rfl
theorem sX11_term_25 (hs : shk r = (0, 0)) : Wp mX11_term d 25 L (.ref r :: S) M N P Q = Wp mX11_term d 28 L (.ref (P r 1) :: S) M N P Q := wp_getfield rfl dX11_term_25 rfl rfl hs rfl
theorem sX11_term_28 : Wp mX11_term d 28 (a0 :: a1 :: .int x :: L) S M N P Q = Wp mX11_term d 29 (a0 :: a1 :: .int x :: L) (.int x :: S) M N P Q := wp_iload_n rfl dX11_term_28 rfl
theorem sX11_term_29 (hs : (shk r).1 = 100) : Wp mX11_term d 29 L (.int j :: .ref r :: S) M N P Q = (vp_in j (shk r).2 ∧ Wp mX11_term d 30 L (.int (M r j.toNatClampNeg) :: S) M N P Q) := wp_iaload rfl dX11_term_29 (kd hs)
theorem sX11_term_30 : Wp mX11_term d 30 L [.int x] M N P Q = Q (some (.int x)) M N P := wp_iret rfl dX11_term_30 rfl rfl
theorem sX11_share_0 : Wp mX11_share d 0 (.ref r :: L) S M N P Q = Wp mX11_share d 1 (.ref r :: L) (.ref r :: S) M N P Q := wp_aload_n rfl dX11_share_0 rfl
theorem sX11_share_1 (hs : shk r = (11, 0)) : Wp mX11_share d 1 L (.ref r :: S) M N P Q = Wp mX11_share d 4 L (.ref (P r 0) :: S) M N P Q := wp_getfield rfl dX11_share_1 rfl rfl hs rfl
theorem sX11_share_4 : Wp mX11_share d 4 (a0 :: .int x :: L) S M N P Q = Wp mX11_share d 5 (a0 :: .int x :: L) (.int x :: S) M N P Q := wp_iload_n rfl dX11_share_4 rfl
theorem sX11_share_5 {x0 : Int32} (hs : shk r = (5, 0)) (hS : stk S ≤ 8) : Wp mX11_share (d + 1) 5 L (.int x0 :: .ref r :: S) M N P Q = Wp mX5_has d 0 [.ref r, .int x0] [] M N P (fun v M' N' P' => Wp mX11_share (d + 1) 8 L (v.toList ++ S) M' N' P' Q) := wp_callV (As := [.int x0]) rfl dX11_share_5 rfl rfl (Or.inl ⟨_, _, _, hs, rfl⟩) rfl ⟨rfl, Nat.le_of_ble_eq_true rfl, Nat.le_of_ble_eq_true rfl⟩ rfl hS
theorem sX11_share_8 : Wp mX11_share d 8 L (.int x :: S) M N P Q = (if x = 0 then Wp mX11_share d 40 L S M N P Q else Wp mX11_share d 11 L S M N P Q) := wp_if_eq rfl dX11_share_8 rfl
theorem sX11_share_11 : Wp mX11_share d 11 (.ref r :: L) S M N P Q = Wp mX11_share d 12 (.ref r :: L) (.ref r :: S) M N P Q := wp_aload_n rfl dX11_share_11 rfl
theorem sX11_share_12 (hs : shk r = (11, 0)) : Wp mX11_share d 12 L (.ref r :: S) M N P Q = Wp mX11_share d 15 L (.ref (P r 0) :: S) M N P Q := wp_getfield rfl dX11_share_12 rfl rfl hs rfl
theorem sX11_share_15 : Wp mX11_share d 15 (a0 :: a1 :: .int x :: L) S M N P Q = Wp mX11_share d 16 (a0 :: a1 :: .int x :: L) (.int x :: S) M N P Q := wp_iload_n rfl dX11_share_15 rfl
theorem sX11_share_16 {x0 : Int32} (hs : shk r = (5, 0)) (hS : stk S ≤ 8) : Wp mX11_share (d + 1) 16 L (.int x0 :: .ref r :: S) M N P Q = Wp mX5_has d 0 [.ref r, .int x0] [] M N P (fun v M' N' P' => Wp mX11_share (d + 1) 19 L (v.toList ++ S) M' N' P' Q) := wp_callV (As := [.int x0]) rfl dX11_share_16 rfl rfl (Or.inl ⟨_, _, _, hs, rfl⟩) rfl ⟨rfl, Nat.le_of_ble_eq_true rfl, Nat.le_of_ble_eq_true rfl⟩ rfl hS
theorem sX11_share_19 : Wp mX11_share d 19 L (.int x :: S) M N P Q = (if x = 0 then Wp mX11_share d 40 L S M N P Q else Wp mX11_share d 22 L S M N P Q) := wp_if_eq rfl dX11_share_19 rfl
theorem sX11_share_22 : Wp mX11_share d 22 (a0 :: a1 :: a2 :: .int x :: L) S M N P Q = Wp mX11_share d 23 (a0 :: a1 :: a2 :: .int x :: L) (.int x :: S) M N P Q := wp_iload_n rfl dX11_share_22 rfl
theorem sX11_share_23 {x0 : Int32} (hS : stk S ≤ 8) : Wp mX11_share (d + 1) 23 L (.int x0 :: S) M N P Q = Wp mX11_isDay d 0 [.int x0] [] M N P (fun v M' N' P' => Wp mX11_share (d + 1) 26 L (v.toList ++ S) M' N' P' Q) := wp_callS (As := [.int x0]) rfl dX11_share_23 rfl rfl rfl ⟨rfl, Nat.le_of_ble_eq_true rfl, Nat.le_of_ble_eq_true rfl⟩ rfl hS
theorem sX11_share_26 : Wp mX11_share d 26 L (.int x :: S) M N P Q = (if x = 0 then Wp mX11_share d 40 L S M N P Q else Wp mX11_share d 29 L S M N P Q) := wp_if_eq rfl dX11_share_26 rfl
theorem sX11_share_29 : Wp mX11_share d 29 (a0 :: a1 :: a2 :: a3 :: .int x :: L) S M N P Q = Wp mX11_share d 31 (a0 :: a1 :: a2 :: a3 :: .int x :: L) (.int x :: S) M N P Q := wp_iload rfl dX11_share_29 rfl
theorem sX11_share_31 : Wp mX11_share d 31 L (.int x :: S) M N P Q = (if x < 0 then Wp mX11_share d 40 L S M N P Q else Wp mX11_share d 34 L S M N P Q) := wp_if_lt rfl dX11_share_31 rfl
theorem sX11_share_34 : Wp mX11_share d 34 (a0 :: a1 :: a2 :: a3 :: .int x :: L) S M N P Q = Wp mX11_share d 36 (a0 :: a1 :: a2 :: a3 :: .int x :: L) (.int x :: S) M N P Q := wp_iload rfl dX11_share_34 rfl
theorem sX11_share_36 : Wp mX11_share d 36 L S M N P Q = Wp mX11_share d 37 L (.int 1 :: S) M N P Q := wp_iconst rfl dX11_share_36 rfl
theorem sX11_share_37 : Wp mX11_share d 37 L (.int z :: .int x :: S) M N P Q = (if x ≤ z then Wp mX11_share d 44 L S M N P Q else Wp mX11_share d 40 L S M N P Q) := wp_icmp_le rfl dX11_share_37 rfl
theorem sX11_share_40 : Wp mX11_share d 40 L S M N P Q = Wp mX11_share d 43 L (.long (-1) :: S) M N P Q := wp_ldc2_w rfl dX11_share_40 rfl rfl
theorem sX11_share_43 : Wp mX11_share d 43 L [.long lx] M N P Q = Q (some (.long lx)) M N P := wp_lret rfl dX11_share_43 rfl
theorem sX11_share_44 : Wp mX11_share d 44 (.ref r :: L) S M N P Q = Wp mX11_share d 45 (.ref r :: L) (.ref r :: S) M N P Q := wp_aload_n rfl dX11_share_44 rfl
theorem sX11_share_45 (hs : shk r = (11, 0)) : Wp mX11_share d 45 L (.ref r :: S) M N P Q = Wp mX11_share d 48 L (.ref (P r 1) :: S) M N P Q := wp_getfield rfl dX11_share_45 rfl rfl hs rfl
theorem sX11_share_48 : Wp mX11_share d 48 (a0 :: .int x :: L) S M N P Q = Wp mX11_share d 49 (a0 :: .int x :: L) (.int x :: S) M N P Q := wp_iload_n rfl dX11_share_48 rfl
theorem sX11_share_49 : Wp mX11_share d 49 (a0 :: a1 :: a2 :: .int x :: L) S M N P Q = Wp mX11_share d 50 (a0 :: a1 :: a2 :: .int x :: L) (.int x :: S) M N P Q := wp_iload_n rfl dX11_share_49 rfl
theorem sX11_share_50 {x0 : Int32} {x1 : Int32} (hs : shk r = (6, 0)) (hS : stk S ≤ 8) : Wp mX11_share (d + 1) 50 L (.int x1 :: .int x0 :: .ref r :: S) M N P Q = Wp mX6_divide d 0 [.ref r, .int x0, .int x1, .float 0] [] M N P (fun v M' N' P' => Wp mX11_share (d + 1) 53 L (v.toList ++ S) M' N' P' Q) := wp_callV (As := [.int x0, .int x1]) rfl dX11_share_50 rfl rfl (Or.inl ⟨_, _, _, hs, rfl⟩) rfl ⟨rfl, Nat.le_of_ble_eq_true rfl, Nat.le_of_ble_eq_true rfl⟩ rfl hS
theorem sX11_share_53 : Wp mX11_share d 53 (a0 :: a1 :: a2 :: a3 :: .int x :: L) S M N P Q = Wp mX11_share d 55 (a0 :: a1 :: a2 :: a3 :: .int x :: L) (.int x :: S) M N P Q := wp_iload rfl dX11_share_53 rfl
theorem sX11_share_55 : Wp mX11_share d 55 L (.int x :: S) M N P Q = (if x = 0 then Wp mX11_share d 58 L S M N P Q else Wp mX11_share d 69 L S M N P Q) := wp_if_ne rfl dX11_share_55 rfl
theorem sX11_share_58 : Wp mX11_share d 58 (.ref r :: L) S M N P Q = Wp mX11_share d 59 (.ref r :: L) (.ref r :: S) M N P Q := wp_aload_n rfl dX11_share_58 rfl
theorem sX11_share_59 (hs : shk r = (11, 0)) : Wp mX11_share d 59 L (.ref r :: S) M N P Q = Wp mX11_share d 62 L (.ref (P r 1) :: S) M N P Q := wp_getfield rfl dX11_share_59 rfl rfl hs rfl
theorem sX11_share_62 : Wp mX11_share d 62 (a0 :: a1 :: .int x :: L) S M N P Q = Wp mX11_share d 63 (a0 :: a1 :: .int x :: L) (.int x :: S) M N P Q := wp_iload_n rfl dX11_share_62 rfl
theorem sX11_share_63 {x0 : Int32} (hs : shk r = (6, 0)) (hS : stk S ≤ 8) : Wp mX11_share (d + 1) 63 L (.int x0 :: .ref r :: S) M N P Q = Wp mX6_numerator d 0 [.ref r, .int x0, .float 0, .float 0] [] M N P (fun v M' N' P' => Wp mX11_share (d + 1) 66 L (v.toList ++ S) M' N' P' Q) := wp_callV (As := [.int x0]) rfl dX11_share_63 rfl rfl (Or.inl ⟨_, _, _, hs, rfl⟩) rfl ⟨rfl, Nat.le_of_ble_eq_true rfl, Nat.le_of_ble_eq_true rfl⟩ rfl hS
theorem sX11_share_66 : Wp mX11_share d 66 L S M N P Q = Wp mX11_share d 77 L S M N P Q := wp_goto rfl dX11_share_66 rfl
theorem sX11_share_69 : Wp mX11_share d 69 (.ref r :: L) S M N P Q = Wp mX11_share d 70 (.ref r :: L) (.ref r :: S) M N P Q := wp_aload_n rfl dX11_share_69 rfl
theorem sX11_share_70 (hs : shk r = (11, 0)) : Wp mX11_share d 70 L (.ref r :: S) M N P Q = Wp mX11_share d 73 L (.ref (P r 1) :: S) M N P Q := wp_getfield rfl dX11_share_70 rfl rfl hs rfl
theorem sX11_share_73 : Wp mX11_share d 73 (a0 :: a1 :: .int x :: L) S M N P Q = Wp mX11_share d 74 (a0 :: a1 :: .int x :: L) (.int x :: S) M N P Q := wp_iload_n rfl dX11_share_73 rfl
theorem sX11_share_74 {x0 : Int32} (hs : shk r = (6, 0)) (hS : stk S ≤ 8) : Wp mX11_share (d + 1) 74 L (.int x0 :: .ref r :: S) M N P Q = Wp mX6_denominator d 0 [.ref r, .int x0, .float 0, .float 0] [] M N P (fun v M' N' P' => Wp mX11_share (d + 1) 77 L (v.toList ++ S) M' N' P' Q) := wp_callV (As := [.int x0]) rfl dX11_share_74 rfl rfl (Or.inl ⟨_, _, _, hs, rfl⟩) rfl ⟨rfl, Nat.le_of_ble_eq_true rfl, Nat.le_of_ble_eq_true rfl⟩ rfl hS
theorem sX11_share_77 : Wp mX11_share d 77 L [.long lx] M N P Q = Q (some (.long lx)) M N P := wp_lret rfl dX11_share_77 rfl
theorem sX11_want_0 : Wp mX11_want d 0 (.ref r :: L) S M N P Q = Wp mX11_want d 1 (.ref r :: L) (.ref r :: S) M N P Q := wp_aload_n rfl dX11_want_0 rfl
theorem sX11_want_1 (hs : shk r = (11, 0)) : Wp mX11_want d 1 L (.ref r :: S) M N P Q = Wp mX11_want d 4 L (.ref (P r 2) :: S) M N P Q := wp_getfield rfl dX11_want_1 rfl rfl hs rfl
theorem sX11_want_4 : Wp mX11_want d 4 (a0 :: .int x :: L) S M N P Q = Wp mX11_want d 5 (a0 :: .int x :: L) (.int x :: S) M N P Q := wp_iload_n rfl dX11_want_4 rfl
theorem sX11_want_5 {x0 : Int32} (hs : shk r = (1, 0)) (hS : stk S ≤ 8) : Wp mX11_want (d + 1) 5 L (.int x0 :: .ref r :: S) M N P Q = Wp mX1_has d 0 [.ref r, .int x0] [] M N P (fun v M' N' P' => Wp mX11_want (d + 1) 8 L (v.toList ++ S) M' N' P' Q) := wp_callV (As := [.int x0]) rfl dX11_want_5 rfl rfl (Or.inl ⟨_, _, _, hs, rfl⟩) rfl ⟨rfl, Nat.le_of_ble_eq_true rfl, Nat.le_of_ble_eq_true rfl⟩ rfl hS
theorem sX11_want_8 : Wp mX11_want d 8 L (.int x :: S) M N P Q = (if x = 0 then Wp mX11_want d 22 L S M N P Q else Wp mX11_want d 11 L S M N P Q) := wp_if_eq rfl dX11_want_8 rfl
theorem sX11_want_11 : Wp mX11_want d 11 (.ref r :: L) S M N P Q = Wp mX11_want d 12 (.ref r :: L) (.ref r :: S) M N P Q := wp_aload_n rfl dX11_want_11 rfl
theorem sX11_want_12 (hs : shk r = (11, 0)) : Wp mX11_want d 12 L (.ref r :: S) M N P Q = Wp mX11_want d 15 L (.ref (P r 2) :: S) M N P Q := wp_getfield rfl dX11_want_12 rfl rfl hs rfl
theorem sX11_want_15 : Wp mX11_want d 15 (a0 :: a1 :: .int x :: L) S M N P Q = Wp mX11_want d 16 (a0 :: a1 :: .int x :: L) (.int x :: S) M N P Q := wp_iload_n rfl dX11_want_15 rfl
theorem sX11_want_16 {x0 : Int32} (hs : shk r = (1, 0)) (hS : stk S ≤ 8) : Wp mX11_want (d + 1) 16 L (.int x0 :: .ref r :: S) M N P Q = Wp mX1_has d 0 [.ref r, .int x0] [] M N P (fun v M' N' P' => Wp mX11_want (d + 1) 19 L (v.toList ++ S) M' N' P' Q) := wp_callV (As := [.int x0]) rfl dX11_want_16 rfl rfl (Or.inl ⟨_, _, _, hs, rfl⟩) rfl ⟨rfl, Nat.le_of_ble_eq_true rfl, Nat.le_of_ble_eq_true rfl⟩ rfl hS
theorem sX11_want_19 : Wp mX11_want d 19 L (.int x :: S) M N P Q = (if x = 0 then Wp mX11_want d 22 L S M N P Q else Wp mX11_want d 24 L S M N P Q) := wp_if_ne rfl dX11_want_19 rfl
theorem sX11_want_22 : Wp mX11_want d 22 L S M N P Q = Wp mX11_want d 23 L (.int (-1) :: S) M N P Q := wp_iconst rfl dX11_want_22 rfl
theorem sX11_want_23 : Wp mX11_want d 23 L [.int x] M N P Q = Q (some (.int x)) M N P := wp_iret rfl dX11_want_23 rfl rfl
theorem sX11_want_24 : Wp mX11_want d 24 (.ref r :: L) S M N P Q = Wp mX11_want d 25 (.ref r :: L) (.ref r :: S) M N P Q := wp_aload_n rfl dX11_want_24 rfl
theorem sX11_want_25 (hs : shk r = (11, 0)) : Wp mX11_want d 25 L (.ref r :: S) M N P Q = Wp mX11_want d 28 L (.ref (P r 10) :: S) M N P Q := wp_getfield rfl dX11_want_25 rfl rfl hs rfl
theorem sX11_want_28 : Wp mX11_want d 28 (a0 :: .int x :: L) S M N P Q = Wp mX11_want d 29 (a0 :: .int x :: L) (.int x :: S) M N P Q := wp_iload_n rfl dX11_want_28 rfl
theorem sX11_want_29 : Wp mX11_want d 29 (a0 :: a1 :: .int x :: L) S M N P Q = Wp mX11_want d 30 (a0 :: a1 :: .int x :: L) (.int x :: S) M N P Q := wp_iload_n rfl dX11_want_29 rfl
theorem sX11_want_30 : Wp mX11_want d 30 (a0 :: a1 :: a2 :: .int x :: L) S M N P Q = Wp mX11_want d 31 (a0 :: a1 :: a2 :: .int x :: L) (.int x :: S) M N P Q := wp_iload_n rfl dX11_want_30 rfl
theorem sX11_want_31 {x0 : Int32} {x1 : Int32} {x2 : Int32} (hs : shk r = (7, 0)) (hS : stk S ≤ 8) : Wp mX11_want (d + 1) 31 L (.int x2 :: .int x1 :: .int x0 :: .ref r :: S) M N P Q = Wp mX7_tell d 0 [.ref r, .int x0, .int x1, .int x2] [] M N P (fun v M' N' P' => Wp mX11_want (d + 1) 34 L (v.toList ++ S) M' N' P' Q) := wp_callV (As := [.int x0, .int x1, .int x2]) rfl dX11_want_31 rfl rfl (Or.inl ⟨_, _, _, hs, rfl⟩) rfl ⟨rfl, Nat.le_of_ble_eq_true rfl, Nat.le_of_ble_eq_true rfl⟩ rfl hS
theorem sX11_want_34 : Wp mX11_want d 34 L [.int x] M N P Q = Q (some (.int x)) M N P := wp_iret rfl dX11_want_34 rfl rfl
theorem sX11_joy_0 : Wp mX11_joy d 0 (.ref r :: L) S M N P Q = Wp mX11_joy d 1 (.ref r :: L) (.ref r :: S) M N P Q := wp_aload_n rfl dX11_joy_0 rfl
theorem sX11_joy_1 (hs : shk r = (11, 0)) : Wp mX11_joy d 1 L (.ref r :: S) M N P Q = Wp mX11_joy d 4 L (.ref (P r 10) :: S) M N P Q := wp_getfield rfl dX11_joy_1 rfl rfl hs rfl
theorem sX11_joy_4 (hs : shk r = (7, 0)) (hS : stk S ≤ 8) : Wp mX11_joy (d + 1) 4 L (.ref r :: S) M N P Q = Wp mX7_settle d 0 [.ref r, .float 0, .float 0] [] M N P (fun v M' N' P' => Wp mX11_joy (d + 1) 7 L (v.toList ++ S) M' N' P' Q) := wp_callV (As := []) rfl dX11_joy_4 rfl rfl (Or.inl ⟨_, _, _, hs, rfl⟩) rfl ⟨rfl, Nat.le_of_ble_eq_true rfl, Nat.le_of_ble_eq_true rfl⟩ rfl hS
theorem sX11_joy_7 : Wp mX11_joy d 7 (.ref r :: L) S M N P Q = Wp mX11_joy d 8 (.ref r :: L) (.ref r :: S) M N P Q := wp_aload_n rfl dX11_joy_7 rfl
theorem sX11_joy_8 (hs : shk r = (11, 0)) : Wp mX11_joy d 8 L (.ref r :: S) M N P Q = Wp mX11_joy d 11 L (.ref (P r 10) :: S) M N P Q := wp_getfield rfl dX11_joy_8 rfl rfl hs rfl
theorem sX11_joy_11 (hs : shk r = (7, 0)) : Wp mX11_joy d 11 L (.ref r :: S) M N P Q = Wp mX11_joy d 14 L (.ref (P r 2) :: S) M N P Q := wp_getfield rfl dX11_joy_11 rfl rfl hs rfl
theorem sX11_joy_14 : Wp mX11_joy d 14 L S M N P Q = Wp mX11_joy d 15 L (.int 0 :: S) M N P Q := wp_iconst rfl dX11_joy_14 rfl
theorem sX11_joy_15 (hs : (shk r).1 = 100) : Wp mX11_joy d 15 L (.int j :: .ref r :: S) M N P Q = (vp_in j (shk r).2 ∧ Wp mX11_joy d 16 L (.int (M r j.toNatClampNeg) :: S) M N P Q) := wp_iaload rfl dX11_joy_15 (kd hs)
theorem sX11_joy_16 : Wp mX11_joy d 16 L [.int x] M N P Q = Q (some (.int x)) M N P := wp_iret rfl dX11_joy_16 rfl rfl
theorem sX11_swap_0 : Wp mX11_swap d 0 (.ref r :: L) S M N P Q = Wp mX11_swap d 1 (.ref r :: L) (.ref r :: S) M N P Q := wp_aload_n rfl dX11_swap_0 rfl
theorem sX11_swap_1 (hs : shk r = (11, 0)) : Wp mX11_swap d 1 L (.ref r :: S) M N P Q = Wp mX11_swap d 4 L (.ref (P r 2) :: S) M N P Q := wp_getfield rfl dX11_swap_1 rfl rfl hs rfl
theorem sX11_swap_4 : Wp mX11_swap d 4 (a0 :: .int x :: L) S M N P Q = Wp mX11_swap d 5 (a0 :: .int x :: L) (.int x :: S) M N P Q := wp_iload_n rfl dX11_swap_4 rfl
theorem sX11_swap_5 {x0 : Int32} (hs : shk r = (1, 0)) (hS : stk S ≤ 8) : Wp mX11_swap (d + 1) 5 L (.int x0 :: .ref r :: S) M N P Q = Wp mX1_has d 0 [.ref r, .int x0] [] M N P (fun v M' N' P' => Wp mX11_swap (d + 1) 8 L (v.toList ++ S) M' N' P' Q) := wp_callV (As := [.int x0]) rfl dX11_swap_5 rfl rfl (Or.inl ⟨_, _, _, hs, rfl⟩) rfl ⟨rfl, Nat.le_of_ble_eq_true rfl, Nat.le_of_ble_eq_true rfl⟩ rfl hS
theorem sX11_swap_8 : Wp mX11_swap d 8 L (.int x :: S) M N P Q = (if x = 0 then Wp mX11_swap d 11 L S M N P Q else Wp mX11_swap d 13 L S M N P Q) := wp_if_ne rfl dX11_swap_8 rfl
theorem sX11_swap_11 : Wp mX11_swap d 11 L S M N P Q = Wp mX11_swap d 12 L (.int (-1) :: S) M N P Q := wp_iconst rfl dX11_swap_11 rfl
theorem sX11_swap_12 : Wp mX11_swap d 12 L [.int x] M N P Q = Q (some (.int x)) M N P := wp_iret rfl dX11_swap_12 rfl rfl
theorem sX11_swap_13 : Wp mX11_swap d 13 (.ref r :: L) S M N P Q = Wp mX11_swap d 14 (.ref r :: L) (.ref r :: S) M N P Q := wp_aload_n rfl dX11_swap_13 rfl
theorem sX11_swap_14 (hs : shk r = (11, 0)) : Wp mX11_swap d 14 L (.ref r :: S) M N P Q = Wp mX11_swap d 17 L (.ref (P r 10) :: S) M N P Q := wp_getfield rfl dX11_swap_14 rfl rfl hs rfl
theorem sX11_swap_17 (hs : shk r = (7, 0)) (hS : stk S ≤ 8) : Wp mX11_swap (d + 1) 17 L (.ref r :: S) M N P Q = Wp mX7_settle d 0 [.ref r, .float 0, .float 0] [] M N P (fun v M' N' P' => Wp mX11_swap (d + 1) 20 L (v.toList ++ S) M' N' P' Q) := wp_callV (As := []) rfl dX11_swap_17 rfl rfl (Or.inl ⟨_, _, _, hs, rfl⟩) rfl ⟨rfl, Nat.le_of_ble_eq_true rfl, Nat.le_of_ble_eq_true rfl⟩ rfl hS
theorem sX11_swap_20 : Wp mX11_swap d 20 (.ref r :: L) S M N P Q = Wp mX11_swap d 21 (.ref r :: L) (.ref r :: S) M N P Q := wp_aload_n rfl dX11_swap_20 rfl
theorem sX11_swap_21 (hs : shk r = (11, 0)) : Wp mX11_swap d 21 L (.ref r :: S) M N P Q = Wp mX11_swap d 24 L (.ref (P r 10) :: S) M N P Q := wp_getfield rfl dX11_swap_21 rfl rfl hs rfl
theorem sX11_swap_24 (hs : shk r = (7, 0)) : Wp mX11_swap d 24 L (.ref r :: S) M N P Q = Wp mX11_swap d 27 L (.ref (P r 1) :: S) M N P Q := wp_getfield rfl dX11_swap_24 rfl rfl hs rfl
theorem sX11_swap_27 : Wp mX11_swap d 27 (a0 :: .int x :: L) S M N P Q = Wp mX11_swap d 28 (a0 :: .int x :: L) (.int x :: S) M N P Q := wp_iload_n rfl dX11_swap_27 rfl
theorem sX11_swap_28 (hs : (shk r).1 = 100) : Wp mX11_swap d 28 L (.int j :: .ref r :: S) M N P Q = (vp_in j (shk r).2 ∧ Wp mX11_swap d 29 L (.int (M r j.toNatClampNeg) :: S) M N P Q) := wp_iaload rfl dX11_swap_28 (kd hs)
theorem sX11_swap_29 : Wp mX11_swap d 29 L [.int x] M N P Q = Q (some (.int x)) M N P := wp_iret rfl dX11_swap_29 rfl rfl
theorem sX11_about_0 : Wp mX11_about d 0 (a0 :: .int x :: L) S M N P Q = Wp mX11_about d 1 (a0 :: .int x :: L) (.int x :: S) M N P Q := wp_iload_n rfl dX11_about_0 rfl
theorem sX11_about_1 : Wp mX11_about d 1 L (.int x :: S) M N P Q = (if x = 0 then Wp mX11_about d 48 L S M N P Q else if x = 1 then Wp mX11_about d 56 L S M N P Q else if x = 2 then Wp mX11_about d 64 L S M N P Q else if x = 3 then Wp mX11_about d 72 L S M N P Q else if x = 4 then Wp mX11_about d 77 L S M N P Q else if x = 5 then Wp mX11_about d 85 L S M N P Q else if x = 6 then Wp mX11_about d 93 L S M N P Q else if x = 7 then Wp mX11_about d 101 L S M N P Q else Wp mX11_about d 109 L S M N P Q) := by
  by_cases h0 : x = 0
  · rw [if_pos h0]; subst h0; exact wp_tabIn rfl dX11_about_1 (by decide) (by decide) rfl rfl
  by_cases h1 : x = 1
  · rw [if_neg h0, if_pos h1]; subst h1; exact wp_tabIn rfl dX11_about_1 (by decide) (by decide) rfl rfl
  by_cases h2 : x = 2
  · rw [if_neg h0, if_neg h1, if_pos h2]; subst h2; exact wp_tabIn rfl dX11_about_1 (by decide) (by decide) rfl rfl
  by_cases h3 : x = 3
  · rw [if_neg h0, if_neg h1, if_neg h2, if_pos h3]; subst h3; exact wp_tabIn rfl dX11_about_1 (by decide) (by decide) rfl rfl
  by_cases h4 : x = 4
  · rw [if_neg h0, if_neg h1, if_neg h2, if_neg h3, if_pos h4]; subst h4; exact wp_tabIn rfl dX11_about_1 (by decide) (by decide) rfl rfl
  by_cases h5 : x = 5
  · rw [if_neg h0, if_neg h1, if_neg h2, if_neg h3, if_neg h4, if_pos h5]; subst h5; exact wp_tabIn rfl dX11_about_1 (by decide) (by decide) rfl rfl
  by_cases h6 : x = 6
  · rw [if_neg h0, if_neg h1, if_neg h2, if_neg h3, if_neg h4, if_neg h5, if_pos h6]; subst h6; exact wp_tabIn rfl dX11_about_1 (by decide) (by decide) rfl rfl
  by_cases h7 : x = 7
  · rw [if_neg h0, if_neg h1, if_neg h2, if_neg h3, if_neg h4, if_neg h5, if_neg h6, if_pos h7]; subst h7; exact wp_tabIn rfl dX11_about_1 (by decide) (by decide) rfl rfl
  have q0 := lv_neT h0 (show (0 : Int32).toInt = 0 by decide)
  have q1 := lv_neT h1 (show (1 : Int32).toInt = 1 by decide)
  have q2 := lv_neT h2 (show (2 : Int32).toInt = 2 by decide)
  have q3 := lv_neT h3 (show (3 : Int32).toInt = 3 by decide)
  have q4 := lv_neT h4 (show (4 : Int32).toInt = 4 by decide)
  have q5 := lv_neT h5 (show (5 : Int32).toInt = 5 by decide)
  have q6 := lv_neT h6 (show (6 : Int32).toInt = 6 by decide)
  have q7 := lv_neT h7 (show (7 : Int32).toInt = 7 by decide)
  rw [if_neg h0, if_neg h1, if_neg h2, if_neg h3, if_neg h4, if_neg h5, if_neg h6, if_neg h7]
  exact wp_tabOut rfl dX11_about_1 (by omega) rfl
theorem sX11_about_48 : Wp mX11_about d 48 (.ref r :: L) S M N P Q = Wp mX11_about d 49 (.ref r :: L) (.ref r :: S) M N P Q := wp_aload_n rfl dX11_about_48 rfl
theorem sX11_about_49 (hs : shk r = (11, 0)) : Wp mX11_about d 49 L (.ref r :: S) M N P Q = Wp mX11_about d 52 L (.ref (P r 0) :: S) M N P Q := wp_getfield rfl dX11_about_49 rfl rfl hs rfl
theorem sX11_about_52 (hs : shk r = (5, 0)) : Wp mX11_about d 52 L (.ref r :: S) M N P Q = Wp mX11_about d 55 L (.int (M r 3) :: S) M N P Q := wp_getfield rfl dX11_about_52 rfl rfl hs rfl
theorem sX11_about_55 : Wp mX11_about d 55 L [.int x] M N P Q = Q (some (.int x)) M N P := wp_iret rfl dX11_about_55 rfl rfl
theorem sX11_about_56 : Wp mX11_about d 56 (.ref r :: L) S M N P Q = Wp mX11_about d 57 (.ref r :: L) (.ref r :: S) M N P Q := wp_aload_n rfl dX11_about_56 rfl
theorem sX11_about_57 (hs : shk r = (11, 0)) : Wp mX11_about d 57 L (.ref r :: S) M N P Q = Wp mX11_about d 60 L (.ref (P r 2) :: S) M N P Q := wp_getfield rfl dX11_about_57 rfl rfl hs rfl
theorem sX11_about_60 (hs : shk r = (1, 0)) : Wp mX11_about d 60 L (.ref r :: S) M N P Q = Wp mX11_about d 63 L (.int (M r 2) :: S) M N P Q := wp_getfield rfl dX11_about_60 rfl rfl hs rfl
theorem sX11_about_63 : Wp mX11_about d 63 L [.int x] M N P Q = Q (some (.int x)) M N P := wp_iret rfl dX11_about_63 rfl rfl
theorem sX11_about_64 : Wp mX11_about d 64 (.ref r :: L) S M N P Q = Wp mX11_about d 65 (.ref r :: L) (.ref r :: S) M N P Q := wp_aload_n rfl dX11_about_64 rfl
theorem sX11_about_65 (hs : shk r = (11, 0)) : Wp mX11_about d 65 L (.ref r :: S) M N P Q = Wp mX11_about d 68 L (.ref (P r 4) :: S) M N P Q := wp_getfield rfl dX11_about_65 rfl rfl hs rfl
theorem sX11_about_68 (hs : shk r = (3, 0)) : Wp mX11_about d 68 L (.ref r :: S) M N P Q = Wp mX11_about d 71 L (.int (M r 9) :: S) M N P Q := wp_getfield rfl dX11_about_68 rfl rfl hs rfl
theorem sX11_about_71 : Wp mX11_about d 71 L [.int x] M N P Q = Q (some (.int x)) M N P := wp_iret rfl dX11_about_71 rfl rfl
theorem sX11_about_72 : Wp mX11_about d 72 (.ref r :: L) S M N P Q = Wp mX11_about d 73 (.ref r :: L) (.ref r :: S) M N P Q := wp_aload_n rfl dX11_about_72 rfl
theorem sX11_about_73 (hs : shk r = (11, 0)) : Wp mX11_about d 73 L (.ref r :: S) M N P Q = Wp mX11_about d 76 L (.int (M r 12) :: S) M N P Q := wp_getfield rfl dX11_about_73 rfl rfl hs rfl
theorem sX11_about_76 : Wp mX11_about d 76 L [.int x] M N P Q = Q (some (.int x)) M N P := wp_iret rfl dX11_about_76 rfl rfl
theorem sX11_about_77 : Wp mX11_about d 77 (.ref r :: L) S M N P Q = Wp mX11_about d 78 (.ref r :: L) (.ref r :: S) M N P Q := wp_aload_n rfl dX11_about_77 rfl
theorem sX11_about_78 (hs : shk r = (11, 0)) : Wp mX11_about d 78 L (.ref r :: S) M N P Q = Wp mX11_about d 81 L (.ref (P r 11) :: S) M N P Q := wp_getfield rfl dX11_about_78 rfl rfl hs rfl
theorem sX11_about_81 (hs : shk r = (2, 0)) : Wp mX11_about d 81 L (.ref r :: S) M N P Q = Wp mX11_about d 84 L (.int (M r 6) :: S) M N P Q := wp_getfield rfl dX11_about_81 rfl rfl hs rfl
theorem sX11_about_84 : Wp mX11_about d 84 L [.int x] M N P Q = Q (some (.int x)) M N P := wp_iret rfl dX11_about_84 rfl rfl
theorem sX11_about_85 : Wp mX11_about d 85 (.ref r :: L) S M N P Q = Wp mX11_about d 86 (.ref r :: L) (.ref r :: S) M N P Q := wp_aload_n rfl dX11_about_85 rfl
theorem sX11_about_86 (hs : shk r = (11, 0)) : Wp mX11_about d 86 L (.ref r :: S) M N P Q = Wp mX11_about d 89 L (.ref (P r 6) :: S) M N P Q := wp_getfield rfl dX11_about_86 rfl rfl hs rfl
theorem sX11_about_89 (hs : shk r = (0, 0)) : Wp mX11_about d 89 L (.ref r :: S) M N P Q = Wp mX11_about d 92 L (.int (M r 2) :: S) M N P Q := wp_getfield rfl dX11_about_89 rfl rfl hs rfl
theorem sX11_about_92 : Wp mX11_about d 92 L [.int x] M N P Q = Q (some (.int x)) M N P := wp_iret rfl dX11_about_92 rfl rfl
theorem sX11_about_93 : Wp mX11_about d 93 (.ref r :: L) S M N P Q = Wp mX11_about d 94 (.ref r :: L) (.ref r :: S) M N P Q := wp_aload_n rfl dX11_about_93 rfl
theorem sX11_about_94 (hs : shk r = (11, 0)) : Wp mX11_about d 94 L (.ref r :: S) M N P Q = Wp mX11_about d 97 L (.ref (P r 10) :: S) M N P Q := wp_getfield rfl dX11_about_94 rfl rfl hs rfl
theorem sX11_about_97 (hs : shk r = (7, 0)) : Wp mX11_about d 97 L (.ref r :: S) M N P Q = Wp mX11_about d 100 L (.int (M r 4) :: S) M N P Q := wp_getfield rfl dX11_about_97 rfl rfl hs rfl
theorem sX11_about_100 : Wp mX11_about d 100 L [.int x] M N P Q = Q (some (.int x)) M N P := wp_iret rfl dX11_about_100 rfl rfl
theorem sX11_about_101 : Wp mX11_about d 101 (.ref r :: L) S M N P Q = Wp mX11_about d 102 (.ref r :: L) (.ref r :: S) M N P Q := wp_aload_n rfl dX11_about_101 rfl
theorem sX11_about_102 (hs : shk r = (11, 0)) : Wp mX11_about d 102 L (.ref r :: S) M N P Q = Wp mX11_about d 105 L (.ref (P r 7) :: S) M N P Q := wp_getfield rfl dX11_about_102 rfl rfl hs rfl
theorem sX11_about_105 (hs : shk r = (8, 0)) : Wp mX11_about d 105 L (.ref r :: S) M N P Q = Wp mX11_about d 108 L (.int (M r 1) :: S) M N P Q := wp_getfield rfl dX11_about_105 rfl rfl hs rfl
theorem sX11_about_108 : Wp mX11_about d 108 L [.int x] M N P Q = Q (some (.int x)) M N P := wp_iret rfl dX11_about_108 rfl rfl
theorem sX11_about_109 : Wp mX11_about d 109 L S M N P Q = Wp mX11_about d 110 L (.int (-1) :: S) M N P Q := wp_iconst rfl dX11_about_109 rfl
theorem sX11_about_110 : Wp mX11_about d 110 L [.int x] M N P Q = Q (some (.int x)) M N P := wp_iret rfl dX11_about_110 rfl rfl
theorem sX11_isDay_0 : Wp mX11_isDay d 0 (.int x :: L) S M N P Q = Wp mX11_isDay d 1 (.int x :: L) (.int x :: S) M N P Q := wp_iload_n rfl dX11_isDay_0 rfl
theorem sX11_isDay_1 : Wp mX11_isDay d 1 L (.int x :: S) M N P Q = (if x < 0 then Wp mX11_isDay d 14 L S M N P Q else Wp mX11_isDay d 4 L S M N P Q) := wp_if_lt rfl dX11_isDay_1 rfl
theorem sX11_isDay_4 : Wp mX11_isDay d 4 (.int x :: L) S M N P Q = Wp mX11_isDay d 5 (.int x :: L) (.int x :: S) M N P Q := wp_iload_n rfl dX11_isDay_4 rfl
theorem sX11_isDay_5 : Wp mX11_isDay d 5 L S M N P Q = Wp mX11_isDay d 7 L (.int (36499) :: S) M N P Q := wp_ldc rfl dX11_isDay_5 rfl rfl
theorem sX11_isDay_7 : Wp mX11_isDay d 7 L (.int z :: .int x :: S) M N P Q = (if z < x then Wp mX11_isDay d 14 L S M N P Q else Wp mX11_isDay d 10 L S M N P Q) := wp_icmp_gt rfl dX11_isDay_7 rfl
theorem sX11_isDay_10 : Wp mX11_isDay d 10 L S M N P Q = Wp mX11_isDay d 11 L (.int 1 :: S) M N P Q := wp_iconst rfl dX11_isDay_10 rfl
theorem sX11_isDay_11 : Wp mX11_isDay d 11 L S M N P Q = Wp mX11_isDay d 15 L S M N P Q := wp_goto rfl dX11_isDay_11 rfl
theorem sX11_isDay_14 : Wp mX11_isDay d 14 L S M N P Q = Wp mX11_isDay d 15 L (.int 0 :: S) M N P Q := wp_iconst rfl dX11_isDay_14 rfl
theorem sX11_isDay_15 (hb : bit x) : Wp mX11_isDay d 15 L [.int x] M N P Q = Q (some (.int x)) M N P := wp_iret rfl dX11_isDay_15 rfl (bit_n hb)
theorem sX11_isYear_0 : Wp mX11_isYear d 0 (.int x :: L) S M N P Q = Wp mX11_isYear d 1 (.int x :: L) (.int x :: S) M N P Q := wp_iload_n rfl dX11_isYear_0 rfl
theorem sX11_isYear_1 : Wp mX11_isYear d 1 L (.int x :: S) M N P Q = (if x < 0 then Wp mX11_isYear d 14 L S M N P Q else Wp mX11_isYear d 4 L S M N P Q) := wp_if_lt rfl dX11_isYear_1 rfl
theorem sX11_isYear_4 : Wp mX11_isYear d 4 (.int x :: L) S M N P Q = Wp mX11_isYear d 5 (.int x :: L) (.int x :: S) M N P Q := wp_iload_n rfl dX11_isYear_4 rfl
theorem sX11_isYear_5 : Wp mX11_isYear d 5 L S M N P Q = Wp mX11_isYear d 7 L (.int 100 :: S) M N P Q := wp_bipush rfl dX11_isYear_5 rfl
theorem sX11_isYear_7 : Wp mX11_isYear d 7 L (.int z :: .int x :: S) M N P Q = (if z ≤ x then Wp mX11_isYear d 14 L S M N P Q else Wp mX11_isYear d 10 L S M N P Q) := wp_icmp_ge rfl dX11_isYear_7 rfl
theorem sX11_isYear_10 : Wp mX11_isYear d 10 L S M N P Q = Wp mX11_isYear d 11 L (.int 1 :: S) M N P Q := wp_iconst rfl dX11_isYear_10 rfl
theorem sX11_isYear_11 : Wp mX11_isYear d 11 L S M N P Q = Wp mX11_isYear d 15 L S M N P Q := wp_goto rfl dX11_isYear_11 rfl
theorem sX11_isYear_14 : Wp mX11_isYear d 14 L S M N P Q = Wp mX11_isYear d 15 L (.int 0 :: S) M N P Q := wp_iconst rfl dX11_isYear_14 rfl
theorem sX11_isYear_15 (hb : bit x) : Wp mX11_isYear d 15 L [.int x] M N P Q = Q (some (.int x)) M N P := wp_iret rfl dX11_isYear_15 rfl (bit_n hb)
theorem sX11_isMoney_0 : Wp mX11_isMoney d 0 (.int x :: L) S M N P Q = Wp mX11_isMoney d 1 (.int x :: L) (.int x :: S) M N P Q := wp_iload_n rfl dX11_isMoney_0 rfl
theorem sX11_isMoney_1 : Wp mX11_isMoney d 1 L (.int x :: S) M N P Q = (if x < 0 then Wp mX11_isMoney d 14 L S M N P Q else Wp mX11_isMoney d 4 L S M N P Q) := wp_if_lt rfl dX11_isMoney_1 rfl
theorem sX11_isMoney_4 : Wp mX11_isMoney d 4 (.int x :: L) S M N P Q = Wp mX11_isMoney d 5 (.int x :: L) (.int x :: S) M N P Q := wp_iload_n rfl dX11_isMoney_4 rfl
theorem sX11_isMoney_5 : Wp mX11_isMoney d 5 L S M N P Q = Wp mX11_isMoney d 7 L (.int (1000000) :: S) M N P Q := wp_ldc rfl dX11_isMoney_5 rfl rfl
theorem sX11_isMoney_7 : Wp mX11_isMoney d 7 L (.int z :: .int x :: S) M N P Q = (if z < x then Wp mX11_isMoney d 14 L S M N P Q else Wp mX11_isMoney d 10 L S M N P Q) := wp_icmp_gt rfl dX11_isMoney_7 rfl
theorem sX11_isMoney_10 : Wp mX11_isMoney d 10 L S M N P Q = Wp mX11_isMoney d 11 L (.int 1 :: S) M N P Q := wp_iconst rfl dX11_isMoney_10 rfl
theorem sX11_isMoney_11 : Wp mX11_isMoney d 11 L S M N P Q = Wp mX11_isMoney d 15 L S M N P Q := wp_goto rfl dX11_isMoney_11 rfl
theorem sX11_isMoney_14 : Wp mX11_isMoney d 14 L S M N P Q = Wp mX11_isMoney d 15 L (.int 0 :: S) M N P Q := wp_iconst rfl dX11_isMoney_14 rfl
theorem sX11_isMoney_15 (hb : bit x) : Wp mX11_isMoney d 15 L [.int x] M N P Q = Q (some (.int x)) M N P := wp_iret rfl dX11_isMoney_15 rfl (bit_n hb)
theorem sX11_truth_0 : Wp mX11_truth d 0 (.int x :: L) S M N P Q = Wp mX11_truth d 1 (.int x :: L) (.int x :: S) M N P Q := wp_iload_n rfl dX11_truth_0 rfl
theorem sX11_truth_1 : Wp mX11_truth d 1 L (.int x :: S) M N P Q = (if x = 0 then Wp mX11_truth d 8 L S M N P Q else Wp mX11_truth d 4 L S M N P Q) := wp_if_eq rfl dX11_truth_1 rfl
theorem sX11_truth_4 : Wp mX11_truth d 4 L S M N P Q = Wp mX11_truth d 5 L (.int 1 :: S) M N P Q := wp_iconst rfl dX11_truth_4 rfl
theorem sX11_truth_5 : Wp mX11_truth d 5 L S M N P Q = Wp mX11_truth d 9 L S M N P Q := wp_goto rfl dX11_truth_5 rfl
theorem sX11_truth_8 : Wp mX11_truth d 8 L S M N P Q = Wp mX11_truth d 9 L (.int 0 :: S) M N P Q := wp_iconst rfl dX11_truth_8 rfl
theorem sX11_truth_9 : Wp mX11_truth d 9 L [.int x] M N P Q = Q (some (.int x)) M N P := wp_iret rfl dX11_truth_9 rfl rfl
theorem sX11_convert_0 : Wp mX11_convert d 0 (a0 :: a1 :: .int x :: L) S M N P Q = Wp mX11_convert d 1 (a0 :: a1 :: .int x :: L) (.int x :: S) M N P Q := wp_iload_n rfl dX11_convert_0 rfl
theorem sX11_convert_1 {x0 : Int32} (hS : stk S ≤ 8) : Wp mX11_convert (d + 1) 1 L (.int x0 :: S) M N P Q = Wp mX11_isYear d 0 [.int x0] [] M N P (fun v M' N' P' => Wp mX11_convert (d + 1) 4 L (v.toList ++ S) M' N' P' Q) := wp_callS (As := [.int x0]) rfl dX11_convert_1 rfl rfl rfl ⟨rfl, Nat.le_of_ble_eq_true rfl, Nat.le_of_ble_eq_true rfl⟩ rfl hS
theorem sX11_convert_4 : Wp mX11_convert d 4 L (.int x :: S) M N P Q = (if x = 0 then Wp mX11_convert d 24 L S M N P Q else Wp mX11_convert d 7 L S M N P Q) := wp_if_eq rfl dX11_convert_4 rfl
theorem sX11_convert_7 : Wp mX11_convert d 7 (a0 :: a1 :: a2 :: .int x :: L) S M N P Q = Wp mX11_convert d 8 (a0 :: a1 :: a2 :: .int x :: L) (.int x :: S) M N P Q := wp_iload_n rfl dX11_convert_7 rfl
theorem sX11_convert_8 {x0 : Int32} (hS : stk S ≤ 8) : Wp mX11_convert (d + 1) 8 L (.int x0 :: S) M N P Q = Wp mX11_isYear d 0 [.int x0] [] M N P (fun v M' N' P' => Wp mX11_convert (d + 1) 11 L (v.toList ++ S) M' N' P' Q) := wp_callS (As := [.int x0]) rfl dX11_convert_8 rfl rfl rfl ⟨rfl, Nat.le_of_ble_eq_true rfl, Nat.le_of_ble_eq_true rfl⟩ rfl hS
theorem sX11_convert_11 : Wp mX11_convert d 11 L (.int x :: S) M N P Q = (if x = 0 then Wp mX11_convert d 24 L S M N P Q else Wp mX11_convert d 14 L S M N P Q) := wp_if_eq rfl dX11_convert_11 rfl
theorem sX11_convert_14 : Wp mX11_convert d 14 (.ref r :: L) S M N P Q = Wp mX11_convert d 15 (.ref r :: L) (.ref r :: S) M N P Q := wp_aload_n rfl dX11_convert_14 rfl
theorem sX11_convert_15 (hs : shk r = (11, 0)) : Wp mX11_convert d 15 L (.ref r :: S) M N P Q = Wp mX11_convert d 18 L (.ref (P r 3) :: S) M N P Q := wp_getfield rfl dX11_convert_15 rfl rfl hs rfl
theorem sX11_convert_18 : Wp mX11_convert d 18 (a0 :: a1 :: .int x :: L) S M N P Q = Wp mX11_convert d 19 (a0 :: a1 :: .int x :: L) (.int x :: S) M N P Q := wp_iload_n rfl dX11_convert_18 rfl
theorem sX11_convert_19 (hs : (shk r).1 = 100) : Wp mX11_convert d 19 L (.int j :: .ref r :: S) M N P Q = (vp_in j (shk r).2 ∧ Wp mX11_convert d 20 L (.int (M r j.toNatClampNeg) :: S) M N P Q) := wp_iaload rfl dX11_convert_19 (kd hs)
theorem sX11_convert_20 : Wp mX11_convert d 20 L S M N P Q = Wp mX11_convert d 21 L (.int 1 :: S) M N P Q := wp_iconst rfl dX11_convert_20 rfl
theorem sX11_convert_21 : Wp mX11_convert d 21 L (.int z :: .int x :: S) M N P Q = (if z ≤ x then Wp mX11_convert d 28 L S M N P Q else Wp mX11_convert d 24 L S M N P Q) := wp_icmp_ge rfl dX11_convert_21 rfl
theorem sX11_convert_24 : Wp mX11_convert d 24 L S M N P Q = Wp mX11_convert d 27 L (.long (-1) :: S) M N P Q := wp_ldc2_w rfl dX11_convert_24 rfl rfl
theorem sX11_convert_27 : Wp mX11_convert d 27 L [.long lx] M N P Q = Q (some (.long lx)) M N P := wp_lret rfl dX11_convert_27 rfl
theorem sX11_convert_28 : Wp mX11_convert d 28 (a0 :: .int x :: L) S M N P Q = Wp mX11_convert d 29 (a0 :: .int x :: L) (.int x :: S) M N P Q := wp_iload_n rfl dX11_convert_28 rfl
theorem sX11_convert_29 : Wp mX11_convert d 29 L (.int x :: S) M N P Q = Wp mX11_convert d 30 L (.long x.toInt64 :: S) M N P Q := wp_i2l rfl dX11_convert_29
theorem sX11_convert_30 : Wp mX11_convert d 30 (.ref r :: L) S M N P Q = Wp mX11_convert d 31 (.ref r :: L) (.ref r :: S) M N P Q := wp_aload_n rfl dX11_convert_30 rfl
theorem sX11_convert_31 (hs : shk r = (11, 0)) : Wp mX11_convert d 31 L (.ref r :: S) M N P Q = Wp mX11_convert d 34 L (.ref (P r 3) :: S) M N P Q := wp_getfield rfl dX11_convert_31 rfl rfl hs rfl
theorem sX11_convert_34 : Wp mX11_convert d 34 (a0 :: a1 :: a2 :: .int x :: L) S M N P Q = Wp mX11_convert d 35 (a0 :: a1 :: a2 :: .int x :: L) (.int x :: S) M N P Q := wp_iload_n rfl dX11_convert_34 rfl
theorem sX11_convert_35 (hs : (shk r).1 = 100) : Wp mX11_convert d 35 L (.int j :: .ref r :: S) M N P Q = (vp_in j (shk r).2 ∧ Wp mX11_convert d 36 L (.int (M r j.toNatClampNeg) :: S) M N P Q) := wp_iaload rfl dX11_convert_35 (kd hs)
theorem sX11_convert_36 : Wp mX11_convert d 36 L (.int x :: S) M N P Q = Wp mX11_convert d 37 L (.long x.toInt64 :: S) M N P Q := wp_i2l rfl dX11_convert_36
theorem sX11_convert_37 : Wp mX11_convert d 37 L (.long lz :: .long lx :: S) M N P Q = Wp mX11_convert d 38 L (.long (lx * lz) :: S) M N P Q := wp_lmul rfl dX11_convert_37
theorem sX11_convert_38 : Wp mX11_convert d 38 (.ref r :: L) S M N P Q = Wp mX11_convert d 39 (.ref r :: L) (.ref r :: S) M N P Q := wp_aload_n rfl dX11_convert_38 rfl
theorem sX11_convert_39 (hs : shk r = (11, 0)) : Wp mX11_convert d 39 L (.ref r :: S) M N P Q = Wp mX11_convert d 42 L (.ref (P r 3) :: S) M N P Q := wp_getfield rfl dX11_convert_39 rfl rfl hs rfl
theorem sX11_convert_42 : Wp mX11_convert d 42 (a0 :: a1 :: .int x :: L) S M N P Q = Wp mX11_convert d 43 (a0 :: a1 :: .int x :: L) (.int x :: S) M N P Q := wp_iload_n rfl dX11_convert_42 rfl
theorem sX11_convert_43 (hs : (shk r).1 = 100) : Wp mX11_convert d 43 L (.int j :: .ref r :: S) M N P Q = (vp_in j (shk r).2 ∧ Wp mX11_convert d 44 L (.int (M r j.toNatClampNeg) :: S) M N P Q) := wp_iaload rfl dX11_convert_43 (kd hs)
theorem sX11_convert_44 : Wp mX11_convert d 44 L (.int x :: S) M N P Q = Wp mX11_convert d 45 L (.long x.toInt64 :: S) M N P Q := wp_i2l rfl dX11_convert_44
theorem sX11_convert_45 : Wp mX11_convert d 45 L (.long lz :: .long lx :: S) M N P Q = (¬ lz = 0 ∧ Wp mX11_convert d 46 L (.long (lx / lz) :: S) M N P Q) := wp_ldiv rfl dX11_convert_45
theorem sX11_convert_46 : Wp mX11_convert d 46 L [.long lx] M N P Q = Q (some (.long lx)) M N P := wp_lret rfl dX11_convert_46 rfl
theorem sX11_weigh_0 : Wp mX11_weigh d 0 (.ref r :: L) S M N P Q = Wp mX11_weigh d 1 (.ref r :: L) (.ref r :: S) M N P Q := wp_aload_n rfl dX11_weigh_0 rfl
theorem sX11_weigh_1 (hs : shk r = (11, 0)) : Wp mX11_weigh d 1 L (.ref r :: S) M N P Q = Wp mX11_weigh d 4 L (.ref (P r 6) :: S) M N P Q := wp_getfield rfl dX11_weigh_1 rfl rfl hs rfl
theorem sX11_weigh_4 : Wp mX11_weigh d 4 (a0 :: .int x :: L) S M N P Q = Wp mX11_weigh d 5 (a0 :: .int x :: L) (.int x :: S) M N P Q := wp_iload_n rfl dX11_weigh_4 rfl
theorem sX11_weigh_5 {x0 : Int32} (hs : shk r = (0, 0)) (hS : stk S ≤ 8) : Wp mX11_weigh (d + 1) 5 L (.int x0 :: .ref r :: S) M N P Q = Wp mX0_has d 0 [.ref r, .int x0] [] M N P (fun v M' N' P' => Wp mX11_weigh (d + 1) 8 L (v.toList ++ S) M' N' P' Q) := wp_callV (As := [.int x0]) rfl dX11_weigh_5 rfl rfl (Or.inl ⟨_, _, _, hs, rfl⟩) rfl ⟨rfl, Nat.le_of_ble_eq_true rfl, Nat.le_of_ble_eq_true rfl⟩ rfl hS
theorem sX11_weigh_8 : Wp mX11_weigh d 8 L (.int x :: S) M N P Q = (if x = 0 then Wp mX11_weigh d 11 L S M N P Q else Wp mX11_weigh d 13 L S M N P Q) := wp_if_ne rfl dX11_weigh_8 rfl
theorem sX11_weigh_11 : Wp mX11_weigh d 11 L S M N P Q = Wp mX11_weigh d 12 L (.int 0 :: S) M N P Q := wp_iconst rfl dX11_weigh_11 rfl
theorem sX11_weigh_12 (hb : bit x) : Wp mX11_weigh d 12 L [.int x] M N P Q = Q (some (.int x)) M N P := wp_iret rfl dX11_weigh_12 rfl (bit_n hb)
theorem sX11_weigh_13 : Wp mX11_weigh d 13 (.ref r :: L) S M N P Q = Wp mX11_weigh d 14 (.ref r :: L) (.ref r :: S) M N P Q := wp_aload_n rfl dX11_weigh_13 rfl
theorem sX11_weigh_14 (hs : shk r = (11, 0)) : Wp mX11_weigh d 14 L (.ref r :: S) M N P Q = Wp mX11_weigh d 17 L (.ref (P r 6) :: S) M N P Q := wp_getfield rfl dX11_weigh_14 rfl rfl hs rfl
theorem sX11_weigh_17 (hs : shk r = (0, 0)) : Wp mX11_weigh d 17 L (.ref r :: S) M N P Q = Wp mX11_weigh d 20 L (.ref (P r 0) :: S) M N P Q := wp_getfield rfl dX11_weigh_17 rfl rfl hs rfl
theorem sX11_weigh_20 : Wp mX11_weigh d 20 (a0 :: .int x :: L) S M N P Q = Wp mX11_weigh d 21 (a0 :: .int x :: L) (.int x :: S) M N P Q := wp_iload_n rfl dX11_weigh_20 rfl
theorem sX11_weigh_21 (hs : (shk r).1 = 100) : Wp mX11_weigh d 21 L (.int j :: .ref r :: S) M N P Q = (vp_in j (shk r).2 ∧ Wp mX11_weigh d 22 L (.int (M r j.toNatClampNeg) :: S) M N P Q) := wp_iaload rfl dX11_weigh_21 (kd hs)
theorem sX11_weigh_22 (hn : nl a2 = true) : Wp mX11_weigh d 22 (a0 :: a1 :: a2 :: a3 :: L) (.int x :: S) M N P Q = Wp mX11_weigh d 23 (a0 :: a1 :: a2 :: .int x :: L) S M N P Q := wp_istore_n rfl dX11_weigh_22 (lenGt3 ..) (okst3 hn) rfl
theorem sX11_weigh_23 : Wp mX11_weigh d 23 (.ref r :: L) S M N P Q = Wp mX11_weigh d 24 (.ref r :: L) (.ref r :: S) M N P Q := wp_aload_n rfl dX11_weigh_23 rfl
theorem sX11_weigh_24 (hs : shk r = (11, 0)) : Wp mX11_weigh d 24 L (.ref r :: S) M N P Q = Wp mX11_weigh d 27 L (.ref (P r 4) :: S) M N P Q := wp_getfield rfl dX11_weigh_24 rfl rfl hs rfl
theorem sX11_weigh_27 : Wp mX11_weigh d 27 (a0 :: a1 :: a2 :: .int x :: L) S M N P Q = Wp mX11_weigh d 28 (a0 :: a1 :: a2 :: .int x :: L) (.int x :: S) M N P Q := wp_iload_n rfl dX11_weigh_27 rfl
theorem sX11_weigh_28 : Wp mX11_weigh d 28 (a0 :: a1 :: .int x :: L) S M N P Q = Wp mX11_weigh d 29 (a0 :: a1 :: .int x :: L) (.int x :: S) M N P Q := wp_iload_n rfl dX11_weigh_28 rfl
theorem sX11_weigh_29 {x0 : Int32} {x1 : Int32} (hs : shk r = (3, 0)) (hS : stk S ≤ 8) : Wp mX11_weigh (d + 1) 29 L (.int x1 :: .int x0 :: .ref r :: S) M N P Q = Wp mX3_countsOn d 0 [.ref r, .int x0, .int x1] [] M N P (fun v M' N' P' => Wp mX11_weigh (d + 1) 32 L (v.toList ++ S) M' N' P' Q) := wp_callV (As := [.int x0, .int x1]) rfl dX11_weigh_29 rfl rfl (Or.inl ⟨_, _, _, hs, rfl⟩) rfl ⟨rfl, Nat.le_of_ble_eq_true rfl, Nat.le_of_ble_eq_true rfl⟩ rfl hS
theorem sX11_weigh_32 : Wp mX11_weigh d 32 L (.int x :: S) M N P Q = (if x = 0 then Wp mX11_weigh d 35 L S M N P Q else Wp mX11_weigh d 37 L S M N P Q) := wp_if_ne rfl dX11_weigh_32 rfl
theorem sX11_weigh_35 : Wp mX11_weigh d 35 L S M N P Q = Wp mX11_weigh d 36 L (.int 0 :: S) M N P Q := wp_iconst rfl dX11_weigh_35 rfl
theorem sX11_weigh_36 (hb : bit x) : Wp mX11_weigh d 36 L [.int x] M N P Q = Q (some (.int x)) M N P := wp_iret rfl dX11_weigh_36 rfl (bit_n hb)
theorem sX11_weigh_37 : Wp mX11_weigh d 37 (.ref r :: L) S M N P Q = Wp mX11_weigh d 38 (.ref r :: L) (.ref r :: S) M N P Q := wp_aload_n rfl dX11_weigh_37 rfl
theorem sX11_weigh_38 (hs : shk r = (11, 0)) : Wp mX11_weigh d 38 L (.ref r :: S) M N P Q = Wp mX11_weigh d 41 L (.ref (P r 4) :: S) M N P Q := wp_getfield rfl dX11_weigh_38 rfl rfl hs rfl
theorem sX11_weigh_41 (hs : shk r = (3, 0)) : Wp mX11_weigh d 41 L (.ref r :: S) M N P Q = Wp mX11_weigh d 44 L (.ref (P r 0) :: S) M N P Q := wp_getfield rfl dX11_weigh_41 rfl rfl hs rfl
theorem sX11_weigh_44 : Wp mX11_weigh d 44 (a0 :: a1 :: a2 :: .int x :: L) S M N P Q = Wp mX11_weigh d 45 (a0 :: a1 :: a2 :: .int x :: L) (.int x :: S) M N P Q := wp_iload_n rfl dX11_weigh_44 rfl
theorem sX11_weigh_45 (hs : (shk r).1 = 100) : Wp mX11_weigh d 45 L (.int j :: .ref r :: S) M N P Q = (vp_in j (shk r).2 ∧ Wp mX11_weigh d 46 L (.int (M r j.toNatClampNeg) :: S) M N P Q) := wp_iaload rfl dX11_weigh_45 (kd hs)
theorem sX11_weigh_46 (hn : nl a3 = true) : Wp mX11_weigh d 46 (a0 :: a1 :: a2 :: a3 :: a4 :: L) (.int x :: S) M N P Q = Wp mX11_weigh d 48 (a0 :: a1 :: a2 :: a3 :: .int x :: L) S M N P Q := wp_istore rfl dX11_weigh_46 (lenGt4 ..) (okst4 hn) rfl
theorem sX11_weigh_48 : Wp mX11_weigh d 48 (.ref r :: L) S M N P Q = Wp mX11_weigh d 49 (.ref r :: L) (.ref r :: S) M N P Q := wp_aload_n rfl dX11_weigh_48 rfl
theorem sX11_weigh_49 (hs : shk r = (11, 0)) : Wp mX11_weigh d 49 L (.ref r :: S) M N P Q = Wp mX11_weigh d 52 L (.ref (P r 5) :: S) M N P Q := wp_getfield rfl dX11_weigh_49 rfl rfl hs rfl
theorem sX11_weigh_52 : Wp mX11_weigh d 52 (a0 :: a1 :: a2 :: a3 :: .int x :: L) S M N P Q = Wp mX11_weigh d 54 (a0 :: a1 :: a2 :: a3 :: .int x :: L) (.int x :: S) M N P Q := wp_iload rfl dX11_weigh_52 rfl
theorem sX11_weigh_54 : Wp mX11_weigh d 54 L S M N P Q = Wp mX11_weigh d 56 L (.int (36499) :: S) M N P Q := wp_ldc rfl dX11_weigh_54 rfl rfl
theorem sX11_weigh_56 : Wp mX11_weigh d 56 (a0 :: a1 :: .int x :: L) S M N P Q = Wp mX11_weigh d 57 (a0 :: a1 :: .int x :: L) (.int x :: S) M N P Q := wp_iload_n rfl dX11_weigh_56 rfl
theorem sX11_weigh_57 : Wp mX11_weigh d 57 (a0 :: a1 :: a2 :: .int x :: L) S M N P Q = Wp mX11_weigh d 58 (a0 :: a1 :: a2 :: .int x :: L) (.int x :: S) M N P Q := wp_iload_n rfl dX11_weigh_57 rfl
theorem sX11_weigh_58 {x0 : Int32} {x1 : Int32} {x2 : Int32} {x3 : Int32} (hs : shk r = (10, 0)) (hS : stk S ≤ 8) : Wp mX11_weigh (d + 1) 58 L (.int x3 :: .int x2 :: .int x1 :: .int x0 :: .ref r :: S) M N P Q = Wp mX10_follow d 0 [.ref r, .int x0, .int x1, .int x2, .int x3, .float 0, .float 0, .float 0] [] M N P (fun v M' N' P' => Wp mX11_weigh (d + 1) 61 L (v.toList ++ S) M' N' P' Q) := wp_callV (As := [.int x0, .int x1, .int x2, .int x3]) rfl dX11_weigh_58 rfl rfl (Or.inl ⟨_, _, _, hs, rfl⟩) rfl ⟨rfl, Nat.le_of_ble_eq_true rfl, Nat.le_of_ble_eq_true rfl⟩ rfl hS
theorem sX11_weigh_61 : Wp mX11_weigh d 61 (.ref r :: L) S M N P Q = Wp mX11_weigh d 62 (.ref r :: L) (.ref r :: S) M N P Q := wp_aload_n rfl dX11_weigh_61 rfl
theorem sX11_weigh_62 (hs : shk r = (11, 0)) : Wp mX11_weigh d 62 L (.ref r :: S) M N P Q = Wp mX11_weigh d 65 L (.ref (P r 5) :: S) M N P Q := wp_getfield rfl dX11_weigh_62 rfl rfl hs rfl
theorem sX11_weigh_65 (hs : shk r = (10, 0)) : Wp mX11_weigh d 65 L (.ref r :: S) M N P Q = Wp mX11_weigh d 68 L (.int (M r 3) :: S) M N P Q := wp_getfield rfl dX11_weigh_65 rfl rfl hs rfl
theorem sX11_weigh_68 : Wp mX11_weigh d 68 L (.int x :: S) M N P Q = (if x = 0 then Wp mX11_weigh d 83 L S M N P Q else Wp mX11_weigh d 71 L S M N P Q) := wp_if_eq rfl dX11_weigh_68 rfl
theorem sX11_weigh_71 : Wp mX11_weigh d 71 (.ref r :: L) S M N P Q = Wp mX11_weigh d 72 (.ref r :: L) (.ref r :: S) M N P Q := wp_aload_n rfl dX11_weigh_71 rfl
theorem sX11_weigh_72 (hs : shk r = (11, 0)) : Wp mX11_weigh d 72 L (.ref r :: S) M N P Q = Wp mX11_weigh d 75 L (.ref (P r 2) :: S) M N P Q := wp_getfield rfl dX11_weigh_72 rfl rfl hs rfl
theorem sX11_weigh_75 : Wp mX11_weigh d 75 (a0 :: a1 :: a2 :: a3 :: .int x :: L) S M N P Q = Wp mX11_weigh d 77 (a0 :: a1 :: a2 :: a3 :: .int x :: L) (.int x :: S) M N P Q := wp_iload rfl dX11_weigh_75 rfl
theorem sX11_weigh_77 {x0 : Int32} (hs : shk r = (1, 0)) (hS : stk S ≤ 8) : Wp mX11_weigh (d + 1) 77 L (.int x0 :: .ref r :: S) M N P Q = Wp mX1_has d 0 [.ref r, .int x0] [] M N P (fun v M' N' P' => Wp mX11_weigh (d + 1) 80 L (v.toList ++ S) M' N' P' Q) := wp_callV (As := [.int x0]) rfl dX11_weigh_77 rfl rfl (Or.inl ⟨_, _, _, hs, rfl⟩) rfl ⟨rfl, Nat.le_of_ble_eq_true rfl, Nat.le_of_ble_eq_true rfl⟩ rfl hS
theorem sX11_weigh_80 : Wp mX11_weigh d 80 L (.int x :: S) M N P Q = (if x = 0 then Wp mX11_weigh d 83 L S M N P Q else Wp mX11_weigh d 85 L S M N P Q) := wp_if_ne rfl dX11_weigh_80 rfl
theorem sX11_weigh_83 : Wp mX11_weigh d 83 L S M N P Q = Wp mX11_weigh d 84 L (.int 0 :: S) M N P Q := wp_iconst rfl dX11_weigh_83 rfl
theorem sX11_weigh_84 (hb : bit x) : Wp mX11_weigh d 84 L [.int x] M N P Q = Q (some (.int x)) M N P := wp_iret rfl dX11_weigh_84 rfl (bit_n hb)
theorem sX11_weigh_85 : Wp mX11_weigh d 85 (.ref r :: L) S M N P Q = Wp mX11_weigh d 86 (.ref r :: L) (.ref r :: S) M N P Q := wp_aload_n rfl dX11_weigh_85 rfl
theorem sX11_weigh_86 (hs : shk r = (11, 0)) : Wp mX11_weigh d 86 L (.ref r :: S) M N P Q = Wp mX11_weigh d 89 L (.ref (P r 4) :: S) M N P Q := wp_getfield rfl dX11_weigh_86 rfl rfl hs rfl
theorem sX11_weigh_89 (hs : shk r = (3, 0)) : Wp mX11_weigh d 89 L (.ref r :: S) M N P Q = Wp mX11_weigh d 92 L (.ref (P r 3) :: S) M N P Q := wp_getfield rfl dX11_weigh_89 rfl rfl hs rfl
theorem sX11_weigh_92 : Wp mX11_weigh d 92 (a0 :: a1 :: a2 :: .int x :: L) S M N P Q = Wp mX11_weigh d 93 (a0 :: a1 :: a2 :: .int x :: L) (.int x :: S) M N P Q := wp_iload_n rfl dX11_weigh_92 rfl
theorem sX11_weigh_93 (hs : (shk r).1 = 100) : Wp mX11_weigh d 93 L (.int j :: .ref r :: S) M N P Q = (vp_in j (shk r).2 ∧ Wp mX11_weigh d 94 L (.int (M r j.toNatClampNeg) :: S) M N P Q) := wp_iaload rfl dX11_weigh_93 (kd hs)
theorem sX11_weigh_94 (hn : nl a4 = true) : Wp mX11_weigh d 94 (a0 :: a1 :: a2 :: a3 :: a4 :: a5 :: L) (.int x :: S) M N P Q = Wp mX11_weigh d 96 (a0 :: a1 :: a2 :: a3 :: a4 :: .int x :: L) S M N P Q := wp_istore rfl dX11_weigh_94 (lenGt5 ..) (okst5 hn) rfl
theorem sX11_weigh_96 : Wp mX11_weigh d 96 (.ref r :: L) S M N P Q = Wp mX11_weigh d 97 (.ref r :: L) (.ref r :: S) M N P Q := wp_aload_n rfl dX11_weigh_96 rfl
theorem sX11_weigh_97 (hs : shk r = (11, 0)) : Wp mX11_weigh d 97 L (.ref r :: S) M N P Q = Wp mX11_weigh d 100 L (.ref (P r 6) :: S) M N P Q := wp_getfield rfl dX11_weigh_97 rfl rfl hs rfl
theorem sX11_weigh_100 (hs : shk r = (0, 0)) : Wp mX11_weigh d 100 L (.ref r :: S) M N P Q = Wp mX11_weigh d 103 L (.ref (P r 1) :: S) M N P Q := wp_getfield rfl dX11_weigh_100 rfl rfl hs rfl
theorem sX11_weigh_103 (hn : nl a5 = true) : Wp mX11_weigh d 103 (a0 :: a1 :: a2 :: a3 :: a4 :: a5 :: a6 :: L) (.ref r :: S) M N P Q = Wp mX11_weigh d 105 (a0 :: a1 :: a2 :: a3 :: a4 :: a5 :: .ref r :: L) S M N P Q := wp_astore rfl dX11_weigh_103 (lenGt6 ..) (okst6 hn) rfl
theorem sX11_weigh_105 : Wp mX11_weigh d 105 (a0 :: a1 :: a2 :: a3 :: a4 :: a5 :: .ref r :: L) S M N P Q = Wp mX11_weigh d 107 (a0 :: a1 :: a2 :: a3 :: a4 :: a5 :: .ref r :: L) (.ref r :: S) M N P Q := wp_aload rfl dX11_weigh_105 rfl
theorem sX11_weigh_107 : Wp mX11_weigh d 107 L S M N P Q = Wp mX11_weigh d 108 L (.int 0 :: S) M N P Q := wp_iconst rfl dX11_weigh_107 rfl
theorem sX11_weigh_108 : Wp mX11_weigh d 108 (.ref r :: L) S M N P Q = Wp mX11_weigh d 109 (.ref r :: L) (.ref r :: S) M N P Q := wp_aload_n rfl dX11_weigh_108 rfl
theorem sX11_weigh_109 (hs : shk r = (11, 0)) : Wp mX11_weigh d 109 L (.ref r :: S) M N P Q = Wp mX11_weigh d 112 L (.ref (P r 4) :: S) M N P Q := wp_getfield rfl dX11_weigh_109 rfl rfl hs rfl
theorem sX11_weigh_112 (hs : shk r = (3, 0)) : Wp mX11_weigh d 112 L (.ref r :: S) M N P Q = Wp mX11_weigh d 115 L (.ref (P r 4) :: S) M N P Q := wp_getfield rfl dX11_weigh_112 rfl rfl hs rfl
theorem sX11_weigh_115 : Wp mX11_weigh d 115 (a0 :: a1 :: a2 :: .int x :: L) S M N P Q = Wp mX11_weigh d 116 (a0 :: a1 :: a2 :: .int x :: L) (.int x :: S) M N P Q := wp_iload_n rfl dX11_weigh_115 rfl
theorem sX11_weigh_116 (hs : (shk r).1 = 100) : Wp mX11_weigh d 116 L (.int j :: .ref r :: S) M N P Q = (vp_in j (shk r).2 ∧ Wp mX11_weigh d 117 L (.int (M r j.toNatClampNeg) :: S) M N P Q) := wp_iaload rfl dX11_weigh_116 (kd hs)
theorem sX11_weigh_117 : Wp mX11_weigh d 117 L S M N P Q = Wp mX11_weigh d 118 L (.int 1 :: S) M N P Q := wp_iconst rfl dX11_weigh_117 rfl
theorem sX11_weigh_118 : Wp mX11_weigh d 118 L (.int z :: .int x :: S) M N P Q = (if x = z then Wp mX11_weigh d 121 L S M N P Q else Wp mX11_weigh d 125 L S M N P Q) := wp_icmp_ne rfl dX11_weigh_118 rfl
theorem sX11_weigh_121 : Wp mX11_weigh d 121 L S M N P Q = Wp mX11_weigh d 122 L (.int 1 :: S) M N P Q := wp_iconst rfl dX11_weigh_121 rfl
theorem sX11_weigh_122 : Wp mX11_weigh d 122 L S M N P Q = Wp mX11_weigh d 126 L S M N P Q := wp_goto rfl dX11_weigh_122 rfl
theorem sX11_weigh_125 : Wp mX11_weigh d 125 L S M N P Q = Wp mX11_weigh d 126 L (.int 0 :: S) M N P Q := wp_iconst rfl dX11_weigh_125 rfl
theorem sX11_weigh_126 {x0 : Int32} (hS : stk S ≤ 8) : Wp mX11_weigh (d + 1) 126 L (.int x0 :: S) M N P Q = Wp mX11_truth d 0 [.int x0] [] M N P (fun v M' N' P' => Wp mX11_weigh (d + 1) 129 L (v.toList ++ S) M' N' P' Q) := wp_callS (As := [.int x0]) rfl dX11_weigh_126 rfl rfl rfl ⟨rfl, Nat.le_of_ble_eq_true rfl, Nat.le_of_ble_eq_true rfl⟩ rfl hS
theorem sX11_weigh_129 (hs : (shk r).1 = 100) : Wp mX11_weigh d 129 L (.int x :: .int j :: .ref r :: S) M N P Q = (vp_in j (shk r).2 ∧ Wp mX11_weigh d 130 L S (up2 M r j.toNatClampNeg x) N P Q) := wp_iastore rfl dX11_weigh_129 (kd hs)
theorem sX11_weigh_130 : Wp mX11_weigh d 130 (a0 :: a1 :: a2 :: a3 :: a4 :: a5 :: .ref r :: L) S M N P Q = Wp mX11_weigh d 132 (a0 :: a1 :: a2 :: a3 :: a4 :: a5 :: .ref r :: L) (.ref r :: S) M N P Q := wp_aload rfl dX11_weigh_130 rfl
theorem sX11_weigh_132 : Wp mX11_weigh d 132 L S M N P Q = Wp mX11_weigh d 133 L (.int 1 :: S) M N P Q := wp_iconst rfl dX11_weigh_132 rfl
theorem sX11_weigh_133 : Wp mX11_weigh d 133 (.ref r :: L) S M N P Q = Wp mX11_weigh d 134 (.ref r :: L) (.ref r :: S) M N P Q := wp_aload_n rfl dX11_weigh_133 rfl
theorem sX11_weigh_134 (hs : shk r = (11, 0)) : Wp mX11_weigh d 134 L (.ref r :: S) M N P Q = Wp mX11_weigh d 137 L (.ref (P r 4) :: S) M N P Q := wp_getfield rfl dX11_weigh_134 rfl rfl hs rfl
theorem sX11_weigh_137 (hs : shk r = (3, 0)) : Wp mX11_weigh d 137 L (.ref r :: S) M N P Q = Wp mX11_weigh d 140 L (.ref (P r 4) :: S) M N P Q := wp_getfield rfl dX11_weigh_137 rfl rfl hs rfl
theorem sX11_weigh_140 : Wp mX11_weigh d 140 (a0 :: a1 :: a2 :: .int x :: L) S M N P Q = Wp mX11_weigh d 141 (a0 :: a1 :: a2 :: .int x :: L) (.int x :: S) M N P Q := wp_iload_n rfl dX11_weigh_140 rfl
theorem sX11_weigh_141 (hs : (shk r).1 = 100) : Wp mX11_weigh d 141 L (.int j :: .ref r :: S) M N P Q = (vp_in j (shk r).2 ∧ Wp mX11_weigh d 142 L (.int (M r j.toNatClampNeg) :: S) M N P Q) := wp_iaload rfl dX11_weigh_141 (kd hs)
theorem sX11_weigh_142 : Wp mX11_weigh d 142 L S M N P Q = Wp mX11_weigh d 143 L (.int 2 :: S) M N P Q := wp_iconst rfl dX11_weigh_142 rfl
theorem sX11_weigh_143 : Wp mX11_weigh d 143 L (.int z :: .int x :: S) M N P Q = (if x = z then Wp mX11_weigh d 146 L S M N P Q else Wp mX11_weigh d 150 L S M N P Q) := wp_icmp_ne rfl dX11_weigh_143 rfl
theorem sX11_weigh_146 : Wp mX11_weigh d 146 L S M N P Q = Wp mX11_weigh d 147 L (.int 1 :: S) M N P Q := wp_iconst rfl dX11_weigh_146 rfl
theorem sX11_weigh_147 : Wp mX11_weigh d 147 L S M N P Q = Wp mX11_weigh d 151 L S M N P Q := wp_goto rfl dX11_weigh_147 rfl
theorem sX11_weigh_150 : Wp mX11_weigh d 150 L S M N P Q = Wp mX11_weigh d 151 L (.int 0 :: S) M N P Q := wp_iconst rfl dX11_weigh_150 rfl
theorem sX11_weigh_151 {x0 : Int32} (hS : stk S ≤ 8) : Wp mX11_weigh (d + 1) 151 L (.int x0 :: S) M N P Q = Wp mX11_truth d 0 [.int x0] [] M N P (fun v M' N' P' => Wp mX11_weigh (d + 1) 154 L (v.toList ++ S) M' N' P' Q) := wp_callS (As := [.int x0]) rfl dX11_weigh_151 rfl rfl rfl ⟨rfl, Nat.le_of_ble_eq_true rfl, Nat.le_of_ble_eq_true rfl⟩ rfl hS
theorem sX11_weigh_154 (hs : (shk r).1 = 100) : Wp mX11_weigh d 154 L (.int x :: .int j :: .ref r :: S) M N P Q = (vp_in j (shk r).2 ∧ Wp mX11_weigh d 155 L S (up2 M r j.toNatClampNeg x) N P Q) := wp_iastore rfl dX11_weigh_154 (kd hs)
theorem sX11_weigh_155 : Wp mX11_weigh d 155 (a0 :: a1 :: a2 :: a3 :: a4 :: a5 :: .ref r :: L) S M N P Q = Wp mX11_weigh d 157 (a0 :: a1 :: a2 :: a3 :: a4 :: a5 :: .ref r :: L) (.ref r :: S) M N P Q := wp_aload rfl dX11_weigh_155 rfl
theorem sX11_weigh_157 : Wp mX11_weigh d 157 L S M N P Q = Wp mX11_weigh d 158 L (.int 2 :: S) M N P Q := wp_iconst rfl dX11_weigh_157 rfl
theorem sX11_weigh_158 : Wp mX11_weigh d 158 (.ref r :: L) S M N P Q = Wp mX11_weigh d 159 (.ref r :: L) (.ref r :: S) M N P Q := wp_aload_n rfl dX11_weigh_158 rfl
theorem sX11_weigh_159 : Wp mX11_weigh d 159 (a0 :: a1 :: a2 :: .int x :: L) S M N P Q = Wp mX11_weigh d 160 (a0 :: a1 :: a2 :: .int x :: L) (.int x :: S) M N P Q := wp_iload_n rfl dX11_weigh_159 rfl
theorem sX11_weigh_160 {x0 : Int32} (hs : shk r = (11, 0)) (hS : stk S ≤ 8) : Wp mX11_weigh (d + 1) 160 L (.int x0 :: .ref r :: S) M N P Q = Wp mX11_priceOfLastYear d 0 [.ref r, .int x0, .float 0] [] M N P (fun v M' N' P' => Wp mX11_weigh (d + 1) 163 L (v.toList ++ S) M' N' P' Q) := wp_callV (As := [.int x0]) rfl dX11_weigh_160 rfl rfl (Or.inl ⟨_, _, _, hs, rfl⟩) rfl ⟨rfl, Nat.le_of_ble_eq_true rfl, Nat.le_of_ble_eq_true rfl⟩ rfl hS
theorem sX11_weigh_163 (hs : (shk r).1 = 100) : Wp mX11_weigh d 163 L (.int x :: .int j :: .ref r :: S) M N P Q = (vp_in j (shk r).2 ∧ Wp mX11_weigh d 164 L S (up2 M r j.toNatClampNeg x) N P Q) := wp_iastore rfl dX11_weigh_163 (kd hs)
theorem sX11_weigh_164 : Wp mX11_weigh d 164 (a0 :: a1 :: a2 :: a3 :: a4 :: a5 :: .ref r :: L) S M N P Q = Wp mX11_weigh d 166 (a0 :: a1 :: a2 :: a3 :: a4 :: a5 :: .ref r :: L) (.ref r :: S) M N P Q := wp_aload rfl dX11_weigh_164 rfl
theorem sX11_weigh_166 : Wp mX11_weigh d 166 L S M N P Q = Wp mX11_weigh d 167 L (.int 3 :: S) M N P Q := wp_iconst rfl dX11_weigh_166 rfl
theorem sX11_weigh_167 : Wp mX11_weigh d 167 (.ref r :: L) S M N P Q = Wp mX11_weigh d 168 (.ref r :: L) (.ref r :: S) M N P Q := wp_aload_n rfl dX11_weigh_167 rfl
theorem sX11_weigh_168 (hs : shk r = (11, 0)) : Wp mX11_weigh d 168 L (.ref r :: S) M N P Q = Wp mX11_weigh d 171 L (.ref (P r 2) :: S) M N P Q := wp_getfield rfl dX11_weigh_168 rfl rfl hs rfl
theorem sX11_weigh_171 (hs : shk r = (1, 0)) : Wp mX11_weigh d 171 L (.ref r :: S) M N P Q = Wp mX11_weigh d 174 L (.ref (P r 1) :: S) M N P Q := wp_getfield rfl dX11_weigh_171 rfl rfl hs rfl
theorem sX11_weigh_174 : Wp mX11_weigh d 174 (a0 :: a1 :: a2 :: a3 :: .int x :: L) S M N P Q = Wp mX11_weigh d 176 (a0 :: a1 :: a2 :: a3 :: .int x :: L) (.int x :: S) M N P Q := wp_iload rfl dX11_weigh_174 rfl
theorem sX11_weigh_176 (hs : (shk r).1 = 100) : Wp mX11_weigh d 176 L (.int j :: .ref r :: S) M N P Q = (vp_in j (shk r).2 ∧ Wp mX11_weigh d 177 L (.int (M r j.toNatClampNeg) :: S) M N P Q) := wp_iaload rfl dX11_weigh_176 (kd hs)
theorem sX11_weigh_177 (hs : (shk r).1 = 100) : Wp mX11_weigh d 177 L (.int x :: .int j :: .ref r :: S) M N P Q = (vp_in j (shk r).2 ∧ Wp mX11_weigh d 178 L S (up2 M r j.toNatClampNeg x) N P Q) := wp_iastore rfl dX11_weigh_177 (kd hs)
theorem sX11_weigh_178 : Wp mX11_weigh d 178 (a0 :: a1 :: a2 :: a3 :: a4 :: a5 :: .ref r :: L) S M N P Q = Wp mX11_weigh d 180 (a0 :: a1 :: a2 :: a3 :: a4 :: a5 :: .ref r :: L) (.ref r :: S) M N P Q := wp_aload rfl dX11_weigh_178 rfl
theorem sX11_weigh_180 : Wp mX11_weigh d 180 L S M N P Q = Wp mX11_weigh d 181 L (.int 4 :: S) M N P Q := wp_iconst rfl dX11_weigh_180 rfl
theorem sX11_weigh_181 : Wp mX11_weigh d 181 (a0 :: a1 :: a2 :: a3 :: a4 :: .int x :: L) S M N P Q = Wp mX11_weigh d 183 (a0 :: a1 :: a2 :: a3 :: a4 :: .int x :: L) (.int x :: S) M N P Q := wp_iload rfl dX11_weigh_181 rfl
theorem sX11_weigh_183 : Wp mX11_weigh d 183 L S M N P Q = Wp mX11_weigh d 186 L (.int 365 :: S) M N P Q := wp_sipush rfl dX11_weigh_183 rfl
theorem sX11_weigh_186 : Wp mX11_weigh d 186 L (.int z :: .int x :: S) M N P Q = (¬ z = 0 ∧ Wp mX11_weigh d 187 L (.int (x / z) :: S) M N P Q) := wp_idiv rfl dX11_weigh_186
theorem sX11_weigh_187 (hs : (shk r).1 = 100) : Wp mX11_weigh d 187 L (.int x :: .int j :: .ref r :: S) M N P Q = (vp_in j (shk r).2 ∧ Wp mX11_weigh d 188 L S (up2 M r j.toNatClampNeg x) N P Q) := wp_iastore rfl dX11_weigh_187 (kd hs)
theorem sX11_weigh_188 : Wp mX11_weigh d 188 (a0 :: a1 :: a2 :: a3 :: a4 :: a5 :: .ref r :: L) S M N P Q = Wp mX11_weigh d 190 (a0 :: a1 :: a2 :: a3 :: a4 :: a5 :: .ref r :: L) (.ref r :: S) M N P Q := wp_aload rfl dX11_weigh_188 rfl
theorem sX11_weigh_190 : Wp mX11_weigh d 190 L S M N P Q = Wp mX11_weigh d 191 L (.int 5 :: S) M N P Q := wp_iconst rfl dX11_weigh_190 rfl
theorem sX11_weigh_191 : Wp mX11_weigh d 191 (a0 :: a1 :: a2 :: a3 :: a4 :: .int x :: L) S M N P Q = Wp mX11_weigh d 193 (a0 :: a1 :: a2 :: a3 :: a4 :: .int x :: L) (.int x :: S) M N P Q := wp_iload rfl dX11_weigh_191 rfl
theorem sX11_weigh_193 : Wp mX11_weigh d 193 (.ref r :: L) S M N P Q = Wp mX11_weigh d 194 (.ref r :: L) (.ref r :: S) M N P Q := wp_aload_n rfl dX11_weigh_193 rfl
theorem sX11_weigh_194 (hs : shk r = (11, 0)) : Wp mX11_weigh d 194 L (.ref r :: S) M N P Q = Wp mX11_weigh d 197 L (.ref (P r 5) :: S) M N P Q := wp_getfield rfl dX11_weigh_194 rfl rfl hs rfl
theorem sX11_weigh_197 (hs : shk r = (10, 0)) : Wp mX11_weigh d 197 L (.ref r :: S) M N P Q = Wp mX11_weigh d 200 L (.int (M r 4) :: S) M N P Q := wp_getfield rfl dX11_weigh_197 rfl rfl hs rfl
theorem sX11_weigh_200 : Wp mX11_weigh d 200 L (.int z :: .int x :: S) M N P Q = Wp mX11_weigh d 201 L (.int (x - z) :: S) M N P Q := wp_isub rfl dX11_weigh_200
theorem sX11_weigh_201 : Wp mX11_weigh d 201 L S M N P Q = Wp mX11_weigh d 204 L (.int 365 :: S) M N P Q := wp_sipush rfl dX11_weigh_201 rfl
theorem sX11_weigh_204 : Wp mX11_weigh d 204 L (.int z :: .int x :: S) M N P Q = (¬ z = 0 ∧ Wp mX11_weigh d 205 L (.int (x / z) :: S) M N P Q) := wp_idiv rfl dX11_weigh_204
theorem sX11_weigh_205 (hs : (shk r).1 = 100) : Wp mX11_weigh d 205 L (.int x :: .int j :: .ref r :: S) M N P Q = (vp_in j (shk r).2 ∧ Wp mX11_weigh d 206 L S (up2 M r j.toNatClampNeg x) N P Q) := wp_iastore rfl dX11_weigh_205 (kd hs)
theorem sX11_weigh_206 : Wp mX11_weigh d 206 (a0 :: a1 :: a2 :: a3 :: a4 :: a5 :: .ref r :: L) S M N P Q = Wp mX11_weigh d 208 (a0 :: a1 :: a2 :: a3 :: a4 :: a5 :: .ref r :: L) (.ref r :: S) M N P Q := wp_aload rfl dX11_weigh_206 rfl
theorem sX11_weigh_208 : Wp mX11_weigh d 208 L S M N P Q = Wp mX11_weigh d 210 L (.int 6 :: S) M N P Q := wp_bipush rfl dX11_weigh_208 rfl
theorem sX11_weigh_210 : Wp mX11_weigh d 210 (.ref r :: L) S M N P Q = Wp mX11_weigh d 211 (.ref r :: L) (.ref r :: S) M N P Q := wp_aload_n rfl dX11_weigh_210 rfl
theorem sX11_weigh_211 (hs : shk r = (11, 0)) : Wp mX11_weigh d 211 L (.ref r :: S) M N P Q = Wp mX11_weigh d 214 L (.ref (P r 5) :: S) M N P Q := wp_getfield rfl dX11_weigh_211 rfl rfl hs rfl
theorem sX11_weigh_214 (hs : shk r = (10, 0)) : Wp mX11_weigh d 214 L (.ref r :: S) M N P Q = Wp mX11_weigh d 217 L (.int (M r 5) :: S) M N P Q := wp_getfield rfl dX11_weigh_214 rfl rfl hs rfl
theorem sX11_weigh_217 (hs : (shk r).1 = 100) : Wp mX11_weigh d 217 L (.int x :: .int j :: .ref r :: S) M N P Q = (vp_in j (shk r).2 ∧ Wp mX11_weigh d 218 L S (up2 M r j.toNatClampNeg x) N P Q) := wp_iastore rfl dX11_weigh_217 (kd hs)
theorem sX11_weigh_218 : Wp mX11_weigh d 218 (a0 :: a1 :: a2 :: a3 :: a4 :: a5 :: .ref r :: L) S M N P Q = Wp mX11_weigh d 220 (a0 :: a1 :: a2 :: a3 :: a4 :: a5 :: .ref r :: L) (.ref r :: S) M N P Q := wp_aload rfl dX11_weigh_218 rfl
theorem sX11_weigh_220 : Wp mX11_weigh d 220 L S M N P Q = Wp mX11_weigh d 222 L (.int 7 :: S) M N P Q := wp_bipush rfl dX11_weigh_220 rfl
theorem sX11_weigh_222 : Wp mX11_weigh d 222 (.ref r :: L) S M N P Q = Wp mX11_weigh d 223 (.ref r :: L) (.ref r :: S) M N P Q := wp_aload_n rfl dX11_weigh_222 rfl
theorem sX11_weigh_223 (hs : shk r = (11, 0)) : Wp mX11_weigh d 223 L (.ref r :: S) M N P Q = Wp mX11_weigh d 226 L (.ref (P r 5) :: S) M N P Q := wp_getfield rfl dX11_weigh_223 rfl rfl hs rfl
theorem sX11_weigh_226 (hs : shk r = (10, 0)) : Wp mX11_weigh d 226 L (.ref r :: S) M N P Q = Wp mX11_weigh d 229 L (.int (M r 2) :: S) M N P Q := wp_getfield rfl dX11_weigh_226 rfl rfl hs rfl
theorem sX11_weigh_229 : Wp mX11_weigh d 229 (.ref r :: L) S M N P Q = Wp mX11_weigh d 230 (.ref r :: L) (.ref r :: S) M N P Q := wp_aload_n rfl dX11_weigh_229 rfl
theorem sX11_weigh_230 (hs : shk r = (11, 0)) : Wp mX11_weigh d 230 L (.ref r :: S) M N P Q = Wp mX11_weigh d 233 L (.ref (P r 4) :: S) M N P Q := wp_getfield rfl dX11_weigh_230 rfl rfl hs rfl
theorem sX11_weigh_233 (hs : shk r = (3, 0)) : Wp mX11_weigh d 233 L (.ref r :: S) M N P Q = Wp mX11_weigh d 236 L (.ref (P r 2) :: S) M N P Q := wp_getfield rfl dX11_weigh_233 rfl rfl hs rfl
theorem sX11_weigh_236 : Wp mX11_weigh d 236 (a0 :: a1 :: a2 :: .int x :: L) S M N P Q = Wp mX11_weigh d 237 (a0 :: a1 :: a2 :: .int x :: L) (.int x :: S) M N P Q := wp_iload_n rfl dX11_weigh_236 rfl
theorem sX11_weigh_237 (hs : (shk r).1 = 100) : Wp mX11_weigh d 237 L (.int j :: .ref r :: S) M N P Q = (vp_in j (shk r).2 ∧ Wp mX11_weigh d 238 L (.int (M r j.toNatClampNeg) :: S) M N P Q) := wp_iaload rfl dX11_weigh_237 (kd hs)
theorem sX11_weigh_238 : Wp mX11_weigh d 238 L (.int z :: .int x :: S) M N P Q = (if x = z then Wp mX11_weigh d 241 L S M N P Q else Wp mX11_weigh d 245 L S M N P Q) := wp_icmp_ne rfl dX11_weigh_238 rfl
theorem sX11_weigh_241 : Wp mX11_weigh d 241 L S M N P Q = Wp mX11_weigh d 242 L (.int 1 :: S) M N P Q := wp_iconst rfl dX11_weigh_241 rfl
theorem sX11_weigh_242 : Wp mX11_weigh d 242 L S M N P Q = Wp mX11_weigh d 246 L S M N P Q := wp_goto rfl dX11_weigh_242 rfl
theorem sX11_weigh_245 : Wp mX11_weigh d 245 L S M N P Q = Wp mX11_weigh d 246 L (.int 0 :: S) M N P Q := wp_iconst rfl dX11_weigh_245 rfl
theorem sX11_weigh_246 {x0 : Int32} (hS : stk S ≤ 8) : Wp mX11_weigh (d + 1) 246 L (.int x0 :: S) M N P Q = Wp mX11_truth d 0 [.int x0] [] M N P (fun v M' N' P' => Wp mX11_weigh (d + 1) 249 L (v.toList ++ S) M' N' P' Q) := wp_callS (As := [.int x0]) rfl dX11_weigh_246 rfl rfl rfl ⟨rfl, Nat.le_of_ble_eq_true rfl, Nat.le_of_ble_eq_true rfl⟩ rfl hS
theorem sX11_weigh_249 (hs : (shk r).1 = 100) : Wp mX11_weigh d 249 L (.int x :: .int j :: .ref r :: S) M N P Q = (vp_in j (shk r).2 ∧ Wp mX11_weigh d 250 L S (up2 M r j.toNatClampNeg x) N P Q) := wp_iastore rfl dX11_weigh_249 (kd hs)
theorem sX11_weigh_250 : Wp mX11_weigh d 250 (a0 :: a1 :: a2 :: a3 :: a4 :: a5 :: .ref r :: L) S M N P Q = Wp mX11_weigh d 252 (a0 :: a1 :: a2 :: a3 :: a4 :: a5 :: .ref r :: L) (.ref r :: S) M N P Q := wp_aload rfl dX11_weigh_250 rfl
theorem sX11_weigh_252 : Wp mX11_weigh d 252 L S M N P Q = Wp mX11_weigh d 254 L (.int 8 :: S) M N P Q := wp_bipush rfl dX11_weigh_252 rfl
theorem sX11_weigh_254 : Wp mX11_weigh d 254 (.ref r :: L) S M N P Q = Wp mX11_weigh d 255 (.ref r :: L) (.ref r :: S) M N P Q := wp_aload_n rfl dX11_weigh_254 rfl
theorem sX11_weigh_255 (hs : shk r = (11, 0)) : Wp mX11_weigh d 255 L (.ref r :: S) M N P Q = Wp mX11_weigh d 258 L (.ref (P r 0) :: S) M N P Q := wp_getfield rfl dX11_weigh_255 rfl rfl hs rfl
theorem sX11_weigh_258 : Wp mX11_weigh d 258 (.ref r :: L) S M N P Q = Wp mX11_weigh d 259 (.ref r :: L) (.ref r :: S) M N P Q := wp_aload_n rfl dX11_weigh_258 rfl
theorem sX11_weigh_259 (hs : shk r = (11, 0)) : Wp mX11_weigh d 259 L (.ref r :: S) M N P Q = Wp mX11_weigh d 262 L (.ref (P r 4) :: S) M N P Q := wp_getfield rfl dX11_weigh_259 rfl rfl hs rfl
theorem sX11_weigh_262 (hs : shk r = (3, 0)) : Wp mX11_weigh d 262 L (.ref r :: S) M N P Q = Wp mX11_weigh d 265 L (.ref (P r 1) :: S) M N P Q := wp_getfield rfl dX11_weigh_262 rfl rfl hs rfl
theorem sX11_weigh_265 : Wp mX11_weigh d 265 (a0 :: a1 :: a2 :: .int x :: L) S M N P Q = Wp mX11_weigh d 266 (a0 :: a1 :: a2 :: .int x :: L) (.int x :: S) M N P Q := wp_iload_n rfl dX11_weigh_265 rfl
theorem sX11_weigh_266 (hs : (shk r).1 = 100) : Wp mX11_weigh d 266 L (.int j :: .ref r :: S) M N P Q = (vp_in j (shk r).2 ∧ Wp mX11_weigh d 267 L (.int (M r j.toNatClampNeg) :: S) M N P Q) := wp_iaload rfl dX11_weigh_266 (kd hs)
theorem sX11_weigh_267 : Wp mX11_weigh d 267 (a0 :: a1 :: .int x :: L) S M N P Q = Wp mX11_weigh d 268 (a0 :: a1 :: .int x :: L) (.int x :: S) M N P Q := wp_iload_n rfl dX11_weigh_267 rfl
theorem sX11_weigh_268 {x0 : Int32} {x1 : Int32} (hs : shk r = (5, 0)) (hS : stk S ≤ 8) : Wp mX11_weigh (d + 1) 268 L (.int x1 :: .int x0 :: .ref r :: S) M N P Q = Wp mX5_isDeadOn d 0 [.ref r, .int x0, .int x1] [] M N P (fun v M' N' P' => Wp mX11_weigh (d + 1) 271 L (v.toList ++ S) M' N' P' Q) := wp_callV (As := [.int x0, .int x1]) rfl dX11_weigh_268 rfl rfl (Or.inl ⟨_, _, _, hs, rfl⟩) rfl ⟨rfl, Nat.le_of_ble_eq_true rfl, Nat.le_of_ble_eq_true rfl⟩ rfl hS
theorem sX11_weigh_271 {x0 : Int32} (hS : stk S ≤ 8) : Wp mX11_weigh (d + 1) 271 L (.int x0 :: S) M N P Q = Wp mX11_truth d 0 [.int x0] [] M N P (fun v M' N' P' => Wp mX11_weigh (d + 1) 274 L (v.toList ++ S) M' N' P' Q) := wp_callS (As := [.int x0]) rfl dX11_weigh_271 rfl rfl rfl ⟨rfl, Nat.le_of_ble_eq_true rfl, Nat.le_of_ble_eq_true rfl⟩ rfl hS
theorem sX11_weigh_274 (hs : (shk r).1 = 100) : Wp mX11_weigh d 274 L (.int x :: .int j :: .ref r :: S) M N P Q = (vp_in j (shk r).2 ∧ Wp mX11_weigh d 275 L S (up2 M r j.toNatClampNeg x) N P Q) := wp_iastore rfl dX11_weigh_274 (kd hs)
theorem sX11_weigh_275 : Wp mX11_weigh d 275 L S M N P Q = Wp mX11_weigh d 276 L (.int 1 :: S) M N P Q := wp_iconst rfl dX11_weigh_275 rfl
theorem sX11_weigh_276 (hb : bit x) : Wp mX11_weigh d 276 L [.int x] M N P Q = Q (some (.int x)) M N P := wp_iret rfl dX11_weigh_276 rfl (bit_n hb)
theorem sX11_priceOfLastYear_0 : Wp mX11_priceOfLastYear d 0 (.ref r :: L) S M N P Q = Wp mX11_priceOfLastYear d 1 (.ref r :: L) (.ref r :: S) M N P Q := wp_aload_n rfl dX11_priceOfLastYear_0 rfl
theorem sX11_priceOfLastYear_1 (hs : shk r = (11, 0)) : Wp mX11_priceOfLastYear d 1 L (.ref r :: S) M N P Q = Wp mX11_priceOfLastYear d 4 L (.ref (P r 4) :: S) M N P Q := wp_getfield rfl dX11_priceOfLastYear_1 rfl rfl hs rfl
theorem sX11_priceOfLastYear_4 (hs : shk r = (3, 0)) : Wp mX11_priceOfLastYear d 4 L (.ref r :: S) M N P Q = Wp mX11_priceOfLastYear d 7 L (.ref (P r 3) :: S) M N P Q := wp_getfield rfl dX11_priceOfLastYear_4 rfl rfl hs rfl
theorem sX11_priceOfLastYear_7 : Wp mX11_priceOfLastYear d 7 (a0 :: .int x :: L) S M N P Q = Wp mX11_priceOfLastYear d 8 (a0 :: .int x :: L) (.int x :: S) M N P Q := wp_iload_n rfl dX11_priceOfLastYear_7 rfl
theorem sX11_priceOfLastYear_8 (hs : (shk r).1 = 100) : Wp mX11_priceOfLastYear d 8 L (.int j :: .ref r :: S) M N P Q = (vp_in j (shk r).2 ∧ Wp mX11_priceOfLastYear d 9 L (.int (M r j.toNatClampNeg) :: S) M N P Q) := wp_iaload rfl dX11_priceOfLastYear_8 (kd hs)
theorem sX11_priceOfLastYear_9 : Wp mX11_priceOfLastYear d 9 L S M N P Q = Wp mX11_priceOfLastYear d 12 L (.int 365 :: S) M N P Q := wp_sipush rfl dX11_priceOfLastYear_9 rfl
theorem sX11_priceOfLastYear_12 : Wp mX11_priceOfLastYear d 12 L (.int z :: .int x :: S) M N P Q = (¬ z = 0 ∧ Wp mX11_priceOfLastYear d 13 L (.int (x / z) :: S) M N P Q) := wp_idiv rfl dX11_priceOfLastYear_12
theorem sX11_priceOfLastYear_13 (hn : nl a1 = true) : Wp mX11_priceOfLastYear d 13 (a0 :: a1 :: a2 :: L) (.int x :: S) M N P Q = Wp mX11_priceOfLastYear d 14 (a0 :: a1 :: .int x :: L) S M N P Q := wp_istore_n rfl dX11_priceOfLastYear_13 (lenGt2 ..) (okst2 hn) rfl
theorem sX11_priceOfLastYear_14 : Wp mX11_priceOfLastYear d 14 (.ref r :: L) S M N P Q = Wp mX11_priceOfLastYear d 15 (.ref r :: L) (.ref r :: S) M N P Q := wp_aload_n rfl dX11_priceOfLastYear_14 rfl
theorem sX11_priceOfLastYear_15 : Wp mX11_priceOfLastYear d 15 (.ref r :: L) S M N P Q = Wp mX11_priceOfLastYear d 16 (.ref r :: L) (.ref r :: S) M N P Q := wp_aload_n rfl dX11_priceOfLastYear_15 rfl
theorem sX11_priceOfLastYear_16 (hs : shk r = (11, 0)) : Wp mX11_priceOfLastYear d 16 L (.ref r :: S) M N P Q = Wp mX11_priceOfLastYear d 19 L (.ref (P r 4) :: S) M N P Q := wp_getfield rfl dX11_priceOfLastYear_16 rfl rfl hs rfl
theorem sX11_priceOfLastYear_19 (hs : shk r = (3, 0)) : Wp mX11_priceOfLastYear d 19 L (.ref r :: S) M N P Q = Wp mX11_priceOfLastYear d 22 L (.ref (P r 5) :: S) M N P Q := wp_getfield rfl dX11_priceOfLastYear_19 rfl rfl hs rfl
theorem sX11_priceOfLastYear_22 : Wp mX11_priceOfLastYear d 22 (a0 :: .int x :: L) S M N P Q = Wp mX11_priceOfLastYear d 23 (a0 :: .int x :: L) (.int x :: S) M N P Q := wp_iload_n rfl dX11_priceOfLastYear_22 rfl
theorem sX11_priceOfLastYear_23 (hs : (shk r).1 = 100) : Wp mX11_priceOfLastYear d 23 L (.int j :: .ref r :: S) M N P Q = (vp_in j (shk r).2 ∧ Wp mX11_priceOfLastYear d 24 L (.int (M r j.toNatClampNeg) :: S) M N P Q) := wp_iaload rfl dX11_priceOfLastYear_23 (kd hs)
theorem sX11_priceOfLastYear_24 : Wp mX11_priceOfLastYear d 24 (a0 :: a1 :: .int x :: L) S M N P Q = Wp mX11_priceOfLastYear d 25 (a0 :: a1 :: .int x :: L) (.int x :: S) M N P Q := wp_iload_n rfl dX11_priceOfLastYear_24 rfl
theorem sX11_priceOfLastYear_25 : Wp mX11_priceOfLastYear d 25 L S M N P Q = Wp mX11_priceOfLastYear d 27 L (.int 99 :: S) M N P Q := wp_bipush rfl dX11_priceOfLastYear_25 rfl
theorem sX11_priceOfLastYear_27 {x0 : Int32} {x1 : Int32} {x2 : Int32} (hs : shk r = (11, 0)) (hS : stk S ≤ 8) : Wp mX11_priceOfLastYear (d + 1) 27 L (.int x2 :: .int x1 :: .int x0 :: .ref r :: S) M N P Q = Wp mX11_convert d 0 [.ref r, .int x0, .int x1, .int x2] [] M N P (fun v M' N' P' => Wp mX11_priceOfLastYear (d + 1) 30 L (v.toList ++ S) M' N' P' Q) := wp_callV (As := [.int x0, .int x1, .int x2]) rfl dX11_priceOfLastYear_27 rfl rfl (Or.inl ⟨_, _, _, hs, rfl⟩) rfl ⟨rfl, Nat.le_of_ble_eq_true rfl, Nat.le_of_ble_eq_true rfl⟩ rfl hS
theorem sX11_priceOfLastYear_30 : Wp mX11_priceOfLastYear d 30 L S M N P Q = Wp mX11_priceOfLastYear d 33 L (.long (2147483647) :: S) M N P Q := wp_ldc2_w rfl dX11_priceOfLastYear_30 rfl rfl
theorem sX11_priceOfLastYear_33 (hS : stk S ≤ 8) : Wp mX11_priceOfLastYear (d + 1) 33 L (.long lz :: .long lx :: S) M N P Q = Wp mX11_priceOfLastYear (d + 1) 36 L (.long (if lz < lx then lz else lx) :: S) M N P Q := wp_lmin rfl dX11_priceOfLastYear_33 rfl rfl hS
theorem sX11_priceOfLastYear_36 : Wp mX11_priceOfLastYear d 36 L (.long lx :: S) M N P Q = Wp mX11_priceOfLastYear d 37 L (.int lx.toInt32 :: S) M N P Q := wp_l2i rfl dX11_priceOfLastYear_36
theorem sX11_priceOfLastYear_37 : Wp mX11_priceOfLastYear d 37 L [.int x] M N P Q = Q (some (.int x)) M N P := wp_iret rfl dX11_priceOfLastYear_37 rfl rfl
end SS2
