def isB (c : Nat) : Bool := c == 101 || c == 102
def isA (c : Nat) : Bool := c == 100 || c == 101 || c == 102 || c == 103 || c == 104
theorem isB_or {c : Nat} (h : isB c = true) : c = 101 ∨ c = 102 := by simpa [isB] using h
theorem isA_le {c : Nat} (h : isA c = true) : 100 ≤ c ∧ c ≤ 104 := by simp [isA] at h; omega
theorem isB_1 : isB 101 = true := Eq.trans rfl rfl
theorem isB_2 : isB 102 = true := Eq.trans rfl rfl
theorem isA_0 : isA 100 = true := Eq.trans rfl rfl
theorem isA_1 : isA 101 = true := Eq.trans rfl rfl
theorem kd {r c : Nat} (h : (shk r).1 = c) : shk r = (c, (shk r).2) := by rw [← h]
def nl : Value → Bool
  | .long _ => false
  | .double _ => false
  | _ => true
theorem nl_i {x : Int32} : nl (.int x) = true := Eq.trans rfl rfl
theorem nl_r {x : Nat} : nl (.ref x) = true := Eq.trans rfl rfl
theorem nl_f {x : UInt32} : nl (.float x) = true := Eq.trans rfl rfl
theorem lenGt0 (a0 : Value) (L : List Value) : 0 < (a0 :: L).length := by simp only [List.length_cons]; omega
theorem lenGt1 (a0 : Value) (a1 : Value) (L : List Value) : 1 < (a0 :: a1 :: L).length := by simp only [List.length_cons]; omega
theorem lenGt2 (a0 : Value) (a1 : Value) (a2 : Value) (L : List Value) : 2 < (a0 :: a1 :: a2 :: L).length := by simp only [List.length_cons]; omega
theorem lenGt3 (a0 : Value) (a1 : Value) (a2 : Value) (a3 : Value) (L : List Value) : 3 < (a0 :: a1 :: a2 :: a3 :: L).length := by simp only [List.length_cons]; omega
theorem lenGt4 (a0 : Value) (a1 : Value) (a2 : Value) (a3 : Value) (a4 : Value) (L : List Value) : 4 < (a0 :: a1 :: a2 :: a3 :: a4 :: L).length := by simp only [List.length_cons]; omega
theorem lenGt5 (a0 : Value) (a1 : Value) (a2 : Value) (a3 : Value) (a4 : Value) (a5 : Value) (L : List Value) : 5 < (a0 :: a1 :: a2 :: a3 :: a4 :: a5 :: L).length := by simp only [List.length_cons]; omega
theorem lenGt6 (a0 : Value) (a1 : Value) (a2 : Value) (a3 : Value) (a4 : Value) (a5 : Value) (a6 : Value) (L : List Value) : 6 < (a0 :: a1 :: a2 :: a3 :: a4 :: a5 :: a6 :: L).length := by simp only [List.length_cons]; omega
theorem lenGt7 (a0 : Value) (a1 : Value) (a2 : Value) (a3 : Value) (a4 : Value) (a5 : Value) (a6 : Value) (a7 : Value) (L : List Value) : 7 < (a0 :: a1 :: a2 :: a3 :: a4 :: a5 :: a6 :: a7 :: L).length := by simp only [List.length_cons]; omega
theorem lenGt8 (a0 : Value) (a1 : Value) (a2 : Value) (a3 : Value) (a4 : Value) (a5 : Value) (a6 : Value) (a7 : Value) (a8 : Value) (L : List Value) : 8 < (a0 :: a1 :: a2 :: a3 :: a4 :: a5 :: a6 :: a7 :: a8 :: L).length := by simp only [List.length_cons]; omega
theorem lenGt9 (a0 : Value) (a1 : Value) (a2 : Value) (a3 : Value) (a4 : Value) (a5 : Value) (a6 : Value) (a7 : Value) (a8 : Value) (a9 : Value) (L : List Value) : 9 < (a0 :: a1 :: a2 :: a3 :: a4 :: a5 :: a6 :: a7 :: a8 :: a9 :: L).length := by simp only [List.length_cons]; omega
theorem lenGt10 (a0 : Value) (a1 : Value) (a2 : Value) (a3 : Value) (a4 : Value) (a5 : Value) (a6 : Value) (a7 : Value) (a8 : Value) (a9 : Value) (a10 : Value) (L : List Value) : 10 < (a0 :: a1 :: a2 :: a3 :: a4 :: a5 :: a6 :: a7 :: a8 :: a9 :: a10 :: L).length := by simp only [List.length_cons]; omega
theorem lenGt11 (a0 : Value) (a1 : Value) (a2 : Value) (a3 : Value) (a4 : Value) (a5 : Value) (a6 : Value) (a7 : Value) (a8 : Value) (a9 : Value) (a10 : Value) (a11 : Value) (L : List Value) : 11 < (a0 :: a1 :: a2 :: a3 :: a4 :: a5 :: a6 :: a7 :: a8 :: a9 :: a10 :: a11 :: L).length := by simp only [List.length_cons]; omega
theorem okst1 {a0 : Value} {a1 : Value} {L : List Value} (h : nl a0 = true) : okst (a0 :: a1 :: L) 1 = true := by cases a0 <;> first | rfl | cases h
theorem okst2 {a0 : Value} {a1 : Value} {a2 : Value} {L : List Value} (h : nl a1 = true) : okst (a0 :: a1 :: a2 :: L) 2 = true := by cases a1 <;> first | rfl | cases h
theorem okst3 {a0 : Value} {a1 : Value} {a2 : Value} {a3 : Value} {L : List Value} (h : nl a2 = true) : okst (a0 :: a1 :: a2 :: a3 :: L) 3 = true := by cases a2 <;> first | rfl | cases h
theorem okst4 {a0 : Value} {a1 : Value} {a2 : Value} {a3 : Value} {a4 : Value} {L : List Value} (h : nl a3 = true) : okst (a0 :: a1 :: a2 :: a3 :: a4 :: L) 4 = true := by cases a3 <;> first | rfl | cases h
theorem okst5 {a0 : Value} {a1 : Value} {a2 : Value} {a3 : Value} {a4 : Value} {a5 : Value} {L : List Value} (h : nl a4 = true) : okst (a0 :: a1 :: a2 :: a3 :: a4 :: a5 :: L) 5 = true := by cases a4 <;> first | rfl | cases h
theorem okst6 {a0 : Value} {a1 : Value} {a2 : Value} {a3 : Value} {a4 : Value} {a5 : Value} {a6 : Value} {L : List Value} (h : nl a5 = true) : okst (a0 :: a1 :: a2 :: a3 :: a4 :: a5 :: a6 :: L) 6 = true := by cases a5 <;> first | rfl | cases h
theorem okst7 {a0 : Value} {a1 : Value} {a2 : Value} {a3 : Value} {a4 : Value} {a5 : Value} {a6 : Value} {a7 : Value} {L : List Value} (h : nl a6 = true) : okst (a0 :: a1 :: a2 :: a3 :: a4 :: a5 :: a6 :: a7 :: L) 7 = true := by cases a6 <;> first | rfl | cases h
theorem okst8 {a0 : Value} {a1 : Value} {a2 : Value} {a3 : Value} {a4 : Value} {a5 : Value} {a6 : Value} {a7 : Value} {a8 : Value} {L : List Value} (h : nl a7 = true) : okst (a0 :: a1 :: a2 :: a3 :: a4 :: a5 :: a6 :: a7 :: a8 :: L) 8 = true := by cases a7 <;> first | rfl | cases h
theorem okst9 {a0 : Value} {a1 : Value} {a2 : Value} {a3 : Value} {a4 : Value} {a5 : Value} {a6 : Value} {a7 : Value} {a8 : Value} {a9 : Value} {L : List Value} (h : nl a8 = true) : okst (a0 :: a1 :: a2 :: a3 :: a4 :: a5 :: a6 :: a7 :: a8 :: a9 :: L) 9 = true := by cases a8 <;> first | rfl | cases h
theorem okst10 {a0 : Value} {a1 : Value} {a2 : Value} {a3 : Value} {a4 : Value} {a5 : Value} {a6 : Value} {a7 : Value} {a8 : Value} {a9 : Value} {a10 : Value} {L : List Value} (h : nl a9 = true) : okst (a0 :: a1 :: a2 :: a3 :: a4 :: a5 :: a6 :: a7 :: a8 :: a9 :: a10 :: L) 10 = true := by cases a9 <;> first | rfl | cases h
theorem shk_0 : shk 0 = (11, 0) := Eq.trans rfl rfl
theorem shk_1 : shk 1 = (5, 0) := Eq.trans rfl rfl
theorem shk_2 : shk 2 = (6, 0) := Eq.trans rfl rfl
theorem shk_3 : shk 3 = (1, 0) := Eq.trans rfl rfl
theorem shk_4 : shk 4 = (3, 0) := Eq.trans rfl rfl
theorem shk_5 : shk 5 = (10, 0) := Eq.trans rfl rfl
theorem shk_6 : shk 6 = (0, 0) := Eq.trans rfl rfl
theorem shk_7 : shk 7 = (8, 0) := Eq.trans rfl rfl
theorem shk_8 : shk 8 = (9, 0) := Eq.trans rfl rfl
theorem shk_9 : shk 9 = (4, 0) := Eq.trans rfl rfl
theorem shk_10 : shk 10 = (7, 0) := Eq.trans rfl rfl
theorem shk_11 : shk 11 = (2, 0) := Eq.trans rfl rfl
theorem shk_12 : shk 12 = (2, 0) := Eq.trans rfl rfl
theorem shk_13 : shk 13 = (100, 100) := Eq.trans rfl rfl
theorem shk_14 : shk 14 = (100, 24) := Eq.trans rfl rfl
theorem shk_15 : shk 15 = (100, 24) := Eq.trans rfl rfl
theorem shk_16 : shk 16 = (100, 24) := Eq.trans rfl rfl
theorem shk_17 : shk 17 = (100, 24) := Eq.trans rfl rfl
theorem shk_18 : shk 18 = (102, 24) := Eq.trans rfl rfl
theorem shk_19 : shk 19 = (104, 24) := Eq.trans rfl rfl
theorem shk_20 : shk 20 = (100, 8) := Eq.trans rfl rfl
theorem shk_21 : shk 21 = (100, 8) := Eq.trans rfl rfl
theorem shk_22 : shk 22 = (100, 60) := Eq.trans rfl rfl
theorem shk_23 : shk 23 = (100, 60) := Eq.trans rfl rfl
theorem shk_24 : shk 24 = (100, 60) := Eq.trans rfl rfl
theorem shk_25 : shk 25 = (100, 60) := Eq.trans rfl rfl
theorem shk_26 : shk 26 = (100, 60) := Eq.trans rfl rfl
theorem shk_27 : shk 27 = (100, 60) := Eq.trans rfl rfl
theorem shk_28 : shk 28 = (100, 60) := Eq.trans rfl rfl
theorem shk_29 : shk 29 = (100, 60) := Eq.trans rfl rfl
theorem shk_30 : shk 30 = (100, 60) := Eq.trans rfl rfl
theorem shk_31 : shk 31 = (100, 30) := Eq.trans rfl rfl
theorem shk_32 : shk 32 = (100, 9) := Eq.trans rfl rfl
theorem shk_33 : shk 33 = (101, 600) := Eq.trans rfl rfl
theorem shk_34 : shk 34 = (101, 601) := Eq.trans rfl rfl
theorem shk_35 : shk 35 = (103, 601) := Eq.trans rfl rfl
theorem shk_36 : shk 36 = (100, 601) := Eq.trans rfl rfl
theorem shk_37 : shk 37 = (100, 64) := Eq.trans rfl rfl
theorem shk_38 : shk 38 = (100, 8) := Eq.trans rfl rfl
theorem shk_39 : shk 39 = (100, 256) := Eq.trans rfl rfl
theorem shk_40 : shk 40 = (100, 600) := Eq.trans rfl rfl
theorem shk_41 : shk 41 = (100, 16) := Eq.trans rfl rfl
theorem shk_42 : shk 42 = (100, 16) := Eq.trans rfl rfl
theorem shk_43 : shk 43 = (100, 16) := Eq.trans rfl rfl
theorem shk_44 : shk 44 = (100, 32) := Eq.trans rfl rfl
theorem shk_45 : shk 45 = (100, 600) := Eq.trans rfl rfl
theorem shk_46 : shk 46 = (100, 16) := Eq.trans rfl rfl
theorem shk_47 : shk 47 = (100, 16) := Eq.trans rfl rfl
theorem shk_48 : shk 48 = (100, 16) := Eq.trans rfl rfl
theorem shk_49 : shk 49 = (100, 32) := Eq.trans rfl rfl
theorem shk_50 : shk 50 = (12, 0) := Eq.trans rfl rfl
theorem shk_51 : shk 51 = (100, 24) := Eq.trans rfl rfl
theorem shk_52 : shk 52 = (100, 24) := Eq.trans rfl rfl
theorem shk_53 : shk 53 = (100, 24) := Eq.trans rfl rfl
theorem shk_54 : shk 54 = (100, 8) := Eq.trans rfl rfl
theorem shk_55 : shk 55 = (100, 8) := Eq.trans rfl rfl
theorem shk_56 : shk 56 = (100, 100) := Eq.trans rfl rfl
theorem shk_57 : shk 57 = (100, 60) := Eq.trans rfl rfl
theorem shk_58 : shk 58 = (100, 60) := Eq.trans rfl rfl
theorem shk_59 : shk 59 = (100, 60) := Eq.trans rfl rfl
theorem shk_60 : shk 60 = (100, 60) := Eq.trans rfl rfl
theorem shk_61 : shk 61 = (100, 60) := Eq.trans rfl rfl
theorem shk_62 : shk 62 = (100, 60) := Eq.trans rfl rfl
theorem shk_63 : shk 63 = (100, 60) := Eq.trans rfl rfl
theorem shk_64 : shk 64 = (100, 60) := Eq.trans rfl rfl
theorem shk_65 : shk 65 = (100, 60) := Eq.trans rfl rfl
theorem shk_66 : shk 66 = (102, 60) := Eq.trans rfl rfl
theorem shk_67 : shk 67 = (101, 620) := Eq.trans rfl rfl
theorem shk_68 : shk 68 = (101, 600) := Eq.trans rfl rfl
theorem shk_69 : shk 69 = (100, 2) := Eq.trans rfl rfl
theorem shk_70 : shk 70 = (100, 32) := Eq.trans rfl rfl
theorem shk_71 : shk 71 = (100, 32) := Eq.trans rfl rfl
theorem shk_72 : shk 72 = (100, 32) := Eq.trans rfl rfl
theorem shk_73 : shk 73 = (100, 32) := Eq.trans rfl rfl
theorem shk_74 : shk 74 = (100, 1200) := Eq.trans rfl rfl
theorem shk_75 : shk 75 = (100, 1200) := Eq.trans rfl rfl
theorem shk_76 : shk 76 = (100, 60) := Eq.trans rfl rfl
theorem shk_77 : shk 77 = (100, 100) := Eq.trans rfl rfl
theorem shk_78 : shk 78 = (100, 9) := Eq.trans rfl rfl
theorem shk_79 : shk 79 = (100, 30) := Eq.trans rfl rfl
theorem shk_80 : shk 80 = (104, 24) := Eq.trans rfl rfl
theorem shk_81 : shk 81 = (104, 24) := Eq.trans rfl rfl
theorem shk_82 : shk 82 = (102, 24) := Eq.trans rfl rfl
theorem shk_83 : shk 83 = (100, 64) := Eq.trans rfl rfl
theorem shk_84 : shk 84 = (100, 2304) := Eq.trans rfl rfl
section SS0
variable {d : Nat} {a0 a1 a2 a3 a4 a5 a6 a7 a8 a9 a10 a11 : Value} {L S : List Value} {M : Mt} {N : Nt} {P : Pt'} {Q : Qt} {x z j : Int32} {lx lz : Int64} {r r2 c n : Nat}
theorem sX0_has_0 : Wp mX0_has d 0 (a0 :: .int x :: L) S M N P Q = Wp mX0_has d 1 (a0 :: .int x :: L) (.int x :: S) M N P Q := wp_iload_n rfl dX0_has_0 rfl
theorem sX0_has_1 : Wp mX0_has d 1 L (.int x :: S) M N P Q = (if x < 0 then Wp mX0_has d 16 L S M N P Q else Wp mX0_has d 4 L S M N P Q) := wp_if_lt rfl dX0_has_1 rfl
theorem sX0_has_4 : Wp mX0_has d 4 (a0 :: .int x :: L) S M N P Q = Wp mX0_has d 5 (a0 :: .int x :: L) (.int x :: S) M N P Q := wp_iload_n rfl dX0_has_4 rfl
theorem sX0_has_5 : Wp mX0_has d 5 (.ref r :: L) S M N P Q = Wp mX0_has d 6 (.ref r :: L) (.ref r :: S) M N P Q := wp_aload_n rfl dX0_has_5 rfl
theorem sX0_has_6 (hs : shk r = (0, 0)) : Wp mX0_has d 6 L (.ref r :: S) M N P Q = Wp mX0_has d 9 L (.int (M r 2) :: S) M N P Q := wp_getfield rfl dX0_has_6 rfl rfl hs rfl
theorem sX0_has_9 : Wp mX0_has d 9 L (.int z :: .int x :: S) M N P Q = (if z ≤ x then Wp mX0_has d 16 L S M N P Q else Wp mX0_has d 12 L S M N P Q) := wp_icmp_ge rfl dX0_has_9 rfl
theorem sX0_has_12 : Wp mX0_has d 12 L S M N P Q = Wp mX0_has d 13 L (.int 1 :: S) M N P Q := wp_iconst rfl dX0_has_12 rfl
theorem sX0_has_13 : Wp mX0_has d 13 L S M N P Q = Wp mX0_has d 17 L S M N P Q := wp_goto rfl dX0_has_13 rfl
theorem sX0_has_16 : Wp mX0_has d 16 L S M N P Q = Wp mX0_has d 17 L (.int 0 :: S) M N P Q := wp_iconst rfl dX0_has_16 rfl
theorem sX0_has_17 (hb : bit x) : Wp mX0_has d 17 L [.int x] M N P Q = Q (some (.int x)) M N P := wp_iret rfl dX0_has_17 rfl (bit_n hb)
theorem sX0_add_0 : Wp mX0_add d 0 (.ref r :: L) S M N P Q = Wp mX0_add d 1 (.ref r :: L) (.ref r :: S) M N P Q := wp_aload_n rfl dX0_add_0 rfl
theorem sX0_add_1 (hs : shk r = (0, 0)) : Wp mX0_add d 1 L (.ref r :: S) M N P Q = Wp mX0_add d 4 L (.int (M r 2) :: S) M N P Q := wp_getfield rfl dX0_add_1 rfl rfl hs rfl
theorem sX0_add_4 : Wp mX0_add d 4 L S M N P Q = Wp mX0_add d 6 L (.int 30 :: S) M N P Q := wp_bipush rfl dX0_add_4 rfl
theorem sX0_add_6 : Wp mX0_add d 6 L (.int z :: .int x :: S) M N P Q = (if z ≤ x then Wp mX0_add d 17 L S M N P Q else Wp mX0_add d 9 L S M N P Q) := wp_icmp_ge rfl dX0_add_6 rfl
theorem sX0_add_9 : Wp mX0_add d 9 (.ref r :: L) S M N P Q = Wp mX0_add d 10 (.ref r :: L) (.ref r :: S) M N P Q := wp_aload_n rfl dX0_add_9 rfl
theorem sX0_add_10 : Wp mX0_add d 10 (a0 :: .int x :: L) S M N P Q = Wp mX0_add d 11 (a0 :: .int x :: L) (.int x :: S) M N P Q := wp_iload_n rfl dX0_add_10 rfl
theorem sX0_add_11 {x0 : Int32} (hs : shk r = (0, 0)) (hS : stk S ≤ 8) : Wp mX0_add (d + 1) 11 L (.int x0 :: .ref r :: S) M N P Q = Wp mX0_isClaimed d 0 [.ref r, .int x0, .float 0] [] M N P (fun v M' N' P' => Wp mX0_add (d + 1) 14 L (v.toList ++ S) M' N' P' Q) := wp_callV (As := [.int x0]) rfl dX0_add_11 rfl rfl (Or.inl ⟨_, _, _, hs, rfl⟩) rfl ⟨rfl, Nat.le_of_ble_eq_true rfl, Nat.le_of_ble_eq_true rfl⟩ rfl hS
theorem sX0_add_14 : Wp mX0_add d 14 L (.int x :: S) M N P Q = (if x = 0 then Wp mX0_add d 19 L S M N P Q else Wp mX0_add d 17 L S M N P Q) := wp_if_eq rfl dX0_add_14 rfl
theorem sX0_add_17 : Wp mX0_add d 17 L S M N P Q = Wp mX0_add d 18 L (.int (-1) :: S) M N P Q := wp_iconst rfl dX0_add_17 rfl
theorem sX0_add_18 : Wp mX0_add d 18 L [.int x] M N P Q = Q (some (.int x)) M N P := wp_iret rfl dX0_add_18 rfl rfl
theorem sX0_add_19 : Wp mX0_add d 19 (.ref r :: L) S M N P Q = Wp mX0_add d 20 (.ref r :: L) (.ref r :: S) M N P Q := wp_aload_n rfl dX0_add_19 rfl
theorem sX0_add_20 (hs : shk r = (0, 0)) : Wp mX0_add d 20 L (.ref r :: S) M N P Q = Wp mX0_add d 23 L (.ref (P r 0) :: S) M N P Q := wp_getfield rfl dX0_add_20 rfl rfl hs rfl
theorem sX0_add_23 : Wp mX0_add d 23 (.ref r :: L) S M N P Q = Wp mX0_add d 24 (.ref r :: L) (.ref r :: S) M N P Q := wp_aload_n rfl dX0_add_23 rfl
theorem sX0_add_24 (hs : shk r = (0, 0)) : Wp mX0_add d 24 L (.ref r :: S) M N P Q = Wp mX0_add d 27 L (.int (M r 2) :: S) M N P Q := wp_getfield rfl dX0_add_24 rfl rfl hs rfl
theorem sX0_add_27 : Wp mX0_add d 27 (a0 :: .int x :: L) S M N P Q = Wp mX0_add d 28 (a0 :: .int x :: L) (.int x :: S) M N P Q := wp_iload_n rfl dX0_add_27 rfl
theorem sX0_add_28 (hs : (shk r).1 = 100) : Wp mX0_add d 28 L (.int x :: .int j :: .ref r :: S) M N P Q = (vp_in j (shk r).2 ∧ Wp mX0_add d 29 L S (up2 M r j.toNatClampNeg x) N P Q) := wp_iastore rfl dX0_add_28 (kd hs)
theorem sX0_add_29 : Wp mX0_add d 29 (.ref r :: L) S M N P Q = Wp mX0_add d 30 (.ref r :: L) (.ref r :: S) M N P Q := wp_aload_n rfl dX0_add_29 rfl
theorem sX0_add_30 (hv : a0.category = 1) : Wp mX0_add d 30 L (a0 :: S) M N P Q = Wp mX0_add d 31 L (a0 :: a0 :: S) M N P Q := wp_dup rfl dX0_add_30 hv
theorem sX0_add_31 (hs : shk r = (0, 0)) : Wp mX0_add d 31 L (.ref r :: S) M N P Q = Wp mX0_add d 34 L (.int (M r 2) :: S) M N P Q := wp_getfield rfl dX0_add_31 rfl rfl hs rfl
theorem sX0_add_34 : Wp mX0_add d 34 L S M N P Q = Wp mX0_add d 35 L (.int 1 :: S) M N P Q := wp_iconst rfl dX0_add_34 rfl
theorem sX0_add_35 : Wp mX0_add d 35 L (.int z :: .int x :: S) M N P Q = Wp mX0_add d 36 L (.int (x + z) :: S) M N P Q := wp_iadd rfl dX0_add_35
theorem sX0_add_36 (hs : shk r = (0, 0)) : Wp mX0_add d 36 L (.int x :: .ref r :: S) M N P Q = Wp mX0_add d 39 L S (up2 M r 2 x) N P Q := wp_putI rfl dX0_add_36 rfl rfl hs rfl ⟨_, _, _, _, rfl, by decide, rfl, tyX0_ok 2 (by decide), rfl, rfl⟩
theorem sX0_add_39 : Wp mX0_add d 39 (.ref r :: L) S M N P Q = Wp mX0_add d 40 (.ref r :: L) (.ref r :: S) M N P Q := wp_aload_n rfl dX0_add_39 rfl
theorem sX0_add_40 (hs : shk r = (0, 0)) : Wp mX0_add d 40 L (.ref r :: S) M N P Q = Wp mX0_add d 43 L (.int (M r 2) :: S) M N P Q := wp_getfield rfl dX0_add_40 rfl rfl hs rfl
theorem sX0_add_43 : Wp mX0_add d 43 L S M N P Q = Wp mX0_add d 44 L (.int 1 :: S) M N P Q := wp_iconst rfl dX0_add_43 rfl
theorem sX0_add_44 : Wp mX0_add d 44 L (.int z :: .int x :: S) M N P Q = Wp mX0_add d 45 L (.int (x - z) :: S) M N P Q := wp_isub rfl dX0_add_44
theorem sX0_add_45 : Wp mX0_add d 45 L [.int x] M N P Q = Q (some (.int x)) M N P := wp_iret rfl dX0_add_45 rfl rfl
theorem sX0_isClaimed_0 : Wp mX0_isClaimed d 0 L S M N P Q = Wp mX0_isClaimed d 1 L (.int 0 :: S) M N P Q := wp_iconst rfl dX0_isClaimed_0 rfl
theorem sX0_isClaimed_1 (hn : nl a1 = true) : Wp mX0_isClaimed d 1 (a0 :: a1 :: a2 :: L) (.int x :: S) M N P Q = Wp mX0_isClaimed d 2 (a0 :: a1 :: .int x :: L) S M N P Q := wp_istore_n rfl dX0_isClaimed_1 (lenGt2 ..) (okst2 hn) rfl
theorem sX0_isClaimed_2 : Wp mX0_isClaimed d 2 (a0 :: a1 :: .int x :: L) S M N P Q = Wp mX0_isClaimed d 3 (a0 :: a1 :: .int x :: L) (.int x :: S) M N P Q := wp_iload_n rfl dX0_isClaimed_2 rfl
theorem sX0_isClaimed_3 : Wp mX0_isClaimed d 3 (.ref r :: L) S M N P Q = Wp mX0_isClaimed d 4 (.ref r :: L) (.ref r :: S) M N P Q := wp_aload_n rfl dX0_isClaimed_3 rfl
theorem sX0_isClaimed_4 (hs : shk r = (0, 0)) : Wp mX0_isClaimed d 4 L (.ref r :: S) M N P Q = Wp mX0_isClaimed d 7 L (.int (M r 2) :: S) M N P Q := wp_getfield rfl dX0_isClaimed_4 rfl rfl hs rfl
theorem sX0_isClaimed_7 : Wp mX0_isClaimed d 7 L (.int z :: .int x :: S) M N P Q = (if z ≤ x then Wp mX0_isClaimed d 28 L S M N P Q else Wp mX0_isClaimed d 10 L S M N P Q) := wp_icmp_ge rfl dX0_isClaimed_7 rfl
theorem sX0_isClaimed_10 : Wp mX0_isClaimed d 10 (.ref r :: L) S M N P Q = Wp mX0_isClaimed d 11 (.ref r :: L) (.ref r :: S) M N P Q := wp_aload_n rfl dX0_isClaimed_10 rfl
theorem sX0_isClaimed_11 (hs : shk r = (0, 0)) : Wp mX0_isClaimed d 11 L (.ref r :: S) M N P Q = Wp mX0_isClaimed d 14 L (.ref (P r 0) :: S) M N P Q := wp_getfield rfl dX0_isClaimed_11 rfl rfl hs rfl
theorem sX0_isClaimed_14 : Wp mX0_isClaimed d 14 (a0 :: a1 :: .int x :: L) S M N P Q = Wp mX0_isClaimed d 15 (a0 :: a1 :: .int x :: L) (.int x :: S) M N P Q := wp_iload_n rfl dX0_isClaimed_14 rfl
theorem sX0_isClaimed_15 (hs : (shk r).1 = 100) : Wp mX0_isClaimed d 15 L (.int j :: .ref r :: S) M N P Q = (vp_in j (shk r).2 ∧ Wp mX0_isClaimed d 16 L (.int (M r j.toNatClampNeg) :: S) M N P Q) := wp_iaload rfl dX0_isClaimed_15 (kd hs)
theorem sX0_isClaimed_16 : Wp mX0_isClaimed d 16 (a0 :: .int x :: L) S M N P Q = Wp mX0_isClaimed d 17 (a0 :: .int x :: L) (.int x :: S) M N P Q := wp_iload_n rfl dX0_isClaimed_16 rfl
theorem sX0_isClaimed_17 : Wp mX0_isClaimed d 17 L (.int z :: .int x :: S) M N P Q = (if x = z then Wp mX0_isClaimed d 20 L S M N P Q else Wp mX0_isClaimed d 22 L S M N P Q) := wp_icmp_ne rfl dX0_isClaimed_17 rfl
theorem sX0_isClaimed_20 : Wp mX0_isClaimed d 20 L S M N P Q = Wp mX0_isClaimed d 21 L (.int 1 :: S) M N P Q := wp_iconst rfl dX0_isClaimed_20 rfl
theorem sX0_isClaimed_21 (hb : bit x) : Wp mX0_isClaimed d 21 L [.int x] M N P Q = Q (some (.int x)) M N P := wp_iret rfl dX0_isClaimed_21 rfl (bit_n hb)
theorem sX0_isClaimed_22 (hn : nl a1 = true) : Wp mX0_isClaimed d 22 (a0 :: a1 :: .int x :: L) S M N P Q = Wp mX0_isClaimed d 25 (a0 :: a1 :: .int (x + 1) :: L) S M N P Q := wp_iinc rfl dX0_isClaimed_22 rfl rfl (okst2 hn) rfl
theorem sX0_isClaimed_25 : Wp mX0_isClaimed d 25 L S M N P Q = Wp mX0_isClaimed d 2 L S M N P Q := wp_goto rfl dX0_isClaimed_25 rfl
theorem sX0_isClaimed_28 : Wp mX0_isClaimed d 28 L S M N P Q = Wp mX0_isClaimed d 29 L (.int 0 :: S) M N P Q := wp_iconst rfl dX0_isClaimed_28 rfl
theorem sX0_isClaimed_29 (hb : bit x) : Wp mX0_isClaimed d 29 L [.int x] M N P Q = Q (some (.int x)) M N P := wp_iret rfl dX0_isClaimed_29 rfl (bit_n hb)
theorem sX1_has_0 : Wp mX1_has d 0 (a0 :: .int x :: L) S M N P Q = Wp mX1_has d 1 (a0 :: .int x :: L) (.int x :: S) M N P Q := wp_iload_n rfl dX1_has_0 rfl
theorem sX1_has_1 : Wp mX1_has d 1 L (.int x :: S) M N P Q = (if x < 0 then Wp mX1_has d 16 L S M N P Q else Wp mX1_has d 4 L S M N P Q) := wp_if_lt rfl dX1_has_1 rfl
theorem sX1_has_4 : Wp mX1_has d 4 (a0 :: .int x :: L) S M N P Q = Wp mX1_has d 5 (a0 :: .int x :: L) (.int x :: S) M N P Q := wp_iload_n rfl dX1_has_4 rfl
theorem sX1_has_5 : Wp mX1_has d 5 (.ref r :: L) S M N P Q = Wp mX1_has d 6 (.ref r :: L) (.ref r :: S) M N P Q := wp_aload_n rfl dX1_has_5 rfl
theorem sX1_has_6 (hs : shk r = (1, 0)) : Wp mX1_has d 6 L (.ref r :: S) M N P Q = Wp mX1_has d 9 L (.int (M r 2) :: S) M N P Q := wp_getfield rfl dX1_has_6 rfl rfl hs rfl
theorem sX1_has_9 : Wp mX1_has d 9 L (.int z :: .int x :: S) M N P Q = (if z ≤ x then Wp mX1_has d 16 L S M N P Q else Wp mX1_has d 12 L S M N P Q) := wp_icmp_ge rfl dX1_has_9 rfl
theorem sX1_has_12 : Wp mX1_has d 12 L S M N P Q = Wp mX1_has d 13 L (.int 1 :: S) M N P Q := wp_iconst rfl dX1_has_12 rfl
theorem sX1_has_13 : Wp mX1_has d 13 L S M N P Q = Wp mX1_has d 17 L S M N P Q := wp_goto rfl dX1_has_13 rfl
theorem sX1_has_16 : Wp mX1_has d 16 L S M N P Q = Wp mX1_has d 17 L (.int 0 :: S) M N P Q := wp_iconst rfl dX1_has_16 rfl
theorem sX1_has_17 (hb : bit x) : Wp mX1_has d 17 L [.int x] M N P Q = Q (some (.int x)) M N P := wp_iret rfl dX1_has_17 rfl (bit_n hb)
theorem sX1_add_0 : Wp mX1_add d 0 (.ref r :: L) S M N P Q = Wp mX1_add d 1 (.ref r :: L) (.ref r :: S) M N P Q := wp_aload_n rfl dX1_add_0 rfl
theorem sX1_add_1 (hs : shk r = (1, 0)) : Wp mX1_add d 1 L (.ref r :: S) M N P Q = Wp mX1_add d 4 L (.int (M r 2) :: S) M N P Q := wp_getfield rfl dX1_add_1 rfl rfl hs rfl
theorem sX1_add_4 : Wp mX1_add d 4 L S M N P Q = Wp mX1_add d 6 L (.int 8 :: S) M N P Q := wp_bipush rfl dX1_add_4 rfl
theorem sX1_add_6 : Wp mX1_add d 6 L (.int z :: .int x :: S) M N P Q = (if x < z then Wp mX1_add d 11 L S M N P Q else Wp mX1_add d 9 L S M N P Q) := wp_icmp_lt rfl dX1_add_6 rfl
theorem sX1_add_9 : Wp mX1_add d 9 L S M N P Q = Wp mX1_add d 10 L (.int (-1) :: S) M N P Q := wp_iconst rfl dX1_add_9 rfl
theorem sX1_add_10 : Wp mX1_add d 10 L [.int x] M N P Q = Q (some (.int x)) M N P := wp_iret rfl dX1_add_10 rfl rfl
theorem sX1_add_11 : Wp mX1_add d 11 (.ref r :: L) S M N P Q = Wp mX1_add d 12 (.ref r :: L) (.ref r :: S) M N P Q := wp_aload_n rfl dX1_add_11 rfl
theorem sX1_add_12 (hs : shk r = (1, 0)) : Wp mX1_add d 12 L (.ref r :: S) M N P Q = Wp mX1_add d 15 L (.ref (P r 0) :: S) M N P Q := wp_getfield rfl dX1_add_12 rfl rfl hs rfl
theorem sX1_add_15 : Wp mX1_add d 15 (.ref r :: L) S M N P Q = Wp mX1_add d 16 (.ref r :: L) (.ref r :: S) M N P Q := wp_aload_n rfl dX1_add_15 rfl
theorem sX1_add_16 (hs : shk r = (1, 0)) : Wp mX1_add d 16 L (.ref r :: S) M N P Q = Wp mX1_add d 19 L (.int (M r 2) :: S) M N P Q := wp_getfield rfl dX1_add_16 rfl rfl hs rfl
theorem sX1_add_19 : Wp mX1_add d 19 (a0 :: .int x :: L) S M N P Q = Wp mX1_add d 20 (a0 :: .int x :: L) (.int x :: S) M N P Q := wp_iload_n rfl dX1_add_19 rfl
theorem sX1_add_20 (hs : (shk r).1 = 100) : Wp mX1_add d 20 L (.int x :: .int j :: .ref r :: S) M N P Q = (vp_in j (shk r).2 ∧ Wp mX1_add d 21 L S (up2 M r j.toNatClampNeg x) N P Q) := wp_iastore rfl dX1_add_20 (kd hs)
theorem sX1_add_21 : Wp mX1_add d 21 (.ref r :: L) S M N P Q = Wp mX1_add d 22 (.ref r :: L) (.ref r :: S) M N P Q := wp_aload_n rfl dX1_add_21 rfl
theorem sX1_add_22 (hs : shk r = (1, 0)) : Wp mX1_add d 22 L (.ref r :: S) M N P Q = Wp mX1_add d 25 L (.ref (P r 1) :: S) M N P Q := wp_getfield rfl dX1_add_22 rfl rfl hs rfl
theorem sX1_add_25 : Wp mX1_add d 25 (.ref r :: L) S M N P Q = Wp mX1_add d 26 (.ref r :: L) (.ref r :: S) M N P Q := wp_aload_n rfl dX1_add_25 rfl
theorem sX1_add_26 (hs : shk r = (1, 0)) : Wp mX1_add d 26 L (.ref r :: S) M N P Q = Wp mX1_add d 29 L (.int (M r 2) :: S) M N P Q := wp_getfield rfl dX1_add_26 rfl rfl hs rfl
theorem sX1_add_29 : Wp mX1_add d 29 (a0 :: a1 :: .int x :: L) S M N P Q = Wp mX1_add d 30 (a0 :: a1 :: .int x :: L) (.int x :: S) M N P Q := wp_iload_n rfl dX1_add_29 rfl
theorem sX1_add_30 (hs : (shk r).1 = 100) : Wp mX1_add d 30 L (.int x :: .int j :: .ref r :: S) M N P Q = (vp_in j (shk r).2 ∧ Wp mX1_add d 31 L S (up2 M r j.toNatClampNeg x) N P Q) := wp_iastore rfl dX1_add_30 (kd hs)
theorem sX1_add_31 : Wp mX1_add d 31 (.ref r :: L) S M N P Q = Wp mX1_add d 32 (.ref r :: L) (.ref r :: S) M N P Q := wp_aload_n rfl dX1_add_31 rfl
theorem sX1_add_32 (hv : a0.category = 1) : Wp mX1_add d 32 L (a0 :: S) M N P Q = Wp mX1_add d 33 L (a0 :: a0 :: S) M N P Q := wp_dup rfl dX1_add_32 hv
theorem sX1_add_33 (hs : shk r = (1, 0)) : Wp mX1_add d 33 L (.ref r :: S) M N P Q = Wp mX1_add d 36 L (.int (M r 2) :: S) M N P Q := wp_getfield rfl dX1_add_33 rfl rfl hs rfl
theorem sX1_add_36 : Wp mX1_add d 36 L S M N P Q = Wp mX1_add d 37 L (.int 1 :: S) M N P Q := wp_iconst rfl dX1_add_36 rfl
theorem sX1_add_37 : Wp mX1_add d 37 L (.int z :: .int x :: S) M N P Q = Wp mX1_add d 38 L (.int (x + z) :: S) M N P Q := wp_iadd rfl dX1_add_37
theorem sX1_add_38 (hs : shk r = (1, 0)) : Wp mX1_add d 38 L (.int x :: .ref r :: S) M N P Q = Wp mX1_add d 41 L S (up2 M r 2 x) N P Q := wp_putI rfl dX1_add_38 rfl rfl hs rfl ⟨_, _, _, _, rfl, by decide, rfl, tyX1_ok 2 (by decide), rfl, rfl⟩
theorem sX1_add_41 : Wp mX1_add d 41 (.ref r :: L) S M N P Q = Wp mX1_add d 42 (.ref r :: L) (.ref r :: S) M N P Q := wp_aload_n rfl dX1_add_41 rfl
theorem sX1_add_42 (hs : shk r = (1, 0)) : Wp mX1_add d 42 L (.ref r :: S) M N P Q = Wp mX1_add d 45 L (.int (M r 2) :: S) M N P Q := wp_getfield rfl dX1_add_42 rfl rfl hs rfl
theorem sX1_add_45 : Wp mX1_add d 45 L S M N P Q = Wp mX1_add d 46 L (.int 1 :: S) M N P Q := wp_iconst rfl dX1_add_45 rfl
theorem sX1_add_46 : Wp mX1_add d 46 L (.int z :: .int x :: S) M N P Q = Wp mX1_add d 47 L (.int (x - z) :: S) M N P Q := wp_isub rfl dX1_add_46
theorem sX1_add_47 : Wp mX1_add d 47 L [.int x] M N P Q = Q (some (.int x)) M N P := wp_iret rfl dX1_add_47 rfl rfl
theorem sX2_clear_0 : Wp mX2_clear d 0 (.ref r :: L) S M N P Q = Wp mX2_clear d 1 (.ref r :: L) (.ref r :: S) M N P Q := wp_aload_n rfl dX2_clear_0 rfl
theorem sX2_clear_1 : Wp mX2_clear d 1 L S M N P Q = Wp mX2_clear d 2 L (.int 0 :: S) M N P Q := wp_iconst rfl dX2_clear_1 rfl
theorem sX2_clear_2 (hs : shk r = (2, 0)) : Wp mX2_clear d 2 L (.int x :: .ref r :: S) M N P Q = Wp mX2_clear d 5 L S (up2 M r 5 x) N P Q := wp_putI rfl dX2_clear_2 rfl rfl hs rfl ⟨_, _, _, _, rfl, by decide, rfl, tyX2_ok 5 (by decide), rfl, rfl⟩
theorem sX2_clear_5 : Wp mX2_clear d 5 (.ref r :: L) S M N P Q = Wp mX2_clear d 6 (.ref r :: L) (.ref r :: S) M N P Q := wp_aload_n rfl dX2_clear_5 rfl
theorem sX2_clear_6 : Wp mX2_clear d 6 L S M N P Q = Wp mX2_clear d 7 L (.int 0 :: S) M N P Q := wp_iconst rfl dX2_clear_6 rfl
theorem sX2_clear_7 (hs : shk r = (2, 0)) : Wp mX2_clear d 7 L (.int x :: .ref r :: S) M N P Q = Wp mX2_clear d 10 L S (up2 M r 6 x) N P Q := wp_putI rfl dX2_clear_7 rfl rfl hs rfl ⟨_, _, _, _, rfl, by decide, rfl, tyX2_ok 6 (by decide), rfl, rfl⟩
theorem sX2_clear_10 : Wp mX2_clear d 10 L [] M N P Q = Q none M N P := wp_vret rfl dX2_clear_10 rfl
theorem sX2_write_0 : Wp mX2_write d 0 (.ref r :: L) S M N P Q = Wp mX2_write d 1 (.ref r :: L) (.ref r :: S) M N P Q := wp_aload_n rfl dX2_write_0 rfl
theorem sX2_write_1 (hs : shk r = (2, 0)) : Wp mX2_write d 1 L (.ref r :: S) M N P Q = Wp mX2_write d 4 L (.int (M r 5) :: S) M N P Q := wp_getfield rfl dX2_write_1 rfl rfl hs rfl
theorem sX2_write_4 : Wp mX2_write d 4 (.ref r :: L) S M N P Q = Wp mX2_write d 5 (.ref r :: L) (.ref r :: S) M N P Q := wp_aload_n rfl dX2_write_4 rfl
theorem sX2_write_5 (hs : shk r = (2, 0)) : Wp mX2_write d 5 L (.ref r :: S) M N P Q = Wp mX2_write d 8 L (.ref (P r 0) :: S) M N P Q := wp_getfield rfl dX2_write_5 rfl rfl hs rfl
theorem sX2_write_8 (h1 : isA (shk r).1 = true) : Wp mX2_write d 8 L (.ref r :: S) M N P Q = Wp mX2_write d 9 L (.int (nI (shk r).2) :: S) M N P Q := wp_arraylength rfl dX2_write_8 (kd rfl) (isA_le h1).1 (isA_le h1).2
theorem sX2_write_9 : Wp mX2_write d 9 L (.int z :: .int x :: S) M N P Q = (if z ≤ x then Wp mX2_write d 37 L S M N P Q else Wp mX2_write d 12 L S M N P Q) := wp_icmp_ge rfl dX2_write_9 rfl
theorem sX2_write_12 : Wp mX2_write d 12 (.ref r :: L) S M N P Q = Wp mX2_write d 13 (.ref r :: L) (.ref r :: S) M N P Q := wp_aload_n rfl dX2_write_12 rfl
theorem sX2_write_13 (hs : shk r = (2, 0)) : Wp mX2_write d 13 L (.ref r :: S) M N P Q = Wp mX2_write d 16 L (.ref (P r 0) :: S) M N P Q := wp_getfield rfl dX2_write_13 rfl rfl hs rfl
theorem sX2_write_16 : Wp mX2_write d 16 (.ref r :: L) S M N P Q = Wp mX2_write d 17 (.ref r :: L) (.ref r :: S) M N P Q := wp_aload_n rfl dX2_write_16 rfl
theorem sX2_write_17 (hs : shk r = (2, 0)) : Wp mX2_write d 17 L (.ref r :: S) M N P Q = Wp mX2_write d 20 L (.int (M r 5) :: S) M N P Q := wp_getfield rfl dX2_write_17 rfl rfl hs rfl
theorem sX2_write_20 : Wp mX2_write d 20 (a0 :: a1 :: .int x :: L) S M N P Q = Wp mX2_write d 21 (a0 :: a1 :: .int x :: L) (.int x :: S) M N P Q := wp_iload_n rfl dX2_write_20 rfl
theorem sX2_write_21 : Wp mX2_write d 21 L S M N P Q = Wp mX2_write d 23 L (.int 16 :: S) M N P Q := wp_bipush rfl dX2_write_21 rfl
theorem sX2_write_23 : Wp mX2_write d 23 L (.int z :: .int x :: S) M N P Q = Wp mX2_write d 24 L (.int (x * z) :: S) M N P Q := wp_imul rfl dX2_write_23
theorem sX2_write_24 : Wp mX2_write d 24 (a0 :: .int x :: L) S M N P Q = Wp mX2_write d 25 (a0 :: .int x :: L) (.int x :: S) M N P Q := wp_iload_n rfl dX2_write_24 rfl
theorem sX2_write_25 : Wp mX2_write d 25 L (.int z :: .int x :: S) M N P Q = Wp mX2_write d 26 L (.int (x + z) :: S) M N P Q := wp_iadd rfl dX2_write_25
theorem sX2_write_26 (hs : (shk r).1 = 100) : Wp mX2_write d 26 L (.int x :: .int j :: .ref r :: S) M N P Q = (vp_in j (shk r).2 ∧ Wp mX2_write d 27 L S (up2 M r j.toNatClampNeg x) N P Q) := wp_iastore rfl dX2_write_26 (kd hs)
theorem sX2_write_27 : Wp mX2_write d 27 (.ref r :: L) S M N P Q = Wp mX2_write d 28 (.ref r :: L) (.ref r :: S) M N P Q := wp_aload_n rfl dX2_write_27 rfl
theorem sX2_write_28 (hv : a0.category = 1) : Wp mX2_write d 28 L (a0 :: S) M N P Q = Wp mX2_write d 29 L (a0 :: a0 :: S) M N P Q := wp_dup rfl dX2_write_28 hv
theorem sX2_write_29 (hs : shk r = (2, 0)) : Wp mX2_write d 29 L (.ref r :: S) M N P Q = Wp mX2_write d 32 L (.int (M r 5) :: S) M N P Q := wp_getfield rfl dX2_write_29 rfl rfl hs rfl
theorem sX2_write_32 : Wp mX2_write d 32 L S M N P Q = Wp mX2_write d 33 L (.int 1 :: S) M N P Q := wp_iconst rfl dX2_write_32 rfl
theorem sX2_write_33 : Wp mX2_write d 33 L (.int z :: .int x :: S) M N P Q = Wp mX2_write d 34 L (.int (x + z) :: S) M N P Q := wp_iadd rfl dX2_write_33
theorem sX2_write_34 (hs : shk r = (2, 0)) : Wp mX2_write d 34 L (.int x :: .ref r :: S) M N P Q = Wp mX2_write d 37 L S (up2 M r 5 x) N P Q := wp_putI rfl dX2_write_34 rfl rfl hs rfl ⟨_, _, _, _, rfl, by decide, rfl, tyX2_ok 5 (by decide), rfl, rfl⟩
theorem sX2_write_37 : Wp mX2_write d 37 L [] M N P Q = Q none M N P := wp_vret rfl dX2_write_37 rfl
theorem sX2_closeLine_0 : Wp mX2_closeLine d 0 (.ref r :: L) S M N P Q = Wp mX2_closeLine d 1 (.ref r :: L) (.ref r :: S) M N P Q := wp_aload_n rfl dX2_closeLine_0 rfl
theorem sX2_closeLine_1 (hs : shk r = (2, 0)) : Wp mX2_closeLine d 1 L (.ref r :: S) M N P Q = Wp mX2_closeLine d 4 L (.int (M r 6) :: S) M N P Q := wp_getfield rfl dX2_closeLine_1 rfl rfl hs rfl
theorem sX2_closeLine_4 : Wp mX2_closeLine d 4 L S M N P Q = Wp mX2_closeLine d 6 L (.int 16 :: S) M N P Q := wp_bipush rfl dX2_closeLine_4 rfl
theorem sX2_closeLine_6 : Wp mX2_closeLine d 6 L (.int z :: .int x :: S) M N P Q = (if z ≤ x then Wp mX2_closeLine d 52 L S M N P Q else Wp mX2_closeLine d 9 L S M N P Q) := wp_icmp_ge rfl dX2_closeLine_6 rfl
theorem sX2_closeLine_9 : Wp mX2_closeLine d 9 (.ref r :: L) S M N P Q = Wp mX2_closeLine d 10 (.ref r :: L) (.ref r :: S) M N P Q := wp_aload_n rfl dX2_closeLine_9 rfl
theorem sX2_closeLine_10 (hs : shk r = (2, 0)) : Wp mX2_closeLine d 10 L (.ref r :: S) M N P Q = Wp mX2_closeLine d 13 L (.ref (P r 2) :: S) M N P Q := wp_getfield rfl dX2_closeLine_10 rfl rfl hs rfl
theorem sX2_closeLine_13 : Wp mX2_closeLine d 13 (.ref r :: L) S M N P Q = Wp mX2_closeLine d 14 (.ref r :: L) (.ref r :: S) M N P Q := wp_aload_n rfl dX2_closeLine_13 rfl
theorem sX2_closeLine_14 (hs : shk r = (2, 0)) : Wp mX2_closeLine d 14 L (.ref r :: S) M N P Q = Wp mX2_closeLine d 17 L (.int (M r 6) :: S) M N P Q := wp_getfield rfl dX2_closeLine_14 rfl rfl hs rfl
theorem sX2_closeLine_17 : Wp mX2_closeLine d 17 (a0 :: .int x :: L) S M N P Q = Wp mX2_closeLine d 18 (a0 :: .int x :: L) (.int x :: S) M N P Q := wp_iload_n rfl dX2_closeLine_17 rfl
theorem sX2_closeLine_18 (hs : (shk r).1 = 100) : Wp mX2_closeLine d 18 L (.int x :: .int j :: .ref r :: S) M N P Q = (vp_in j (shk r).2 ∧ Wp mX2_closeLine d 19 L S (up2 M r j.toNatClampNeg x) N P Q) := wp_iastore rfl dX2_closeLine_18 (kd hs)
theorem sX2_closeLine_19 : Wp mX2_closeLine d 19 (.ref r :: L) S M N P Q = Wp mX2_closeLine d 20 (.ref r :: L) (.ref r :: S) M N P Q := wp_aload_n rfl dX2_closeLine_19 rfl
theorem sX2_closeLine_20 (hs : shk r = (2, 0)) : Wp mX2_closeLine d 20 L (.ref r :: S) M N P Q = Wp mX2_closeLine d 23 L (.ref (P r 3) :: S) M N P Q := wp_getfield rfl dX2_closeLine_20 rfl rfl hs rfl
theorem sX2_closeLine_23 : Wp mX2_closeLine d 23 (.ref r :: L) S M N P Q = Wp mX2_closeLine d 24 (.ref r :: L) (.ref r :: S) M N P Q := wp_aload_n rfl dX2_closeLine_23 rfl
theorem sX2_closeLine_24 (hs : shk r = (2, 0)) : Wp mX2_closeLine d 24 L (.ref r :: S) M N P Q = Wp mX2_closeLine d 27 L (.int (M r 6) :: S) M N P Q := wp_getfield rfl dX2_closeLine_24 rfl rfl hs rfl
theorem sX2_closeLine_27 : Wp mX2_closeLine d 27 (a0 :: a1 :: .int x :: L) S M N P Q = Wp mX2_closeLine d 28 (a0 :: a1 :: .int x :: L) (.int x :: S) M N P Q := wp_iload_n rfl dX2_closeLine_27 rfl
theorem sX2_closeLine_28 (hs : (shk r).1 = 100) : Wp mX2_closeLine d 28 L (.int x :: .int j :: .ref r :: S) M N P Q = (vp_in j (shk r).2 ∧ Wp mX2_closeLine d 29 L S (up2 M r j.toNatClampNeg x) N P Q) := wp_iastore rfl dX2_closeLine_28 (kd hs)
theorem sX2_closeLine_29 : Wp mX2_closeLine d 29 (.ref r :: L) S M N P Q = Wp mX2_closeLine d 30 (.ref r :: L) (.ref r :: S) M N P Q := wp_aload_n rfl dX2_closeLine_29 rfl
theorem sX2_closeLine_30 (hs : shk r = (2, 0)) : Wp mX2_closeLine d 30 L (.ref r :: S) M N P Q = Wp mX2_closeLine d 33 L (.ref (P r 1) :: S) M N P Q := wp_getfield rfl dX2_closeLine_30 rfl rfl hs rfl
theorem sX2_closeLine_33 : Wp mX2_closeLine d 33 (.ref r :: L) S M N P Q = Wp mX2_closeLine d 34 (.ref r :: L) (.ref r :: S) M N P Q := wp_aload_n rfl dX2_closeLine_33 rfl
theorem sX2_closeLine_34 (hs : shk r = (2, 0)) : Wp mX2_closeLine d 34 L (.ref r :: S) M N P Q = Wp mX2_closeLine d 37 L (.int (M r 6) :: S) M N P Q := wp_getfield rfl dX2_closeLine_34 rfl rfl hs rfl
theorem sX2_closeLine_37 : Wp mX2_closeLine d 37 (.ref r :: L) S M N P Q = Wp mX2_closeLine d 38 (.ref r :: L) (.ref r :: S) M N P Q := wp_aload_n rfl dX2_closeLine_37 rfl
theorem sX2_closeLine_38 (hs : shk r = (2, 0)) : Wp mX2_closeLine d 38 L (.ref r :: S) M N P Q = Wp mX2_closeLine d 41 L (.int (M r 5) :: S) M N P Q := wp_getfield rfl dX2_closeLine_38 rfl rfl hs rfl
theorem sX2_closeLine_41 (hs : (shk r).1 = 100) : Wp mX2_closeLine d 41 L (.int x :: .int j :: .ref r :: S) M N P Q = (vp_in j (shk r).2 ∧ Wp mX2_closeLine d 42 L S (up2 M r j.toNatClampNeg x) N P Q) := wp_iastore rfl dX2_closeLine_41 (kd hs)
theorem sX2_closeLine_42 : Wp mX2_closeLine d 42 (.ref r :: L) S M N P Q = Wp mX2_closeLine d 43 (.ref r :: L) (.ref r :: S) M N P Q := wp_aload_n rfl dX2_closeLine_42 rfl
theorem sX2_closeLine_43 (hv : a0.category = 1) : Wp mX2_closeLine d 43 L (a0 :: S) M N P Q = Wp mX2_closeLine d 44 L (a0 :: a0 :: S) M N P Q := wp_dup rfl dX2_closeLine_43 hv
theorem sX2_closeLine_44 (hs : shk r = (2, 0)) : Wp mX2_closeLine d 44 L (.ref r :: S) M N P Q = Wp mX2_closeLine d 47 L (.int (M r 6) :: S) M N P Q := wp_getfield rfl dX2_closeLine_44 rfl rfl hs rfl
theorem sX2_closeLine_47 : Wp mX2_closeLine d 47 L S M N P Q = Wp mX2_closeLine d 48 L (.int 1 :: S) M N P Q := wp_iconst rfl dX2_closeLine_47 rfl
theorem sX2_closeLine_48 : Wp mX2_closeLine d 48 L (.int z :: .int x :: S) M N P Q = Wp mX2_closeLine d 49 L (.int (x + z) :: S) M N P Q := wp_iadd rfl dX2_closeLine_48
theorem sX2_closeLine_49 (hs : shk r = (2, 0)) : Wp mX2_closeLine d 49 L (.int x :: .ref r :: S) M N P Q = Wp mX2_closeLine d 52 L S (up2 M r 6 x) N P Q := wp_putI rfl dX2_closeLine_49 rfl rfl hs rfl ⟨_, _, _, _, rfl, by decide, rfl, tyX2_ok 6 (by decide), rfl, rfl⟩
theorem sX2_closeLine_52 : Wp mX2_closeLine d 52 L [] M N P Q = Q none M N P := wp_vret rfl dX2_closeLine_52 rfl
theorem sX2_firstLineThatHolds_0 : Wp mX2_firstLineThatHolds d 0 L S M N P Q = Wp mX2_firstLineThatHolds d 1 L (.int 0 :: S) M N P Q := wp_iconst rfl dX2_firstLineThatHolds_0 rfl
theorem sX2_firstLineThatHolds_1 (hn : nl a1 = true) : Wp mX2_firstLineThatHolds d 1 (a0 :: a1 :: a2 :: L) (.int x :: S) M N P Q = Wp mX2_firstLineThatHolds d 2 (a0 :: a1 :: .int x :: L) S M N P Q := wp_istore_n rfl dX2_firstLineThatHolds_1 (lenGt2 ..) (okst2 hn) rfl
theorem sX2_firstLineThatHolds_2 : Wp mX2_firstLineThatHolds d 2 L S M N P Q = Wp mX2_firstLineThatHolds d 3 L (.int 0 :: S) M N P Q := wp_iconst rfl dX2_firstLineThatHolds_2 rfl
theorem sX2_firstLineThatHolds_3 (hn : nl a2 = true) : Wp mX2_firstLineThatHolds d 3 (a0 :: a1 :: a2 :: a3 :: L) (.int x :: S) M N P Q = Wp mX2_firstLineThatHolds d 4 (a0 :: a1 :: a2 :: .int x :: L) S M N P Q := wp_istore_n rfl dX2_firstLineThatHolds_3 (lenGt3 ..) (okst3 hn) rfl
theorem sX2_firstLineThatHolds_4 : Wp mX2_firstLineThatHolds d 4 (a0 :: a1 :: a2 :: .int x :: L) S M N P Q = Wp mX2_firstLineThatHolds d 5 (a0 :: a1 :: a2 :: .int x :: L) (.int x :: S) M N P Q := wp_iload_n rfl dX2_firstLineThatHolds_4 rfl
theorem sX2_firstLineThatHolds_5 : Wp mX2_firstLineThatHolds d 5 (.ref r :: L) S M N P Q = Wp mX2_firstLineThatHolds d 6 (.ref r :: L) (.ref r :: S) M N P Q := wp_aload_n rfl dX2_firstLineThatHolds_5 rfl
theorem sX2_firstLineThatHolds_6 (hs : shk r = (2, 0)) : Wp mX2_firstLineThatHolds d 6 L (.ref r :: S) M N P Q = Wp mX2_firstLineThatHolds d 9 L (.int (M r 6) :: S) M N P Q := wp_getfield rfl dX2_firstLineThatHolds_6 rfl rfl hs rfl
theorem sX2_firstLineThatHolds_9 : Wp mX2_firstLineThatHolds d 9 L (.int z :: .int x :: S) M N P Q = (if z ≤ x then Wp mX2_firstLineThatHolds d 42 L S M N P Q else Wp mX2_firstLineThatHolds d 12 L S M N P Q) := wp_icmp_ge rfl dX2_firstLineThatHolds_9 rfl
theorem sX2_firstLineThatHolds_12 : Wp mX2_firstLineThatHolds d 12 (.ref r :: L) S M N P Q = Wp mX2_firstLineThatHolds d 13 (.ref r :: L) (.ref r :: S) M N P Q := wp_aload_n rfl dX2_firstLineThatHolds_12 rfl
theorem sX2_firstLineThatHolds_13 : Wp mX2_firstLineThatHolds d 13 (a0 :: a1 :: .int x :: L) S M N P Q = Wp mX2_firstLineThatHolds d 14 (a0 :: a1 :: .int x :: L) (.int x :: S) M N P Q := wp_iload_n rfl dX2_firstLineThatHolds_13 rfl
theorem sX2_firstLineThatHolds_14 : Wp mX2_firstLineThatHolds d 14 (.ref r :: L) S M N P Q = Wp mX2_firstLineThatHolds d 15 (.ref r :: L) (.ref r :: S) M N P Q := wp_aload_n rfl dX2_firstLineThatHolds_14 rfl
theorem sX2_firstLineThatHolds_15 (hs : shk r = (2, 0)) : Wp mX2_firstLineThatHolds d 15 L (.ref r :: S) M N P Q = Wp mX2_firstLineThatHolds d 18 L (.ref (P r 1) :: S) M N P Q := wp_getfield rfl dX2_firstLineThatHolds_15 rfl rfl hs rfl
theorem sX2_firstLineThatHolds_18 : Wp mX2_firstLineThatHolds d 18 (a0 :: a1 :: a2 :: .int x :: L) S M N P Q = Wp mX2_firstLineThatHolds d 19 (a0 :: a1 :: a2 :: .int x :: L) (.int x :: S) M N P Q := wp_iload_n rfl dX2_firstLineThatHolds_18 rfl
theorem sX2_firstLineThatHolds_19 (hs : (shk r).1 = 100) : Wp mX2_firstLineThatHolds d 19 L (.int j :: .ref r :: S) M N P Q = (vp_in j (shk r).2 ∧ Wp mX2_firstLineThatHolds d 20 L (.int (M r j.toNatClampNeg) :: S) M N P Q) := wp_iaload rfl dX2_firstLineThatHolds_19 (kd hs)
theorem sX2_firstLineThatHolds_20 : Wp mX2_firstLineThatHolds d 20 (a0 :: .ref r :: L) S M N P Q = Wp mX2_firstLineThatHolds d 21 (a0 :: .ref r :: L) (.ref r :: S) M N P Q := wp_aload_n rfl dX2_firstLineThatHolds_20 rfl
theorem sX2_firstLineThatHolds_21 {x0 : Int32} {x1 : Int32} {r2 : Nat} (hs : shk r = (2, 0)) (hS : stk S ≤ 8) : Wp mX2_firstLineThatHolds (d + 1) 21 L (.ref r2 :: .int x1 :: .int x0 :: .ref r :: S) M N P Q = Wp mX2_valueOf d 0 [.ref r, .int x0, .int x1, .ref r2, .float 0, .float 0, .float 0, .float 0] [] M N P (fun v M' N' P' => Wp mX2_firstLineThatHolds (d + 1) 24 L (v.toList ++ S) M' N' P' Q) := wp_callV (As := [.int x0, .int x1, .ref r2]) rfl dX2_firstLineThatHolds_21 rfl rfl (Or.inl ⟨_, _, _, hs, rfl⟩) rfl ⟨rfl, Nat.le_of_ble_eq_true rfl, Nat.le_of_ble_eq_true rfl⟩ rfl hS
theorem sX2_firstLineThatHolds_24 : Wp mX2_firstLineThatHolds d 24 L (.int x :: S) M N P Q = (if x = 0 then Wp mX2_firstLineThatHolds d 29 L S M N P Q else Wp mX2_firstLineThatHolds d 27 L S M N P Q) := wp_if_eq rfl dX2_firstLineThatHolds_24 rfl
theorem sX2_firstLineThatHolds_27 : Wp mX2_firstLineThatHolds d 27 (a0 :: a1 :: a2 :: .int x :: L) S M N P Q = Wp mX2_firstLineThatHolds d 28 (a0 :: a1 :: a2 :: .int x :: L) (.int x :: S) M N P Q := wp_iload_n rfl dX2_firstLineThatHolds_27 rfl
theorem sX2_firstLineThatHolds_28 : Wp mX2_firstLineThatHolds d 28 L [.int x] M N P Q = Q (some (.int x)) M N P := wp_iret rfl dX2_firstLineThatHolds_28 rfl rfl
theorem sX2_firstLineThatHolds_29 : Wp mX2_firstLineThatHolds d 29 (.ref r :: L) S M N P Q = Wp mX2_firstLineThatHolds d 30 (.ref r :: L) (.ref r :: S) M N P Q := wp_aload_n rfl dX2_firstLineThatHolds_29 rfl
theorem sX2_firstLineThatHolds_30 (hs : shk r = (2, 0)) : Wp mX2_firstLineThatHolds d 30 L (.ref r :: S) M N P Q = Wp mX2_firstLineThatHolds d 33 L (.ref (P r 1) :: S) M N P Q := wp_getfield rfl dX2_firstLineThatHolds_30 rfl rfl hs rfl
theorem sX2_firstLineThatHolds_33 : Wp mX2_firstLineThatHolds d 33 (a0 :: a1 :: a2 :: .int x :: L) S M N P Q = Wp mX2_firstLineThatHolds d 34 (a0 :: a1 :: a2 :: .int x :: L) (.int x :: S) M N P Q := wp_iload_n rfl dX2_firstLineThatHolds_33 rfl
theorem sX2_firstLineThatHolds_34 (hs : (shk r).1 = 100) : Wp mX2_firstLineThatHolds d 34 L (.int j :: .ref r :: S) M N P Q = (vp_in j (shk r).2 ∧ Wp mX2_firstLineThatHolds d 35 L (.int (M r j.toNatClampNeg) :: S) M N P Q) := wp_iaload rfl dX2_firstLineThatHolds_34 (kd hs)
theorem sX2_firstLineThatHolds_35 (hn : nl a1 = true) : Wp mX2_firstLineThatHolds d 35 (a0 :: a1 :: a2 :: L) (.int x :: S) M N P Q = Wp mX2_firstLineThatHolds d 36 (a0 :: a1 :: .int x :: L) S M N P Q := wp_istore_n rfl dX2_firstLineThatHolds_35 (lenGt2 ..) (okst2 hn) rfl
theorem sX2_firstLineThatHolds_36 (hn : nl a2 = true) : Wp mX2_firstLineThatHolds d 36 (a0 :: a1 :: a2 :: .int x :: L) S M N P Q = Wp mX2_firstLineThatHolds d 39 (a0 :: a1 :: a2 :: .int (x + 1) :: L) S M N P Q := wp_iinc rfl dX2_firstLineThatHolds_36 rfl rfl (okst3 hn) rfl
theorem sX2_firstLineThatHolds_39 : Wp mX2_firstLineThatHolds d 39 L S M N P Q = Wp mX2_firstLineThatHolds d 4 L S M N P Q := wp_goto rfl dX2_firstLineThatHolds_39 rfl
theorem sX2_firstLineThatHolds_42 : Wp mX2_firstLineThatHolds d 42 L S M N P Q = Wp mX2_firstLineThatHolds d 43 L (.int (-1) :: S) M N P Q := wp_iconst rfl dX2_firstLineThatHolds_42 rfl
theorem sX2_firstLineThatHolds_43 : Wp mX2_firstLineThatHolds d 43 L [.int x] M N P Q = Q (some (.int x)) M N P := wp_iret rfl dX2_firstLineThatHolds_43 rfl rfl
theorem sX2_valueOf_0 : Wp mX2_valueOf d 0 L S M N P Q = Wp mX2_valueOf d 1 L (.int (-1) :: S) M N P Q := wp_iconst rfl dX2_valueOf_0 rfl
theorem sX2_valueOf_1 (hn : nl a3 = true) : Wp mX2_valueOf d 1 (a0 :: a1 :: a2 :: a3 :: a4 :: L) (.int x :: S) M N P Q = Wp mX2_valueOf d 3 (a0 :: a1 :: a2 :: a3 :: .int x :: L) S M N P Q := wp_istore rfl dX2_valueOf_1 (lenGt4 ..) (okst4 hn) rfl
theorem sX2_valueOf_3 : Wp mX2_valueOf d 3 (a0 :: .int x :: L) S M N P Q = Wp mX2_valueOf d 4 (a0 :: .int x :: L) (.int x :: S) M N P Q := wp_iload_n rfl dX2_valueOf_3 rfl
theorem sX2_valueOf_4 (hn : nl a4 = true) : Wp mX2_valueOf d 4 (a0 :: a1 :: a2 :: a3 :: a4 :: a5 :: L) (.int x :: S) M N P Q = Wp mX2_valueOf d 6 (a0 :: a1 :: a2 :: a3 :: a4 :: .int x :: L) S M N P Q := wp_istore rfl dX2_valueOf_4 (lenGt5 ..) (okst5 hn) rfl
theorem sX2_valueOf_6 : Wp mX2_valueOf d 6 (a0 :: a1 :: a2 :: a3 :: a4 :: .int x :: L) S M N P Q = Wp mX2_valueOf d 8 (a0 :: a1 :: a2 :: a3 :: a4 :: .int x :: L) (.int x :: S) M N P Q := wp_iload rfl dX2_valueOf_6 rfl
theorem sX2_valueOf_8 : Wp mX2_valueOf d 8 (a0 :: a1 :: .int x :: L) S M N P Q = Wp mX2_valueOf d 9 (a0 :: a1 :: .int x :: L) (.int x :: S) M N P Q := wp_iload_n rfl dX2_valueOf_8 rfl
theorem sX2_valueOf_9 : Wp mX2_valueOf d 9 L (.int z :: .int x :: S) M N P Q = (if z ≤ x then Wp mX2_valueOf d 179 L S M N P Q else Wp mX2_valueOf d 12 L S M N P Q) := wp_icmp_ge rfl dX2_valueOf_9 rfl
theorem sX2_valueOf_12 : Wp mX2_valueOf d 12 (.ref r :: L) S M N P Q = Wp mX2_valueOf d 13 (.ref r :: L) (.ref r :: S) M N P Q := wp_aload_n rfl dX2_valueOf_12 rfl
theorem sX2_valueOf_13 (hs : shk r = (2, 0)) : Wp mX2_valueOf d 13 L (.ref r :: S) M N P Q = Wp mX2_valueOf d 16 L (.ref (P r 0) :: S) M N P Q := wp_getfield rfl dX2_valueOf_13 rfl rfl hs rfl
theorem sX2_valueOf_16 : Wp mX2_valueOf d 16 (a0 :: a1 :: a2 :: a3 :: a4 :: .int x :: L) S M N P Q = Wp mX2_valueOf d 18 (a0 :: a1 :: a2 :: a3 :: a4 :: .int x :: L) (.int x :: S) M N P Q := wp_iload rfl dX2_valueOf_16 rfl
theorem sX2_valueOf_18 (hs : (shk r).1 = 100) : Wp mX2_valueOf d 18 L (.int j :: .ref r :: S) M N P Q = (vp_in j (shk r).2 ∧ Wp mX2_valueOf d 19 L (.int (M r j.toNatClampNeg) :: S) M N P Q) := wp_iaload rfl dX2_valueOf_18 (kd hs)
theorem sX2_valueOf_19 : Wp mX2_valueOf d 19 L S M N P Q = Wp mX2_valueOf d 21 L (.int 16 :: S) M N P Q := wp_bipush rfl dX2_valueOf_19 rfl
theorem sX2_valueOf_21 : Wp mX2_valueOf d 21 L (.int z :: .int x :: S) M N P Q = (¬ z = 0 ∧ Wp mX2_valueOf d 22 L (.int (x - x / z * z) :: S) M N P Q) := wp_irem rfl dX2_valueOf_21
theorem sX2_valueOf_22 (hn : nl a5 = true) : Wp mX2_valueOf d 22 (a0 :: a1 :: a2 :: a3 :: a4 :: a5 :: a6 :: L) (.int x :: S) M N P Q = Wp mX2_valueOf d 24 (a0 :: a1 :: a2 :: a3 :: a4 :: a5 :: .int x :: L) S M N P Q := wp_istore rfl dX2_valueOf_22 (lenGt6 ..) (okst6 hn) rfl
theorem sX2_valueOf_24 : Wp mX2_valueOf d 24 (.ref r :: L) S M N P Q = Wp mX2_valueOf d 25 (.ref r :: L) (.ref r :: S) M N P Q := wp_aload_n rfl dX2_valueOf_24 rfl
theorem sX2_valueOf_25 (hs : shk r = (2, 0)) : Wp mX2_valueOf d 25 L (.ref r :: S) M N P Q = Wp mX2_valueOf d 28 L (.ref (P r 0) :: S) M N P Q := wp_getfield rfl dX2_valueOf_25 rfl rfl hs rfl
theorem sX2_valueOf_28 : Wp mX2_valueOf d 28 (a0 :: a1 :: a2 :: a3 :: a4 :: .int x :: L) S M N P Q = Wp mX2_valueOf d 30 (a0 :: a1 :: a2 :: a3 :: a4 :: .int x :: L) (.int x :: S) M N P Q := wp_iload rfl dX2_valueOf_28 rfl
theorem sX2_valueOf_30 (hs : (shk r).1 = 100) : Wp mX2_valueOf d 30 L (.int j :: .ref r :: S) M N P Q = (vp_in j (shk r).2 ∧ Wp mX2_valueOf d 31 L (.int (M r j.toNatClampNeg) :: S) M N P Q) := wp_iaload rfl dX2_valueOf_30 (kd hs)
theorem sX2_valueOf_31 : Wp mX2_valueOf d 31 L S M N P Q = Wp mX2_valueOf d 33 L (.int 16 :: S) M N P Q := wp_bipush rfl dX2_valueOf_31 rfl
theorem sX2_valueOf_33 : Wp mX2_valueOf d 33 L (.int z :: .int x :: S) M N P Q = (¬ z = 0 ∧ Wp mX2_valueOf d 34 L (.int (x / z) :: S) M N P Q) := wp_idiv rfl dX2_valueOf_33
theorem sX2_valueOf_34 (hn : nl a6 = true) : Wp mX2_valueOf d 34 (a0 :: a1 :: a2 :: a3 :: a4 :: a5 :: a6 :: a7 :: L) (.int x :: S) M N P Q = Wp mX2_valueOf d 36 (a0 :: a1 :: a2 :: a3 :: a4 :: a5 :: a6 :: .int x :: L) S M N P Q := wp_istore rfl dX2_valueOf_34 (lenGt7 ..) (okst7 hn) rfl
theorem sX2_valueOf_36 : Wp mX2_valueOf d 36 (a0 :: a1 :: a2 :: a3 :: a4 :: a5 :: .int x :: L) S M N P Q = Wp mX2_valueOf d 38 (a0 :: a1 :: a2 :: a3 :: a4 :: a5 :: .int x :: L) (.int x :: S) M N P Q := wp_iload rfl dX2_valueOf_36 rfl
theorem sX2_valueOf_38 : Wp mX2_valueOf d 38 L (.int x :: S) M N P Q = (if x = 0 then Wp mX2_valueOf d 47 L S M N P Q else Wp mX2_valueOf d 41 L S M N P Q) := wp_if_eq rfl dX2_valueOf_38 rfl
theorem sX2_valueOf_41 : Wp mX2_valueOf d 41 (a0 :: a1 :: a2 :: a3 :: a4 :: a5 :: .int x :: L) S M N P Q = Wp mX2_valueOf d 43 (a0 :: a1 :: a2 :: a3 :: a4 :: a5 :: .int x :: L) (.int x :: S) M N P Q := wp_iload rfl dX2_valueOf_41 rfl
theorem sX2_valueOf_43 : Wp mX2_valueOf d 43 L S M N P Q = Wp mX2_valueOf d 44 L (.int 1 :: S) M N P Q := wp_iconst rfl dX2_valueOf_43 rfl
theorem sX2_valueOf_44 : Wp mX2_valueOf d 44 L (.int z :: .int x :: S) M N P Q = (if x = z then Wp mX2_valueOf d 47 L S M N P Q else Wp mX2_valueOf d 97 L S M N P Q) := wp_icmp_ne rfl dX2_valueOf_44 rfl
theorem sX2_valueOf_47 (hn : nl a3 = true) : Wp mX2_valueOf d 47 (a0 :: a1 :: a2 :: a3 :: .int x :: L) S M N P Q = Wp mX2_valueOf d 50 (a0 :: a1 :: a2 :: a3 :: .int (x + 1) :: L) S M N P Q := wp_iinc rfl dX2_valueOf_47 rfl rfl (okst4 hn) rfl
theorem sX2_valueOf_50 : Wp mX2_valueOf d 50 (a0 :: a1 :: a2 :: a3 :: .int x :: L) S M N P Q = Wp mX2_valueOf d 52 (a0 :: a1 :: a2 :: a3 :: .int x :: L) (.int x :: S) M N P Q := wp_iload rfl dX2_valueOf_50 rfl
theorem sX2_valueOf_52 : Wp mX2_valueOf d 52 L S M N P Q = Wp mX2_valueOf d 54 L (.int 32 :: S) M N P Q := wp_bipush rfl dX2_valueOf_52 rfl
theorem sX2_valueOf_54 : Wp mX2_valueOf d 54 L (.int z :: .int x :: S) M N P Q = (if z ≤ x then Wp mX2_valueOf d 70 L S M N P Q else Wp mX2_valueOf d 57 L S M N P Q) := wp_icmp_ge rfl dX2_valueOf_54 rfl
theorem sX2_valueOf_57 : Wp mX2_valueOf d 57 (a0 :: a1 :: a2 :: a3 :: a4 :: a5 :: .int x :: L) S M N P Q = Wp mX2_valueOf d 59 (a0 :: a1 :: a2 :: a3 :: a4 :: a5 :: .int x :: L) (.int x :: S) M N P Q := wp_iload rfl dX2_valueOf_57 rfl
theorem sX2_valueOf_59 : Wp mX2_valueOf d 59 L S M N P Q = Wp mX2_valueOf d 60 L (.int 1 :: S) M N P Q := wp_iconst rfl dX2_valueOf_59 rfl
theorem sX2_valueOf_60 : Wp mX2_valueOf d 60 L (.int z :: .int x :: S) M N P Q = (if x = z then Wp mX2_valueOf d 63 L S M N P Q else Wp mX2_valueOf d 72 L S M N P Q) := wp_icmp_ne rfl dX2_valueOf_60 rfl
theorem sX2_valueOf_63 : Wp mX2_valueOf d 63 (a0 :: a1 :: a2 :: a3 :: a4 :: a5 :: a6 :: .int x :: L) S M N P Q = Wp mX2_valueOf d 65 (a0 :: a1 :: a2 :: a3 :: a4 :: a5 :: a6 :: .int x :: L) (.int x :: S) M N P Q := wp_iload rfl dX2_valueOf_63 rfl
theorem sX2_valueOf_65 : Wp mX2_valueOf d 65 (a0 :: a1 :: a2 :: .ref r :: L) S M N P Q = Wp mX2_valueOf d 66 (a0 :: a1 :: a2 :: .ref r :: L) (.ref r :: S) M N P Q := wp_aload_n rfl dX2_valueOf_65 rfl
theorem sX2_valueOf_66 (h1 : isA (shk r).1 = true) : Wp mX2_valueOf d 66 L (.ref r :: S) M N P Q = Wp mX2_valueOf d 67 L (.int (nI (shk r).2) :: S) M N P Q := wp_arraylength rfl dX2_valueOf_66 (kd rfl) (isA_le h1).1 (isA_le h1).2
theorem sX2_valueOf_67 : Wp mX2_valueOf d 67 L (.int z :: .int x :: S) M N P Q = (if x < z then Wp mX2_valueOf d 72 L S M N P Q else Wp mX2_valueOf d 70 L S M N P Q) := wp_icmp_lt rfl dX2_valueOf_67 rfl
theorem sX2_valueOf_70 : Wp mX2_valueOf d 70 L S M N P Q = Wp mX2_valueOf d 71 L (.int 0 :: S) M N P Q := wp_iconst rfl dX2_valueOf_70 rfl
theorem sX2_valueOf_71 : Wp mX2_valueOf d 71 L [.int x] M N P Q = Q (some (.int x)) M N P := wp_iret rfl dX2_valueOf_71 rfl rfl
theorem sX2_valueOf_72 : Wp mX2_valueOf d 72 (.ref r :: L) S M N P Q = Wp mX2_valueOf d 73 (.ref r :: L) (.ref r :: S) M N P Q := wp_aload_n rfl dX2_valueOf_72 rfl
theorem sX2_valueOf_73 (hs : shk r = (2, 0)) : Wp mX2_valueOf d 73 L (.ref r :: S) M N P Q = Wp mX2_valueOf d 76 L (.ref (P r 4) :: S) M N P Q := wp_getfield rfl dX2_valueOf_73 rfl rfl hs rfl
theorem sX2_valueOf_76 : Wp mX2_valueOf d 76 (a0 :: a1 :: a2 :: a3 :: .int x :: L) S M N P Q = Wp mX2_valueOf d 78 (a0 :: a1 :: a2 :: a3 :: .int x :: L) (.int x :: S) M N P Q := wp_iload rfl dX2_valueOf_76 rfl
theorem sX2_valueOf_78 : Wp mX2_valueOf d 78 (a0 :: a1 :: a2 :: a3 :: a4 :: a5 :: .int x :: L) S M N P Q = Wp mX2_valueOf d 80 (a0 :: a1 :: a2 :: a3 :: a4 :: a5 :: .int x :: L) (.int x :: S) M N P Q := wp_iload rfl dX2_valueOf_78 rfl
theorem sX2_valueOf_80 : Wp mX2_valueOf d 80 L S M N P Q = Wp mX2_valueOf d 81 L (.int 1 :: S) M N P Q := wp_iconst rfl dX2_valueOf_80 rfl
theorem sX2_valueOf_81 : Wp mX2_valueOf d 81 L (.int z :: .int x :: S) M N P Q = (if x = z then Wp mX2_valueOf d 84 L S M N P Q else Wp mX2_valueOf d 91 L S M N P Q) := wp_icmp_ne rfl dX2_valueOf_81 rfl
theorem sX2_valueOf_84 : Wp mX2_valueOf d 84 (a0 :: a1 :: a2 :: .ref r :: L) S M N P Q = Wp mX2_valueOf d 85 (a0 :: a1 :: a2 :: .ref r :: L) (.ref r :: S) M N P Q := wp_aload_n rfl dX2_valueOf_84 rfl
theorem sX2_valueOf_85 : Wp mX2_valueOf d 85 (a0 :: a1 :: a2 :: a3 :: a4 :: a5 :: a6 :: .int x :: L) S M N P Q = Wp mX2_valueOf d 87 (a0 :: a1 :: a2 :: a3 :: a4 :: a5 :: a6 :: .int x :: L) (.int x :: S) M N P Q := wp_iload rfl dX2_valueOf_85 rfl
theorem sX2_valueOf_87 (hs : (shk r).1 = 100) : Wp mX2_valueOf d 87 L (.int j :: .ref r :: S) M N P Q = (vp_in j (shk r).2 ∧ Wp mX2_valueOf d 88 L (.int (M r j.toNatClampNeg) :: S) M N P Q) := wp_iaload rfl dX2_valueOf_87 (kd hs)
theorem sX2_valueOf_88 : Wp mX2_valueOf d 88 L S M N P Q = Wp mX2_valueOf d 93 L S M N P Q := wp_goto rfl dX2_valueOf_88 rfl
theorem sX2_valueOf_91 : Wp mX2_valueOf d 91 (a0 :: a1 :: a2 :: a3 :: a4 :: a5 :: a6 :: .int x :: L) S M N P Q = Wp mX2_valueOf d 93 (a0 :: a1 :: a2 :: a3 :: a4 :: a5 :: a6 :: .int x :: L) (.int x :: S) M N P Q := wp_iload rfl dX2_valueOf_91 rfl
theorem sX2_valueOf_93 (hs : (shk r).1 = 100) : Wp mX2_valueOf d 93 L (.int x :: .int j :: .ref r :: S) M N P Q = (vp_in j (shk r).2 ∧ Wp mX2_valueOf d 94 L S (up2 M r j.toNatClampNeg x) N P Q) := wp_iastore rfl dX2_valueOf_93 (kd hs)
theorem sX2_valueOf_94 : Wp mX2_valueOf d 94 L S M N P Q = Wp mX2_valueOf d 173 L S M N P Q := wp_goto rfl dX2_valueOf_94 rfl
theorem sX2_valueOf_97 : Wp mX2_valueOf d 97 (a0 :: a1 :: a2 :: a3 :: a4 :: a5 :: .int x :: L) S M N P Q = Wp mX2_valueOf d 99 (a0 :: a1 :: a2 :: a3 :: a4 :: a5 :: .int x :: L) (.int x :: S) M N P Q := wp_iload rfl dX2_valueOf_97 rfl
theorem sX2_valueOf_99 : Wp mX2_valueOf d 99 L S M N P Q = Wp mX2_valueOf d 100 L (.int 2 :: S) M N P Q := wp_iconst rfl dX2_valueOf_99 rfl
theorem sX2_valueOf_100 : Wp mX2_valueOf d 100 L (.int z :: .int x :: S) M N P Q = (if x = z then Wp mX2_valueOf d 103 L S M N P Q else Wp mX2_valueOf d 136 L S M N P Q) := wp_icmp_ne rfl dX2_valueOf_100 rfl
theorem sX2_valueOf_103 : Wp mX2_valueOf d 103 (a0 :: a1 :: a2 :: a3 :: .int x :: L) S M N P Q = Wp mX2_valueOf d 105 (a0 :: a1 :: a2 :: a3 :: .int x :: L) (.int x :: S) M N P Q := wp_iload rfl dX2_valueOf_103 rfl
theorem sX2_valueOf_105 : Wp mX2_valueOf d 105 L (.int x :: S) M N P Q = (if x < 0 then Wp mX2_valueOf d 136 L S M N P Q else Wp mX2_valueOf d 108 L S M N P Q) := wp_if_lt rfl dX2_valueOf_105 rfl
theorem sX2_valueOf_108 : Wp mX2_valueOf d 108 (.ref r :: L) S M N P Q = Wp mX2_valueOf d 109 (.ref r :: L) (.ref r :: S) M N P Q := wp_aload_n rfl dX2_valueOf_108 rfl
theorem sX2_valueOf_109 (hs : shk r = (2, 0)) : Wp mX2_valueOf d 109 L (.ref r :: S) M N P Q = Wp mX2_valueOf d 112 L (.ref (P r 4) :: S) M N P Q := wp_getfield rfl dX2_valueOf_109 rfl rfl hs rfl
theorem sX2_valueOf_112 : Wp mX2_valueOf d 112 (a0 :: a1 :: a2 :: a3 :: .int x :: L) S M N P Q = Wp mX2_valueOf d 114 (a0 :: a1 :: a2 :: a3 :: .int x :: L) (.int x :: S) M N P Q := wp_iload rfl dX2_valueOf_112 rfl
theorem sX2_valueOf_114 : Wp mX2_valueOf d 114 (.ref r :: L) S M N P Q = Wp mX2_valueOf d 115 (.ref r :: L) (.ref r :: S) M N P Q := wp_aload_n rfl dX2_valueOf_114 rfl
theorem sX2_valueOf_115 (hs : shk r = (2, 0)) : Wp mX2_valueOf d 115 L (.ref r :: S) M N P Q = Wp mX2_valueOf d 118 L (.ref (P r 4) :: S) M N P Q := wp_getfield rfl dX2_valueOf_115 rfl rfl hs rfl
theorem sX2_valueOf_118 : Wp mX2_valueOf d 118 (a0 :: a1 :: a2 :: a3 :: .int x :: L) S M N P Q = Wp mX2_valueOf d 120 (a0 :: a1 :: a2 :: a3 :: .int x :: L) (.int x :: S) M N P Q := wp_iload rfl dX2_valueOf_118 rfl
theorem sX2_valueOf_120 (hs : (shk r).1 = 100) : Wp mX2_valueOf d 120 L (.int j :: .ref r :: S) M N P Q = (vp_in j (shk r).2 ∧ Wp mX2_valueOf d 121 L (.int (M r j.toNatClampNeg) :: S) M N P Q) := wp_iaload rfl dX2_valueOf_120 (kd hs)
theorem sX2_valueOf_121 : Wp mX2_valueOf d 121 L (.int x :: S) M N P Q = (if x = 0 then Wp mX2_valueOf d 124 L S M N P Q else Wp mX2_valueOf d 128 L S M N P Q) := wp_if_ne rfl dX2_valueOf_121 rfl
theorem sX2_valueOf_124 : Wp mX2_valueOf d 124 L S M N P Q = Wp mX2_valueOf d 125 L (.int 1 :: S) M N P Q := wp_iconst rfl dX2_valueOf_124 rfl
theorem sX2_valueOf_125 : Wp mX2_valueOf d 125 L S M N P Q = Wp mX2_valueOf d 129 L S M N P Q := wp_goto rfl dX2_valueOf_125 rfl
theorem sX2_valueOf_128 : Wp mX2_valueOf d 128 L S M N P Q = Wp mX2_valueOf d 129 L (.int 0 :: S) M N P Q := wp_iconst rfl dX2_valueOf_128 rfl
theorem sX2_valueOf_129 {x0 : Int32} (hS : stk S ≤ 8) : Wp mX2_valueOf (d + 1) 129 L (.int x0 :: S) M N P Q = Wp mX11_truth d 0 [.int x0] [] M N P (fun v M' N' P' => Wp mX2_valueOf (d + 1) 132 L (v.toList ++ S) M' N' P' Q) := wp_callS (As := [.int x0]) rfl dX2_valueOf_129 rfl rfl rfl ⟨rfl, Nat.le_of_ble_eq_true rfl, Nat.le_of_ble_eq_true rfl⟩ rfl hS
theorem sX2_valueOf_132 (hs : (shk r).1 = 100) : Wp mX2_valueOf d 132 L (.int x :: .int j :: .ref r :: S) M N P Q = (vp_in j (shk r).2 ∧ Wp mX2_valueOf d 133 L S (up2 M r j.toNatClampNeg x) N P Q) := wp_iastore rfl dX2_valueOf_132 (kd hs)
theorem sX2_valueOf_133 : Wp mX2_valueOf d 133 L S M N P Q = Wp mX2_valueOf d 173 L S M N P Q := wp_goto rfl dX2_valueOf_133 rfl
theorem sX2_valueOf_136 : Wp mX2_valueOf d 136 (a0 :: a1 :: a2 :: a3 :: .int x :: L) S M N P Q = Wp mX2_valueOf d 138 (a0 :: a1 :: a2 :: a3 :: .int x :: L) (.int x :: S) M N P Q := wp_iload rfl dX2_valueOf_136 rfl
theorem sX2_valueOf_138 : Wp mX2_valueOf d 138 L S M N P Q = Wp mX2_valueOf d 139 L (.int 1 :: S) M N P Q := wp_iconst rfl dX2_valueOf_138 rfl
theorem sX2_valueOf_139 : Wp mX2_valueOf d 139 L (.int z :: .int x :: S) M N P Q = (if x < z then Wp mX2_valueOf d 173 L S M N P Q else Wp mX2_valueOf d 142 L S M N P Q) := wp_icmp_lt rfl dX2_valueOf_139 rfl
theorem sX2_valueOf_142 (hn : nl a3 = true) : Wp mX2_valueOf d 142 (a0 :: a1 :: a2 :: a3 :: .int x :: L) S M N P Q = Wp mX2_valueOf d 145 (a0 :: a1 :: a2 :: a3 :: .int (x + (-1)) :: L) S M N P Q := wp_iinc rfl dX2_valueOf_142 rfl rfl (okst4 hn) rfl
theorem sX2_valueOf_145 : Wp mX2_valueOf d 145 (.ref r :: L) S M N P Q = Wp mX2_valueOf d 146 (.ref r :: L) (.ref r :: S) M N P Q := wp_aload_n rfl dX2_valueOf_145 rfl
theorem sX2_valueOf_146 (hs : shk r = (2, 0)) : Wp mX2_valueOf d 146 L (.ref r :: S) M N P Q = Wp mX2_valueOf d 149 L (.ref (P r 4) :: S) M N P Q := wp_getfield rfl dX2_valueOf_146 rfl rfl hs rfl
theorem sX2_valueOf_149 : Wp mX2_valueOf d 149 (a0 :: a1 :: a2 :: a3 :: .int x :: L) S M N P Q = Wp mX2_valueOf d 151 (a0 :: a1 :: a2 :: a3 :: .int x :: L) (.int x :: S) M N P Q := wp_iload rfl dX2_valueOf_149 rfl
theorem sX2_valueOf_151 : Wp mX2_valueOf d 151 (a0 :: a1 :: a2 :: a3 :: a4 :: a5 :: .int x :: L) S M N P Q = Wp mX2_valueOf d 153 (a0 :: a1 :: a2 :: a3 :: a4 :: a5 :: .int x :: L) (.int x :: S) M N P Q := wp_iload rfl dX2_valueOf_151 rfl
theorem sX2_valueOf_153 : Wp mX2_valueOf d 153 (.ref r :: L) S M N P Q = Wp mX2_valueOf d 154 (.ref r :: L) (.ref r :: S) M N P Q := wp_aload_n rfl dX2_valueOf_153 rfl
theorem sX2_valueOf_154 (hs : shk r = (2, 0)) : Wp mX2_valueOf d 154 L (.ref r :: S) M N P Q = Wp mX2_valueOf d 157 L (.ref (P r 4) :: S) M N P Q := wp_getfield rfl dX2_valueOf_154 rfl rfl hs rfl
theorem sX2_valueOf_157 : Wp mX2_valueOf d 157 (a0 :: a1 :: a2 :: a3 :: .int x :: L) S M N P Q = Wp mX2_valueOf d 159 (a0 :: a1 :: a2 :: a3 :: .int x :: L) (.int x :: S) M N P Q := wp_iload rfl dX2_valueOf_157 rfl
theorem sX2_valueOf_159 (hs : (shk r).1 = 100) : Wp mX2_valueOf d 159 L (.int j :: .ref r :: S) M N P Q = (vp_in j (shk r).2 ∧ Wp mX2_valueOf d 160 L (.int (M r j.toNatClampNeg) :: S) M N P Q) := wp_iaload rfl dX2_valueOf_159 (kd hs)
theorem sX2_valueOf_160 : Wp mX2_valueOf d 160 (.ref r :: L) S M N P Q = Wp mX2_valueOf d 161 (.ref r :: L) (.ref r :: S) M N P Q := wp_aload_n rfl dX2_valueOf_160 rfl
theorem sX2_valueOf_161 (hs : shk r = (2, 0)) : Wp mX2_valueOf d 161 L (.ref r :: S) M N P Q = Wp mX2_valueOf d 164 L (.ref (P r 4) :: S) M N P Q := wp_getfield rfl dX2_valueOf_161 rfl rfl hs rfl
theorem sX2_valueOf_164 : Wp mX2_valueOf d 164 (a0 :: a1 :: a2 :: a3 :: .int x :: L) S M N P Q = Wp mX2_valueOf d 166 (a0 :: a1 :: a2 :: a3 :: .int x :: L) (.int x :: S) M N P Q := wp_iload rfl dX2_valueOf_164 rfl
theorem sX2_valueOf_166 : Wp mX2_valueOf d 166 L S M N P Q = Wp mX2_valueOf d 167 L (.int 1 :: S) M N P Q := wp_iconst rfl dX2_valueOf_166 rfl
theorem sX2_valueOf_167 : Wp mX2_valueOf d 167 L (.int z :: .int x :: S) M N P Q = Wp mX2_valueOf d 168 L (.int (x + z) :: S) M N P Q := wp_iadd rfl dX2_valueOf_167
theorem sX2_valueOf_168 (hs : (shk r).1 = 100) : Wp mX2_valueOf d 168 L (.int j :: .ref r :: S) M N P Q = (vp_in j (shk r).2 ∧ Wp mX2_valueOf d 169 L (.int (M r j.toNatClampNeg) :: S) M N P Q) := wp_iaload rfl dX2_valueOf_168 (kd hs)
theorem sX2_valueOf_169 {x0 : Int32} {x1 : Int32} {x2 : Int32} (hS : stk S ≤ 8) : Wp mX2_valueOf (d + 1) 169 L (.int x2 :: .int x1 :: .int x0 :: S) M N P Q = Wp mX2_join d 0 [.int x0, .int x1, .int x2] [] M N P (fun v M' N' P' => Wp mX2_valueOf (d + 1) 172 L (v.toList ++ S) M' N' P' Q) := wp_callS (As := [.int x0, .int x1, .int x2]) rfl dX2_valueOf_169 rfl rfl rfl ⟨rfl, Nat.le_of_ble_eq_true rfl, Nat.le_of_ble_eq_true rfl⟩ rfl hS
theorem sX2_valueOf_172 (hs : (shk r).1 = 100) : Wp mX2_valueOf d 172 L (.int x :: .int j :: .ref r :: S) M N P Q = (vp_in j (shk r).2 ∧ Wp mX2_valueOf d 173 L S (up2 M r j.toNatClampNeg x) N P Q) := wp_iastore rfl dX2_valueOf_172 (kd hs)
theorem sX2_valueOf_173 (hn : nl a4 = true) : Wp mX2_valueOf d 173 (a0 :: a1 :: a2 :: a3 :: a4 :: .int x :: L) S M N P Q = Wp mX2_valueOf d 176 (a0 :: a1 :: a2 :: a3 :: a4 :: .int (x + 1) :: L) S M N P Q := wp_iinc rfl dX2_valueOf_173 rfl rfl (okst5 hn) rfl
theorem sX2_valueOf_176 : Wp mX2_valueOf d 176 L S M N P Q = Wp mX2_valueOf d 6 L S M N P Q := wp_goto rfl dX2_valueOf_176 rfl
theorem sX2_valueOf_179 : Wp mX2_valueOf d 179 (a0 :: a1 :: a2 :: a3 :: .int x :: L) S M N P Q = Wp mX2_valueOf d 181 (a0 :: a1 :: a2 :: a3 :: .int x :: L) (.int x :: S) M N P Q := wp_iload rfl dX2_valueOf_179 rfl
theorem sX2_valueOf_181 : Wp mX2_valueOf d 181 L (.int x :: S) M N P Q = (if x < 0 then Wp mX2_valueOf d 194 L S M N P Q else Wp mX2_valueOf d 184 L S M N P Q) := wp_if_lt rfl dX2_valueOf_181 rfl
theorem sX2_valueOf_184 : Wp mX2_valueOf d 184 (.ref r :: L) S M N P Q = Wp mX2_valueOf d 185 (.ref r :: L) (.ref r :: S) M N P Q := wp_aload_n rfl dX2_valueOf_184 rfl
theorem sX2_valueOf_185 (hs : shk r = (2, 0)) : Wp mX2_valueOf d 185 L (.ref r :: S) M N P Q = Wp mX2_valueOf d 188 L (.ref (P r 4) :: S) M N P Q := wp_getfield rfl dX2_valueOf_185 rfl rfl hs rfl
theorem sX2_valueOf_188 : Wp mX2_valueOf d 188 (a0 :: a1 :: a2 :: a3 :: .int x :: L) S M N P Q = Wp mX2_valueOf d 190 (a0 :: a1 :: a2 :: a3 :: .int x :: L) (.int x :: S) M N P Q := wp_iload rfl dX2_valueOf_188 rfl
theorem sX2_valueOf_190 (hs : (shk r).1 = 100) : Wp mX2_valueOf d 190 L (.int j :: .ref r :: S) M N P Q = (vp_in j (shk r).2 ∧ Wp mX2_valueOf d 191 L (.int (M r j.toNatClampNeg) :: S) M N P Q) := wp_iaload rfl dX2_valueOf_190 (kd hs)
theorem sX2_valueOf_191 : Wp mX2_valueOf d 191 L S M N P Q = Wp mX2_valueOf d 195 L S M N P Q := wp_goto rfl dX2_valueOf_191 rfl
theorem sX2_valueOf_194 : Wp mX2_valueOf d 194 L S M N P Q = Wp mX2_valueOf d 195 L (.int 0 :: S) M N P Q := wp_iconst rfl dX2_valueOf_194 rfl
theorem sX2_valueOf_195 : Wp mX2_valueOf d 195 L [.int x] M N P Q = Q (some (.int x)) M N P := wp_iret rfl dX2_valueOf_195 rfl rfl
theorem sX2_join_0 : Wp mX2_join d 0 (.int x :: L) S M N P Q = Wp mX2_join d 1 (.int x :: L) (.int x :: S) M N P Q := wp_iload_n rfl dX2_join_0 rfl
theorem sX2_join_1 : Wp mX2_join d 1 L (.int x :: S) M N P Q = (if x = 3 then Wp mX2_join d 40 L S M N P Q else if x = 4 then Wp mX2_join d 57 L S M N P Q else if x = 5 then Wp mX2_join d 74 L S M N P Q else if x = 6 then Wp mX2_join d 88 L S M N P Q else if x = 7 then Wp mX2_join d 102 L S M N P Q else if x = 8 then Wp mX2_join d 116 L S M N P Q else Wp mX2_join d 120 L S M N P Q) := by
  by_cases h0 : x = 3
  · rw [if_pos h0]; subst h0; exact wp_tabIn rfl dX2_join_1 (by decide) (by decide) rfl rfl
  by_cases h1 : x = 4
  · rw [if_neg h0, if_pos h1]; subst h1; exact wp_tabIn rfl dX2_join_1 (by decide) (by decide) rfl rfl
  by_cases h2 : x = 5
  · rw [if_neg h0, if_neg h1, if_pos h2]; subst h2; exact wp_tabIn rfl dX2_join_1 (by decide) (by decide) rfl rfl
  by_cases h3 : x = 6
  · rw [if_neg h0, if_neg h1, if_neg h2, if_pos h3]; subst h3; exact wp_tabIn rfl dX2_join_1 (by decide) (by decide) rfl rfl
  by_cases h4 : x = 7
  · rw [if_neg h0, if_neg h1, if_neg h2, if_neg h3, if_pos h4]; subst h4; exact wp_tabIn rfl dX2_join_1 (by decide) (by decide) rfl rfl
  by_cases h5 : x = 8
  · rw [if_neg h0, if_neg h1, if_neg h2, if_neg h3, if_neg h4, if_pos h5]; subst h5; exact wp_tabIn rfl dX2_join_1 (by decide) (by decide) rfl rfl
  have q0 := lv_neT h0 (show (3 : Int32).toInt = 3 by decide)
  have q1 := lv_neT h1 (show (4 : Int32).toInt = 4 by decide)
  have q2 := lv_neT h2 (show (5 : Int32).toInt = 5 by decide)
  have q3 := lv_neT h3 (show (6 : Int32).toInt = 6 by decide)
  have q4 := lv_neT h4 (show (7 : Int32).toInt = 7 by decide)
  have q5 := lv_neT h5 (show (8 : Int32).toInt = 8 by decide)
  rw [if_neg h0, if_neg h1, if_neg h2, if_neg h3, if_neg h4, if_neg h5]
  exact wp_tabOut rfl dX2_join_1 (by omega) rfl
theorem sX2_join_40 : Wp mX2_join d 40 (a0 :: .int x :: L) S M N P Q = Wp mX2_join d 41 (a0 :: .int x :: L) (.int x :: S) M N P Q := wp_iload_n rfl dX2_join_40 rfl
theorem sX2_join_41 : Wp mX2_join d 41 L (.int x :: S) M N P Q = (if x = 0 then Wp mX2_join d 52 L S M N P Q else Wp mX2_join d 44 L S M N P Q) := wp_if_eq rfl dX2_join_41 rfl
theorem sX2_join_44 : Wp mX2_join d 44 (a0 :: a1 :: .int x :: L) S M N P Q = Wp mX2_join d 45 (a0 :: a1 :: .int x :: L) (.int x :: S) M N P Q := wp_iload_n rfl dX2_join_44 rfl
theorem sX2_join_45 : Wp mX2_join d 45 L (.int x :: S) M N P Q = (if x = 0 then Wp mX2_join d 52 L S M N P Q else Wp mX2_join d 48 L S M N P Q) := wp_if_eq rfl dX2_join_45 rfl
theorem sX2_join_48 : Wp mX2_join d 48 L S M N P Q = Wp mX2_join d 49 L (.int 1 :: S) M N P Q := wp_iconst rfl dX2_join_48 rfl
theorem sX2_join_49 : Wp mX2_join d 49 L S M N P Q = Wp mX2_join d 53 L S M N P Q := wp_goto rfl dX2_join_49 rfl
theorem sX2_join_52 : Wp mX2_join d 52 L S M N P Q = Wp mX2_join d 53 L (.int 0 :: S) M N P Q := wp_iconst rfl dX2_join_52 rfl
theorem sX2_join_53 {x0 : Int32} (hS : stk S ≤ 8) : Wp mX2_join (d + 1) 53 L (.int x0 :: S) M N P Q = Wp mX11_truth d 0 [.int x0] [] M N P (fun v M' N' P' => Wp mX2_join (d + 1) 56 L (v.toList ++ S) M' N' P' Q) := wp_callS (As := [.int x0]) rfl dX2_join_53 rfl rfl rfl ⟨rfl, Nat.le_of_ble_eq_true rfl, Nat.le_of_ble_eq_true rfl⟩ rfl hS
theorem sX2_join_56 : Wp mX2_join d 56 L [.int x] M N P Q = Q (some (.int x)) M N P := wp_iret rfl dX2_join_56 rfl rfl
theorem sX2_join_57 : Wp mX2_join d 57 (a0 :: .int x :: L) S M N P Q = Wp mX2_join d 58 (a0 :: .int x :: L) (.int x :: S) M N P Q := wp_iload_n rfl dX2_join_57 rfl
theorem sX2_join_58 : Wp mX2_join d 58 L (.int x :: S) M N P Q = (if x = 0 then Wp mX2_join d 61 L S M N P Q else Wp mX2_join d 65 L S M N P Q) := wp_if_ne rfl dX2_join_58 rfl
theorem sX2_join_61 : Wp mX2_join d 61 (a0 :: a1 :: .int x :: L) S M N P Q = Wp mX2_join d 62 (a0 :: a1 :: .int x :: L) (.int x :: S) M N P Q := wp_iload_n rfl dX2_join_61 rfl
theorem sX2_join_62 : Wp mX2_join d 62 L (.int x :: S) M N P Q = (if x = 0 then Wp mX2_join d 69 L S M N P Q else Wp mX2_join d 65 L S M N P Q) := wp_if_eq rfl dX2_join_62 rfl
theorem sX2_join_65 : Wp mX2_join d 65 L S M N P Q = Wp mX2_join d 66 L (.int 1 :: S) M N P Q := wp_iconst rfl dX2_join_65 rfl
theorem sX2_join_66 : Wp mX2_join d 66 L S M N P Q = Wp mX2_join d 70 L S M N P Q := wp_goto rfl dX2_join_66 rfl
theorem sX2_join_69 : Wp mX2_join d 69 L S M N P Q = Wp mX2_join d 70 L (.int 0 :: S) M N P Q := wp_iconst rfl dX2_join_69 rfl
theorem sX2_join_70 {x0 : Int32} (hS : stk S ≤ 8) : Wp mX2_join (d + 1) 70 L (.int x0 :: S) M N P Q = Wp mX11_truth d 0 [.int x0] [] M N P (fun v M' N' P' => Wp mX2_join (d + 1) 73 L (v.toList ++ S) M' N' P' Q) := wp_callS (As := [.int x0]) rfl dX2_join_70 rfl rfl rfl ⟨rfl, Nat.le_of_ble_eq_true rfl, Nat.le_of_ble_eq_true rfl⟩ rfl hS
theorem sX2_join_73 : Wp mX2_join d 73 L [.int x] M N P Q = Q (some (.int x)) M N P := wp_iret rfl dX2_join_73 rfl rfl
theorem sX2_join_74 : Wp mX2_join d 74 (a0 :: .int x :: L) S M N P Q = Wp mX2_join d 75 (a0 :: .int x :: L) (.int x :: S) M N P Q := wp_iload_n rfl dX2_join_74 rfl
theorem sX2_join_75 : Wp mX2_join d 75 (a0 :: a1 :: .int x :: L) S M N P Q = Wp mX2_join d 76 (a0 :: a1 :: .int x :: L) (.int x :: S) M N P Q := wp_iload_n rfl dX2_join_75 rfl
theorem sX2_join_76 : Wp mX2_join d 76 L (.int z :: .int x :: S) M N P Q = (if z ≤ x then Wp mX2_join d 83 L S M N P Q else Wp mX2_join d 79 L S M N P Q) := wp_icmp_ge rfl dX2_join_76 rfl
theorem sX2_join_79 : Wp mX2_join d 79 L S M N P Q = Wp mX2_join d 80 L (.int 1 :: S) M N P Q := wp_iconst rfl dX2_join_79 rfl
theorem sX2_join_80 : Wp mX2_join d 80 L S M N P Q = Wp mX2_join d 84 L S M N P Q := wp_goto rfl dX2_join_80 rfl
theorem sX2_join_83 : Wp mX2_join d 83 L S M N P Q = Wp mX2_join d 84 L (.int 0 :: S) M N P Q := wp_iconst rfl dX2_join_83 rfl
theorem sX2_join_84 {x0 : Int32} (hS : stk S ≤ 8) : Wp mX2_join (d + 1) 84 L (.int x0 :: S) M N P Q = Wp mX11_truth d 0 [.int x0] [] M N P (fun v M' N' P' => Wp mX2_join (d + 1) 87 L (v.toList ++ S) M' N' P' Q) := wp_callS (As := [.int x0]) rfl dX2_join_84 rfl rfl rfl ⟨rfl, Nat.le_of_ble_eq_true rfl, Nat.le_of_ble_eq_true rfl⟩ rfl hS
theorem sX2_join_87 : Wp mX2_join d 87 L [.int x] M N P Q = Q (some (.int x)) M N P := wp_iret rfl dX2_join_87 rfl rfl
theorem sX2_join_88 : Wp mX2_join d 88 (a0 :: .int x :: L) S M N P Q = Wp mX2_join d 89 (a0 :: .int x :: L) (.int x :: S) M N P Q := wp_iload_n rfl dX2_join_88 rfl
theorem sX2_join_89 : Wp mX2_join d 89 (a0 :: a1 :: .int x :: L) S M N P Q = Wp mX2_join d 90 (a0 :: a1 :: .int x :: L) (.int x :: S) M N P Q := wp_iload_n rfl dX2_join_89 rfl
theorem sX2_join_90 : Wp mX2_join d 90 L (.int z :: .int x :: S) M N P Q = (if x ≤ z then Wp mX2_join d 97 L S M N P Q else Wp mX2_join d 93 L S M N P Q) := wp_icmp_le rfl dX2_join_90 rfl
theorem sX2_join_93 : Wp mX2_join d 93 L S M N P Q = Wp mX2_join d 94 L (.int 1 :: S) M N P Q := wp_iconst rfl dX2_join_93 rfl
theorem sX2_join_94 : Wp mX2_join d 94 L S M N P Q = Wp mX2_join d 98 L S M N P Q := wp_goto rfl dX2_join_94 rfl
theorem sX2_join_97 : Wp mX2_join d 97 L S M N P Q = Wp mX2_join d 98 L (.int 0 :: S) M N P Q := wp_iconst rfl dX2_join_97 rfl
theorem sX2_join_98 {x0 : Int32} (hS : stk S ≤ 8) : Wp mX2_join (d + 1) 98 L (.int x0 :: S) M N P Q = Wp mX11_truth d 0 [.int x0] [] M N P (fun v M' N' P' => Wp mX2_join (d + 1) 101 L (v.toList ++ S) M' N' P' Q) := wp_callS (As := [.int x0]) rfl dX2_join_98 rfl rfl rfl ⟨rfl, Nat.le_of_ble_eq_true rfl, Nat.le_of_ble_eq_true rfl⟩ rfl hS
theorem sX2_join_101 : Wp mX2_join d 101 L [.int x] M N P Q = Q (some (.int x)) M N P := wp_iret rfl dX2_join_101 rfl rfl
theorem sX2_join_102 : Wp mX2_join d 102 (a0 :: .int x :: L) S M N P Q = Wp mX2_join d 103 (a0 :: .int x :: L) (.int x :: S) M N P Q := wp_iload_n rfl dX2_join_102 rfl
theorem sX2_join_103 : Wp mX2_join d 103 (a0 :: a1 :: .int x :: L) S M N P Q = Wp mX2_join d 104 (a0 :: a1 :: .int x :: L) (.int x :: S) M N P Q := wp_iload_n rfl dX2_join_103 rfl
theorem sX2_join_104 : Wp mX2_join d 104 L (.int z :: .int x :: S) M N P Q = (if x = z then Wp mX2_join d 107 L S M N P Q else Wp mX2_join d 111 L S M N P Q) := wp_icmp_ne rfl dX2_join_104 rfl
theorem sX2_join_107 : Wp mX2_join d 107 L S M N P Q = Wp mX2_join d 108 L (.int 1 :: S) M N P Q := wp_iconst rfl dX2_join_107 rfl
theorem sX2_join_108 : Wp mX2_join d 108 L S M N P Q = Wp mX2_join d 112 L S M N P Q := wp_goto rfl dX2_join_108 rfl
theorem sX2_join_111 : Wp mX2_join d 111 L S M N P Q = Wp mX2_join d 112 L (.int 0 :: S) M N P Q := wp_iconst rfl dX2_join_111 rfl
theorem sX2_join_112 {x0 : Int32} (hS : stk S ≤ 8) : Wp mX2_join (d + 1) 112 L (.int x0 :: S) M N P Q = Wp mX11_truth d 0 [.int x0] [] M N P (fun v M' N' P' => Wp mX2_join (d + 1) 115 L (v.toList ++ S) M' N' P' Q) := wp_callS (As := [.int x0]) rfl dX2_join_112 rfl rfl rfl ⟨rfl, Nat.le_of_ble_eq_true rfl, Nat.le_of_ble_eq_true rfl⟩ rfl hS
theorem sX2_join_115 : Wp mX2_join d 115 L [.int x] M N P Q = Q (some (.int x)) M N P := wp_iret rfl dX2_join_115 rfl rfl
theorem sX2_join_116 : Wp mX2_join d 116 (a0 :: .int x :: L) S M N P Q = Wp mX2_join d 117 (a0 :: .int x :: L) (.int x :: S) M N P Q := wp_iload_n rfl dX2_join_116 rfl
theorem sX2_join_117 : Wp mX2_join d 117 (a0 :: a1 :: .int x :: L) S M N P Q = Wp mX2_join d 118 (a0 :: a1 :: .int x :: L) (.int x :: S) M N P Q := wp_iload_n rfl dX2_join_117 rfl
theorem sX2_join_118 : Wp mX2_join d 118 L (.int z :: .int x :: S) M N P Q = Wp mX2_join d 119 L (.int (x + z) :: S) M N P Q := wp_iadd rfl dX2_join_118
theorem sX2_join_119 : Wp mX2_join d 119 L [.int x] M N P Q = Q (some (.int x)) M N P := wp_iret rfl dX2_join_119 rfl rfl
theorem sX2_join_120 : Wp mX2_join d 120 (a0 :: .int x :: L) S M N P Q = Wp mX2_join d 121 (a0 :: .int x :: L) (.int x :: S) M N P Q := wp_iload_n rfl dX2_join_120 rfl
theorem sX2_join_121 : Wp mX2_join d 121 (a0 :: a1 :: .int x :: L) S M N P Q = Wp mX2_join d 122 (a0 :: a1 :: .int x :: L) (.int x :: S) M N P Q := wp_iload_n rfl dX2_join_121 rfl
theorem sX2_join_122 : Wp mX2_join d 122 L (.int z :: .int x :: S) M N P Q = Wp mX2_join d 123 L (.int (x - z) :: S) M N P Q := wp_isub rfl dX2_join_122
theorem sX2_join_123 : Wp mX2_join d 123 L [.int x] M N P Q = Q (some (.int x)) M N P := wp_iret rfl dX2_join_123 rfl rfl
theorem sX3_has_0 : Wp mX3_has d 0 (a0 :: .int x :: L) S M N P Q = Wp mX3_has d 1 (a0 :: .int x :: L) (.int x :: S) M N P Q := wp_iload_n rfl dX3_has_0 rfl
theorem sX3_has_1 : Wp mX3_has d 1 L (.int x :: S) M N P Q = (if x < 0 then Wp mX3_has d 16 L S M N P Q else Wp mX3_has d 4 L S M N P Q) := wp_if_lt rfl dX3_has_1 rfl
theorem sX3_has_4 : Wp mX3_has d 4 (a0 :: .int x :: L) S M N P Q = Wp mX3_has d 5 (a0 :: .int x :: L) (.int x :: S) M N P Q := wp_iload_n rfl dX3_has_4 rfl
theorem sX3_has_5 : Wp mX3_has d 5 (.ref r :: L) S M N P Q = Wp mX3_has d 6 (.ref r :: L) (.ref r :: S) M N P Q := wp_aload_n rfl dX3_has_5 rfl
theorem sX3_has_6 (hs : shk r = (3, 0)) : Wp mX3_has d 6 L (.ref r :: S) M N P Q = Wp mX3_has d 9 L (.int (M r 9) :: S) M N P Q := wp_getfield rfl dX3_has_6 rfl rfl hs rfl
theorem sX3_has_9 : Wp mX3_has d 9 L (.int z :: .int x :: S) M N P Q = (if z ≤ x then Wp mX3_has d 16 L S M N P Q else Wp mX3_has d 12 L S M N P Q) := wp_icmp_ge rfl dX3_has_9 rfl
theorem sX3_has_12 : Wp mX3_has d 12 L S M N P Q = Wp mX3_has d 13 L (.int 1 :: S) M N P Q := wp_iconst rfl dX3_has_12 rfl
theorem sX3_has_13 : Wp mX3_has d 13 L S M N P Q = Wp mX3_has d 17 L S M N P Q := wp_goto rfl dX3_has_13 rfl
theorem sX3_has_16 : Wp mX3_has d 16 L S M N P Q = Wp mX3_has d 17 L (.int 0 :: S) M N P Q := wp_iconst rfl dX3_has_16 rfl
theorem sX3_has_17 (hb : bit x) : Wp mX3_has d 17 L [.int x] M N P Q = Q (some (.int x)) M N P := wp_iret rfl dX3_has_17 rfl (bit_n hb)
theorem sX3_add_0 : Wp mX3_add d 0 (.ref r :: L) S M N P Q = Wp mX3_add d 1 (.ref r :: L) (.ref r :: S) M N P Q := wp_aload_n rfl dX3_add_0 rfl
theorem sX3_add_1 (hs : shk r = (3, 0)) : Wp mX3_add d 1 L (.ref r :: S) M N P Q = Wp mX3_add d 4 L (.int (M r 9) :: S) M N P Q := wp_getfield rfl dX3_add_1 rfl rfl hs rfl
theorem sX3_add_4 : Wp mX3_add d 4 L S M N P Q = Wp mX3_add d 6 L (.int 60 :: S) M N P Q := wp_bipush rfl dX3_add_4 rfl
theorem sX3_add_6 : Wp mX3_add d 6 L (.int z :: .int x :: S) M N P Q = (if x < z then Wp mX3_add d 11 L S M N P Q else Wp mX3_add d 9 L S M N P Q) := wp_icmp_lt rfl dX3_add_6 rfl
theorem sX3_add_9 : Wp mX3_add d 9 L S M N P Q = Wp mX3_add d 10 L (.int (-1) :: S) M N P Q := wp_iconst rfl dX3_add_9 rfl
theorem sX3_add_10 : Wp mX3_add d 10 L [.int x] M N P Q = Q (some (.int x)) M N P := wp_iret rfl dX3_add_10 rfl rfl
theorem sX3_add_11 : Wp mX3_add d 11 (.ref r :: L) S M N P Q = Wp mX3_add d 12 (.ref r :: L) (.ref r :: S) M N P Q := wp_aload_n rfl dX3_add_11 rfl
theorem sX3_add_12 (hs : shk r = (3, 0)) : Wp mX3_add d 12 L (.ref r :: S) M N P Q = Wp mX3_add d 15 L (.int (M r 9) :: S) M N P Q := wp_getfield rfl dX3_add_12 rfl rfl hs rfl
theorem sX3_add_15 (hn : nl a4 = true) : Wp mX3_add d 15 (a0 :: a1 :: a2 :: a3 :: a4 :: a5 :: L) (.int x :: S) M N P Q = Wp mX3_add d 17 (a0 :: a1 :: a2 :: a3 :: a4 :: .int x :: L) S M N P Q := wp_istore rfl dX3_add_15 (lenGt5 ..) (okst5 hn) rfl
theorem sX3_add_17 : Wp mX3_add d 17 (.ref r :: L) S M N P Q = Wp mX3_add d 18 (.ref r :: L) (.ref r :: S) M N P Q := wp_aload_n rfl dX3_add_17 rfl
theorem sX3_add_18 (hs : shk r = (3, 0)) : Wp mX3_add d 18 L (.ref r :: S) M N P Q = Wp mX3_add d 21 L (.ref (P r 0) :: S) M N P Q := wp_getfield rfl dX3_add_18 rfl rfl hs rfl
theorem sX3_add_21 : Wp mX3_add d 21 (a0 :: a1 :: a2 :: a3 :: a4 :: .int x :: L) S M N P Q = Wp mX3_add d 23 (a0 :: a1 :: a2 :: a3 :: a4 :: .int x :: L) (.int x :: S) M N P Q := wp_iload rfl dX3_add_21 rfl
theorem sX3_add_23 : Wp mX3_add d 23 (a0 :: .int x :: L) S M N P Q = Wp mX3_add d 24 (a0 :: .int x :: L) (.int x :: S) M N P Q := wp_iload_n rfl dX3_add_23 rfl
theorem sX3_add_24 (hs : (shk r).1 = 100) : Wp mX3_add d 24 L (.int x :: .int j :: .ref r :: S) M N P Q = (vp_in j (shk r).2 ∧ Wp mX3_add d 25 L S (up2 M r j.toNatClampNeg x) N P Q) := wp_iastore rfl dX3_add_24 (kd hs)
theorem sX3_add_25 : Wp mX3_add d 25 (.ref r :: L) S M N P Q = Wp mX3_add d 26 (.ref r :: L) (.ref r :: S) M N P Q := wp_aload_n rfl dX3_add_25 rfl
theorem sX3_add_26 (hs : shk r = (3, 0)) : Wp mX3_add d 26 L (.ref r :: S) M N P Q = Wp mX3_add d 29 L (.ref (P r 1) :: S) M N P Q := wp_getfield rfl dX3_add_26 rfl rfl hs rfl
theorem sX3_add_29 : Wp mX3_add d 29 (a0 :: a1 :: a2 :: a3 :: a4 :: .int x :: L) S M N P Q = Wp mX3_add d 31 (a0 :: a1 :: a2 :: a3 :: a4 :: .int x :: L) (.int x :: S) M N P Q := wp_iload rfl dX3_add_29 rfl
theorem sX3_add_31 : Wp mX3_add d 31 (a0 :: a1 :: .int x :: L) S M N P Q = Wp mX3_add d 32 (a0 :: a1 :: .int x :: L) (.int x :: S) M N P Q := wp_iload_n rfl dX3_add_31 rfl
theorem sX3_add_32 (hs : (shk r).1 = 100) : Wp mX3_add d 32 L (.int x :: .int j :: .ref r :: S) M N P Q = (vp_in j (shk r).2 ∧ Wp mX3_add d 33 L S (up2 M r j.toNatClampNeg x) N P Q) := wp_iastore rfl dX3_add_32 (kd hs)
theorem sX3_add_33 : Wp mX3_add d 33 (.ref r :: L) S M N P Q = Wp mX3_add d 34 (.ref r :: L) (.ref r :: S) M N P Q := wp_aload_n rfl dX3_add_33 rfl
theorem sX3_add_34 (hs : shk r = (3, 0)) : Wp mX3_add d 34 L (.ref r :: S) M N P Q = Wp mX3_add d 37 L (.ref (P r 2) :: S) M N P Q := wp_getfield rfl dX3_add_34 rfl rfl hs rfl
theorem sX3_add_37 : Wp mX3_add d 37 (a0 :: a1 :: a2 :: a3 :: a4 :: .int x :: L) S M N P Q = Wp mX3_add d 39 (a0 :: a1 :: a2 :: a3 :: a4 :: .int x :: L) (.int x :: S) M N P Q := wp_iload rfl dX3_add_37 rfl
theorem sX3_add_39 : Wp mX3_add d 39 (a0 :: a1 :: a2 :: .int x :: L) S M N P Q = Wp mX3_add d 40 (a0 :: a1 :: a2 :: .int x :: L) (.int x :: S) M N P Q := wp_iload_n rfl dX3_add_39 rfl
theorem sX3_add_40 (hs : (shk r).1 = 100) : Wp mX3_add d 40 L (.int x :: .int j :: .ref r :: S) M N P Q = (vp_in j (shk r).2 ∧ Wp mX3_add d 41 L S (up2 M r j.toNatClampNeg x) N P Q) := wp_iastore rfl dX3_add_40 (kd hs)
theorem sX3_add_41 : Wp mX3_add d 41 (.ref r :: L) S M N P Q = Wp mX3_add d 42 (.ref r :: L) (.ref r :: S) M N P Q := wp_aload_n rfl dX3_add_41 rfl
theorem sX3_add_42 (hs : shk r = (3, 0)) : Wp mX3_add d 42 L (.ref r :: S) M N P Q = Wp mX3_add d 45 L (.ref (P r 3) :: S) M N P Q := wp_getfield rfl dX3_add_42 rfl rfl hs rfl
theorem sX3_add_45 : Wp mX3_add d 45 (a0 :: a1 :: a2 :: a3 :: a4 :: .int x :: L) S M N P Q = Wp mX3_add d 47 (a0 :: a1 :: a2 :: a3 :: a4 :: .int x :: L) (.int x :: S) M N P Q := wp_iload rfl dX3_add_45 rfl
theorem sX3_add_47 : Wp mX3_add d 47 (a0 :: a1 :: a2 :: a3 :: .int x :: L) S M N P Q = Wp mX3_add d 49 (a0 :: a1 :: a2 :: a3 :: .int x :: L) (.int x :: S) M N P Q := wp_iload rfl dX3_add_47 rfl
theorem sX3_add_49 (hs : (shk r).1 = 100) : Wp mX3_add d 49 L (.int x :: .int j :: .ref r :: S) M N P Q = (vp_in j (shk r).2 ∧ Wp mX3_add d 50 L S (up2 M r j.toNatClampNeg x) N P Q) := wp_iastore rfl dX3_add_49 (kd hs)
theorem sX3_add_50 : Wp mX3_add d 50 (.ref r :: L) S M N P Q = Wp mX3_add d 51 (.ref r :: L) (.ref r :: S) M N P Q := wp_aload_n rfl dX3_add_50 rfl
theorem sX3_add_51 (hs : shk r = (3, 0)) : Wp mX3_add d 51 L (.ref r :: S) M N P Q = Wp mX3_add d 54 L (.ref (P r 7) :: S) M N P Q := wp_getfield rfl dX3_add_51 rfl rfl hs rfl
theorem sX3_add_54 : Wp mX3_add d 54 (a0 :: a1 :: a2 :: a3 :: a4 :: .int x :: L) S M N P Q = Wp mX3_add d 56 (a0 :: a1 :: a2 :: a3 :: a4 :: .int x :: L) (.int x :: S) M N P Q := wp_iload rfl dX3_add_54 rfl
theorem sX3_add_56 : Wp mX3_add d 56 L S M N P Q = Wp mX3_add d 57 L (.int (-1) :: S) M N P Q := wp_iconst rfl dX3_add_56 rfl
theorem sX3_add_57 (hs : (shk r).1 = 100) : Wp mX3_add d 57 L (.int x :: .int j :: .ref r :: S) M N P Q = (vp_in j (shk r).2 ∧ Wp mX3_add d 58 L S (up2 M r j.toNatClampNeg x) N P Q) := wp_iastore rfl dX3_add_57 (kd hs)
theorem sX3_add_58 : Wp mX3_add d 58 (.ref r :: L) S M N P Q = Wp mX3_add d 59 (.ref r :: L) (.ref r :: S) M N P Q := wp_aload_n rfl dX3_add_58 rfl
theorem sX3_add_59 : Wp mX3_add d 59 (a0 :: a1 :: a2 :: a3 :: a4 :: .int x :: L) S M N P Q = Wp mX3_add d 61 (a0 :: a1 :: a2 :: a3 :: a4 :: .int x :: L) (.int x :: S) M N P Q := wp_iload rfl dX3_add_59 rfl
theorem sX3_add_61 {x0 : Int32} (hs : shk r = (3, 0)) (hS : stk S ≤ 8) : Wp mX3_add (d + 1) 61 L (.int x0 :: .ref r :: S) M N P Q = Wp mX3_putInOrder d 0 [.ref r, .int x0, .float 0, .float 0] [] M N P (fun v M' N' P' => Wp mX3_add (d + 1) 64 L (v.toList ++ S) M' N' P' Q) := wp_callV (As := [.int x0]) rfl dX3_add_61 rfl rfl (Or.inl ⟨_, _, _, hs, rfl⟩) rfl ⟨rfl, Nat.le_of_ble_eq_true rfl, Nat.le_of_ble_eq_true rfl⟩ rfl hS
theorem sX3_add_64 : Wp mX3_add d 64 (.ref r :: L) S M N P Q = Wp mX3_add d 65 (.ref r :: L) (.ref r :: S) M N P Q := wp_aload_n rfl dX3_add_64 rfl
theorem sX3_add_65 (hv : a0.category = 1) : Wp mX3_add d 65 L (a0 :: S) M N P Q = Wp mX3_add d 66 L (a0 :: a0 :: S) M N P Q := wp_dup rfl dX3_add_65 hv
theorem sX3_add_66 (hs : shk r = (3, 0)) : Wp mX3_add d 66 L (.ref r :: S) M N P Q = Wp mX3_add d 69 L (.int (M r 9) :: S) M N P Q := wp_getfield rfl dX3_add_66 rfl rfl hs rfl
theorem sX3_add_69 : Wp mX3_add d 69 L S M N P Q = Wp mX3_add d 70 L (.int 1 :: S) M N P Q := wp_iconst rfl dX3_add_69 rfl
theorem sX3_add_70 : Wp mX3_add d 70 L (.int z :: .int x :: S) M N P Q = Wp mX3_add d 71 L (.int (x + z) :: S) M N P Q := wp_iadd rfl dX3_add_70
theorem sX3_add_71 (hs : shk r = (3, 0)) : Wp mX3_add d 71 L (.int x :: .ref r :: S) M N P Q = Wp mX3_add d 74 L S (up2 M r 9 x) N P Q := wp_putI rfl dX3_add_71 rfl rfl hs rfl ⟨_, _, _, _, rfl, by decide, rfl, tyX3_ok 9 (by decide), rfl, rfl⟩
theorem sX3_add_74 : Wp mX3_add d 74 (a0 :: a1 :: a2 :: a3 :: a4 :: .int x :: L) S M N P Q = Wp mX3_add d 76 (a0 :: a1 :: a2 :: a3 :: a4 :: .int x :: L) (.int x :: S) M N P Q := wp_iload rfl dX3_add_74 rfl
theorem sX3_add_76 : Wp mX3_add d 76 L [.int x] M N P Q = Q (some (.int x)) M N P := wp_iret rfl dX3_add_76 rfl rfl
theorem sX3_putInOrder_0 : Wp mX3_putInOrder d 0 (a0 :: .int x :: L) S M N P Q = Wp mX3_putInOrder d 1 (a0 :: .int x :: L) (.int x :: S) M N P Q := wp_iload_n rfl dX3_putInOrder_0 rfl
theorem sX3_putInOrder_1 (hn : nl a1 = true) : Wp mX3_putInOrder d 1 (a0 :: a1 :: a2 :: L) (.int x :: S) M N P Q = Wp mX3_putInOrder d 2 (a0 :: a1 :: .int x :: L) S M N P Q := wp_istore_n rfl dX3_putInOrder_1 (lenGt2 ..) (okst2 hn) rfl
theorem sX3_putInOrder_2 : Wp mX3_putInOrder d 2 (a0 :: .int x :: L) S M N P Q = Wp mX3_putInOrder d 3 (a0 :: .int x :: L) (.int x :: S) M N P Q := wp_iload_n rfl dX3_putInOrder_2 rfl
theorem sX3_putInOrder_3 (hn : nl a2 = true) : Wp mX3_putInOrder d 3 (a0 :: a1 :: a2 :: a3 :: L) (.int x :: S) M N P Q = Wp mX3_putInOrder d 4 (a0 :: a1 :: a2 :: .int x :: L) S M N P Q := wp_istore_n rfl dX3_putInOrder_3 (lenGt3 ..) (okst3 hn) rfl
theorem sX3_putInOrder_4 : Wp mX3_putInOrder d 4 (a0 :: a1 :: a2 :: .int x :: L) S M N P Q = Wp mX3_putInOrder d 5 (a0 :: a1 :: a2 :: .int x :: L) (.int x :: S) M N P Q := wp_iload_n rfl dX3_putInOrder_4 rfl
theorem sX3_putInOrder_5 : Wp mX3_putInOrder d 5 L (.int x :: S) M N P Q = (if x ≤ 0 then Wp mX3_putInOrder d 54 L S M N P Q else Wp mX3_putInOrder d 8 L S M N P Q) := wp_if_le rfl dX3_putInOrder_5 rfl
theorem sX3_putInOrder_8 : Wp mX3_putInOrder d 8 (.ref r :: L) S M N P Q = Wp mX3_putInOrder d 9 (.ref r :: L) (.ref r :: S) M N P Q := wp_aload_n rfl dX3_putInOrder_8 rfl
theorem sX3_putInOrder_9 (hs : shk r = (3, 0)) : Wp mX3_putInOrder d 9 L (.ref r :: S) M N P Q = Wp mX3_putInOrder d 12 L (.ref (P r 3) :: S) M N P Q := wp_getfield rfl dX3_putInOrder_9 rfl rfl hs rfl
theorem sX3_putInOrder_12 : Wp mX3_putInOrder d 12 (.ref r :: L) S M N P Q = Wp mX3_putInOrder d 13 (.ref r :: L) (.ref r :: S) M N P Q := wp_aload_n rfl dX3_putInOrder_12 rfl
theorem sX3_putInOrder_13 (hs : shk r = (3, 0)) : Wp mX3_putInOrder d 13 L (.ref r :: S) M N P Q = Wp mX3_putInOrder d 16 L (.ref (P r 8) :: S) M N P Q := wp_getfield rfl dX3_putInOrder_13 rfl rfl hs rfl
theorem sX3_putInOrder_16 : Wp mX3_putInOrder d 16 (a0 :: a1 :: a2 :: .int x :: L) S M N P Q = Wp mX3_putInOrder d 17 (a0 :: a1 :: a2 :: .int x :: L) (.int x :: S) M N P Q := wp_iload_n rfl dX3_putInOrder_16 rfl
theorem sX3_putInOrder_17 : Wp mX3_putInOrder d 17 L S M N P Q = Wp mX3_putInOrder d 18 L (.int 1 :: S) M N P Q := wp_iconst rfl dX3_putInOrder_17 rfl
theorem sX3_putInOrder_18 : Wp mX3_putInOrder d 18 L (.int z :: .int x :: S) M N P Q = Wp mX3_putInOrder d 19 L (.int (x - z) :: S) M N P Q := wp_isub rfl dX3_putInOrder_18
theorem sX3_putInOrder_19 (hs : (shk r).1 = 100) : Wp mX3_putInOrder d 19 L (.int j :: .ref r :: S) M N P Q = (vp_in j (shk r).2 ∧ Wp mX3_putInOrder d 20 L (.int (M r j.toNatClampNeg) :: S) M N P Q) := wp_iaload rfl dX3_putInOrder_19 (kd hs)
theorem sX3_putInOrder_20 (hs : (shk r).1 = 100) : Wp mX3_putInOrder d 20 L (.int j :: .ref r :: S) M N P Q = (vp_in j (shk r).2 ∧ Wp mX3_putInOrder d 21 L (.int (M r j.toNatClampNeg) :: S) M N P Q) := wp_iaload rfl dX3_putInOrder_20 (kd hs)
theorem sX3_putInOrder_21 : Wp mX3_putInOrder d 21 (.ref r :: L) S M N P Q = Wp mX3_putInOrder d 22 (.ref r :: L) (.ref r :: S) M N P Q := wp_aload_n rfl dX3_putInOrder_21 rfl
theorem sX3_putInOrder_22 (hs : shk r = (3, 0)) : Wp mX3_putInOrder d 22 L (.ref r :: S) M N P Q = Wp mX3_putInOrder d 25 L (.ref (P r 3) :: S) M N P Q := wp_getfield rfl dX3_putInOrder_22 rfl rfl hs rfl
theorem sX3_putInOrder_25 : Wp mX3_putInOrder d 25 (a0 :: .int x :: L) S M N P Q = Wp mX3_putInOrder d 26 (a0 :: .int x :: L) (.int x :: S) M N P Q := wp_iload_n rfl dX3_putInOrder_25 rfl
theorem sX3_putInOrder_26 (hs : (shk r).1 = 100) : Wp mX3_putInOrder d 26 L (.int j :: .ref r :: S) M N P Q = (vp_in j (shk r).2 ∧ Wp mX3_putInOrder d 27 L (.int (M r j.toNatClampNeg) :: S) M N P Q) := wp_iaload rfl dX3_putInOrder_26 (kd hs)
theorem sX3_putInOrder_27 : Wp mX3_putInOrder d 27 L (.int z :: .int x :: S) M N P Q = (if x ≤ z then Wp mX3_putInOrder d 54 L S M N P Q else Wp mX3_putInOrder d 30 L S M N P Q) := wp_icmp_le rfl dX3_putInOrder_27 rfl
theorem sX3_putInOrder_30 : Wp mX3_putInOrder d 30 (.ref r :: L) S M N P Q = Wp mX3_putInOrder d 31 (.ref r :: L) (.ref r :: S) M N P Q := wp_aload_n rfl dX3_putInOrder_30 rfl
theorem sX3_putInOrder_31 (hs : shk r = (3, 0)) : Wp mX3_putInOrder d 31 L (.ref r :: S) M N P Q = Wp mX3_putInOrder d 34 L (.ref (P r 8) :: S) M N P Q := wp_getfield rfl dX3_putInOrder_31 rfl rfl hs rfl
theorem sX3_putInOrder_34 : Wp mX3_putInOrder d 34 (a0 :: a1 :: a2 :: .int x :: L) S M N P Q = Wp mX3_putInOrder d 35 (a0 :: a1 :: a2 :: .int x :: L) (.int x :: S) M N P Q := wp_iload_n rfl dX3_putInOrder_34 rfl
theorem sX3_putInOrder_35 : Wp mX3_putInOrder d 35 (.ref r :: L) S M N P Q = Wp mX3_putInOrder d 36 (.ref r :: L) (.ref r :: S) M N P Q := wp_aload_n rfl dX3_putInOrder_35 rfl
theorem sX3_putInOrder_36 (hs : shk r = (3, 0)) : Wp mX3_putInOrder d 36 L (.ref r :: S) M N P Q = Wp mX3_putInOrder d 39 L (.ref (P r 8) :: S) M N P Q := wp_getfield rfl dX3_putInOrder_36 rfl rfl hs rfl
theorem sX3_putInOrder_39 : Wp mX3_putInOrder d 39 (a0 :: a1 :: a2 :: .int x :: L) S M N P Q = Wp mX3_putInOrder d 40 (a0 :: a1 :: a2 :: .int x :: L) (.int x :: S) M N P Q := wp_iload_n rfl dX3_putInOrder_39 rfl
theorem sX3_putInOrder_40 : Wp mX3_putInOrder d 40 L S M N P Q = Wp mX3_putInOrder d 41 L (.int 1 :: S) M N P Q := wp_iconst rfl dX3_putInOrder_40 rfl
theorem sX3_putInOrder_41 : Wp mX3_putInOrder d 41 L (.int z :: .int x :: S) M N P Q = Wp mX3_putInOrder d 42 L (.int (x - z) :: S) M N P Q := wp_isub rfl dX3_putInOrder_41
theorem sX3_putInOrder_42 (hs : (shk r).1 = 100) : Wp mX3_putInOrder d 42 L (.int j :: .ref r :: S) M N P Q = (vp_in j (shk r).2 ∧ Wp mX3_putInOrder d 43 L (.int (M r j.toNatClampNeg) :: S) M N P Q) := wp_iaload rfl dX3_putInOrder_42 (kd hs)
theorem sX3_putInOrder_43 (hs : (shk r).1 = 100) : Wp mX3_putInOrder d 43 L (.int x :: .int j :: .ref r :: S) M N P Q = (vp_in j (shk r).2 ∧ Wp mX3_putInOrder d 44 L S (up2 M r j.toNatClampNeg x) N P Q) := wp_iastore rfl dX3_putInOrder_43 (kd hs)
theorem sX3_putInOrder_44 : Wp mX3_putInOrder d 44 (a0 :: a1 :: a2 :: .int x :: L) S M N P Q = Wp mX3_putInOrder d 45 (a0 :: a1 :: a2 :: .int x :: L) (.int x :: S) M N P Q := wp_iload_n rfl dX3_putInOrder_44 rfl
theorem sX3_putInOrder_45 : Wp mX3_putInOrder d 45 L S M N P Q = Wp mX3_putInOrder d 46 L (.int 1 :: S) M N P Q := wp_iconst rfl dX3_putInOrder_45 rfl
theorem sX3_putInOrder_46 : Wp mX3_putInOrder d 46 L (.int z :: .int x :: S) M N P Q = Wp mX3_putInOrder d 47 L (.int (x - z) :: S) M N P Q := wp_isub rfl dX3_putInOrder_46
theorem sX3_putInOrder_47 (hn : nl a1 = true) : Wp mX3_putInOrder d 47 (a0 :: a1 :: a2 :: L) (.int x :: S) M N P Q = Wp mX3_putInOrder d 48 (a0 :: a1 :: .int x :: L) S M N P Q := wp_istore_n rfl dX3_putInOrder_47 (lenGt2 ..) (okst2 hn) rfl
theorem sX3_putInOrder_48 (hn : nl a2 = true) : Wp mX3_putInOrder d 48 (a0 :: a1 :: a2 :: .int x :: L) S M N P Q = Wp mX3_putInOrder d 51 (a0 :: a1 :: a2 :: .int (x + (-1)) :: L) S M N P Q := wp_iinc rfl dX3_putInOrder_48 rfl rfl (okst3 hn) rfl
theorem sX3_putInOrder_51 : Wp mX3_putInOrder d 51 L S M N P Q = Wp mX3_putInOrder d 4 L S M N P Q := wp_goto rfl dX3_putInOrder_51 rfl
theorem sX3_putInOrder_54 : Wp mX3_putInOrder d 54 (.ref r :: L) S M N P Q = Wp mX3_putInOrder d 55 (.ref r :: L) (.ref r :: S) M N P Q := wp_aload_n rfl dX3_putInOrder_54 rfl
theorem sX3_putInOrder_55 (hs : shk r = (3, 0)) : Wp mX3_putInOrder d 55 L (.ref r :: S) M N P Q = Wp mX3_putInOrder d 58 L (.ref (P r 8) :: S) M N P Q := wp_getfield rfl dX3_putInOrder_55 rfl rfl hs rfl
theorem sX3_putInOrder_58 : Wp mX3_putInOrder d 58 (a0 :: a1 :: .int x :: L) S M N P Q = Wp mX3_putInOrder d 59 (a0 :: a1 :: .int x :: L) (.int x :: S) M N P Q := wp_iload_n rfl dX3_putInOrder_58 rfl
theorem sX3_putInOrder_59 : Wp mX3_putInOrder d 59 (a0 :: .int x :: L) S M N P Q = Wp mX3_putInOrder d 60 (a0 :: .int x :: L) (.int x :: S) M N P Q := wp_iload_n rfl dX3_putInOrder_59 rfl
theorem sX3_putInOrder_60 (hs : (shk r).1 = 100) : Wp mX3_putInOrder d 60 L (.int x :: .int j :: .ref r :: S) M N P Q = (vp_in j (shk r).2 ∧ Wp mX3_putInOrder d 61 L S (up2 M r j.toNatClampNeg x) N P Q) := wp_iastore rfl dX3_putInOrder_60 (kd hs)
theorem sX3_putInOrder_61 : Wp mX3_putInOrder d 61 L [] M N P Q = Q none M N P := wp_vret rfl dX3_putInOrder_61 rfl
theorem sX3_describe_0 : Wp mX3_describe d 0 (.ref r :: L) S M N P Q = Wp mX3_describe d 1 (.ref r :: L) (.ref r :: S) M N P Q := wp_aload_n rfl dX3_describe_0 rfl
theorem sX3_describe_1 : Wp mX3_describe d 1 (a0 :: .int x :: L) S M N P Q = Wp mX3_describe d 2 (a0 :: .int x :: L) (.int x :: S) M N P Q := wp_iload_n rfl dX3_describe_1 rfl
theorem sX3_describe_2 {x0 : Int32} (hs : shk r = (3, 0)) (hS : stk S ≤ 8) : Wp mX3_describe (d + 1) 2 L (.int x0 :: .ref r :: S) M N P Q = Wp mX3_has d 0 [.ref r, .int x0] [] M N P (fun v M' N' P' => Wp mX3_describe (d + 1) 5 L (v.toList ++ S) M' N' P' Q) := wp_callV (As := [.int x0]) rfl dX3_describe_2 rfl rfl (Or.inl ⟨_, _, _, hs, rfl⟩) rfl ⟨rfl, Nat.le_of_ble_eq_true rfl, Nat.le_of_ble_eq_true rfl⟩ rfl hS
theorem sX3_describe_5 : Wp mX3_describe d 5 L (.int x :: S) M N P Q = (if x = 0 then Wp mX3_describe d 30 L S M N P Q else Wp mX3_describe d 8 L S M N P Q) := wp_if_eq rfl dX3_describe_5 rfl
theorem sX3_describe_8 : Wp mX3_describe d 8 (.ref r :: L) S M N P Q = Wp mX3_describe d 9 (.ref r :: L) (.ref r :: S) M N P Q := wp_aload_n rfl dX3_describe_8 rfl
theorem sX3_describe_9 (hs : shk r = (3, 0)) : Wp mX3_describe d 9 L (.ref r :: S) M N P Q = Wp mX3_describe d 12 L (.ref (P r 4) :: S) M N P Q := wp_getfield rfl dX3_describe_9 rfl rfl hs rfl
theorem sX3_describe_12 : Wp mX3_describe d 12 (a0 :: .int x :: L) S M N P Q = Wp mX3_describe d 13 (a0 :: .int x :: L) (.int x :: S) M N P Q := wp_iload_n rfl dX3_describe_12 rfl
theorem sX3_describe_13 : Wp mX3_describe d 13 (a0 :: a1 :: .int x :: L) S M N P Q = Wp mX3_describe d 14 (a0 :: a1 :: .int x :: L) (.int x :: S) M N P Q := wp_iload_n rfl dX3_describe_13 rfl
theorem sX3_describe_14 (hs : (shk r).1 = 100) : Wp mX3_describe d 14 L (.int x :: .int j :: .ref r :: S) M N P Q = (vp_in j (shk r).2 ∧ Wp mX3_describe d 15 L S (up2 M r j.toNatClampNeg x) N P Q) := wp_iastore rfl dX3_describe_14 (kd hs)
theorem sX3_describe_15 : Wp mX3_describe d 15 (.ref r :: L) S M N P Q = Wp mX3_describe d 16 (.ref r :: L) (.ref r :: S) M N P Q := wp_aload_n rfl dX3_describe_15 rfl
theorem sX3_describe_16 (hs : shk r = (3, 0)) : Wp mX3_describe d 16 L (.ref r :: S) M N P Q = Wp mX3_describe d 19 L (.ref (P r 5) :: S) M N P Q := wp_getfield rfl dX3_describe_16 rfl rfl hs rfl
theorem sX3_describe_19 : Wp mX3_describe d 19 (a0 :: .int x :: L) S M N P Q = Wp mX3_describe d 20 (a0 :: .int x :: L) (.int x :: S) M N P Q := wp_iload_n rfl dX3_describe_19 rfl
theorem sX3_describe_20 : Wp mX3_describe d 20 (a0 :: a1 :: a2 :: .int x :: L) S M N P Q = Wp mX3_describe d 21 (a0 :: a1 :: a2 :: .int x :: L) (.int x :: S) M N P Q := wp_iload_n rfl dX3_describe_20 rfl
theorem sX3_describe_21 (hs : (shk r).1 = 100) : Wp mX3_describe d 21 L (.int x :: .int j :: .ref r :: S) M N P Q = (vp_in j (shk r).2 ∧ Wp mX3_describe d 22 L S (up2 M r j.toNatClampNeg x) N P Q) := wp_iastore rfl dX3_describe_21 (kd hs)
theorem sX3_describe_22 : Wp mX3_describe d 22 (.ref r :: L) S M N P Q = Wp mX3_describe d 23 (.ref r :: L) (.ref r :: S) M N P Q := wp_aload_n rfl dX3_describe_22 rfl
theorem sX3_describe_23 (hs : shk r = (3, 0)) : Wp mX3_describe d 23 L (.ref r :: S) M N P Q = Wp mX3_describe d 26 L (.ref (P r 6) :: S) M N P Q := wp_getfield rfl dX3_describe_23 rfl rfl hs rfl
theorem sX3_describe_26 : Wp mX3_describe d 26 (a0 :: .int x :: L) S M N P Q = Wp mX3_describe d 27 (a0 :: .int x :: L) (.int x :: S) M N P Q := wp_iload_n rfl dX3_describe_26 rfl
theorem sX3_describe_27 : Wp mX3_describe d 27 (a0 :: a1 :: a2 :: a3 :: .int x :: L) S M N P Q = Wp mX3_describe d 29 (a0 :: a1 :: a2 :: a3 :: .int x :: L) (.int x :: S) M N P Q := wp_iload rfl dX3_describe_27 rfl
theorem sX3_describe_29 (hs : (shk r).1 = 100) : Wp mX3_describe d 29 L (.int x :: .int j :: .ref r :: S) M N P Q = (vp_in j (shk r).2 ∧ Wp mX3_describe d 30 L S (up2 M r j.toNatClampNeg x) N P Q) := wp_iastore rfl dX3_describe_29 (kd hs)
theorem sX3_describe_30 : Wp mX3_describe d 30 L [] M N P Q = Q none M N P := wp_vret rfl dX3_describe_30 rfl
theorem sX3_revoke_0 : Wp mX3_revoke d 0 (.ref r :: L) S M N P Q = Wp mX3_revoke d 1 (.ref r :: L) (.ref r :: S) M N P Q := wp_aload_n rfl dX3_revoke_0 rfl
theorem sX3_revoke_1 : Wp mX3_revoke d 1 (a0 :: .int x :: L) S M N P Q = Wp mX3_revoke d 2 (a0 :: .int x :: L) (.int x :: S) M N P Q := wp_iload_n rfl dX3_revoke_1 rfl
theorem sX3_revoke_2 {x0 : Int32} (hs : shk r = (3, 0)) (hS : stk S ≤ 8) : Wp mX3_revoke (d + 1) 2 L (.int x0 :: .ref r :: S) M N P Q = Wp mX3_has d 0 [.ref r, .int x0] [] M N P (fun v M' N' P' => Wp mX3_revoke (d + 1) 5 L (v.toList ++ S) M' N' P' Q) := wp_callV (As := [.int x0]) rfl dX3_revoke_2 rfl rfl (Or.inl ⟨_, _, _, hs, rfl⟩) rfl ⟨rfl, Nat.le_of_ble_eq_true rfl, Nat.le_of_ble_eq_true rfl⟩ rfl hS
theorem sX3_revoke_5 : Wp mX3_revoke d 5 L (.int x :: S) M N P Q = (if x = 0 then Wp mX3_revoke d 18 L S M N P Q else Wp mX3_revoke d 8 L S M N P Q) := wp_if_eq rfl dX3_revoke_5 rfl
theorem sX3_revoke_8 : Wp mX3_revoke d 8 (.ref r :: L) S M N P Q = Wp mX3_revoke d 9 (.ref r :: L) (.ref r :: S) M N P Q := wp_aload_n rfl dX3_revoke_8 rfl
theorem sX3_revoke_9 (hs : shk r = (3, 0)) : Wp mX3_revoke d 9 L (.ref r :: S) M N P Q = Wp mX3_revoke d 12 L (.ref (P r 7) :: S) M N P Q := wp_getfield rfl dX3_revoke_9 rfl rfl hs rfl
theorem sX3_revoke_12 : Wp mX3_revoke d 12 (a0 :: .int x :: L) S M N P Q = Wp mX3_revoke d 13 (a0 :: .int x :: L) (.int x :: S) M N P Q := wp_iload_n rfl dX3_revoke_12 rfl
theorem sX3_revoke_13 (hs : (shk r).1 = 100) : Wp mX3_revoke d 13 L (.int j :: .ref r :: S) M N P Q = (vp_in j (shk r).2 ∧ Wp mX3_revoke d 14 L (.int (M r j.toNatClampNeg) :: S) M N P Q) := wp_iaload rfl dX3_revoke_13 (kd hs)
theorem sX3_revoke_14 : Wp mX3_revoke d 14 L S M N P Q = Wp mX3_revoke d 15 L (.int (-1) :: S) M N P Q := wp_iconst rfl dX3_revoke_14 rfl
theorem sX3_revoke_15 : Wp mX3_revoke d 15 L (.int z :: .int x :: S) M N P Q = (if x = z then Wp mX3_revoke d 20 L S M N P Q else Wp mX3_revoke d 18 L S M N P Q) := wp_icmp_eq rfl dX3_revoke_15 rfl
theorem sX3_revoke_18 : Wp mX3_revoke d 18 L S M N P Q = Wp mX3_revoke d 19 L (.int 0 :: S) M N P Q := wp_iconst rfl dX3_revoke_18 rfl
theorem sX3_revoke_19 (hb : bit x) : Wp mX3_revoke d 19 L [.int x] M N P Q = Q (some (.int x)) M N P := wp_iret rfl dX3_revoke_19 rfl (bit_n hb)
theorem sX3_revoke_20 : Wp mX3_revoke d 20 (.ref r :: L) S M N P Q = Wp mX3_revoke d 21 (.ref r :: L) (.ref r :: S) M N P Q := wp_aload_n rfl dX3_revoke_20 rfl
theorem sX3_revoke_21 (hs : shk r = (3, 0)) : Wp mX3_revoke d 21 L (.ref r :: S) M N P Q = Wp mX3_revoke d 24 L (.ref (P r 7) :: S) M N P Q := wp_getfield rfl dX3_revoke_21 rfl rfl hs rfl
theorem sX3_revoke_24 : Wp mX3_revoke d 24 (a0 :: .int x :: L) S M N P Q = Wp mX3_revoke d 25 (a0 :: .int x :: L) (.int x :: S) M N P Q := wp_iload_n rfl dX3_revoke_24 rfl
theorem sX3_revoke_25 : Wp mX3_revoke d 25 (a0 :: a1 :: .int x :: L) S M N P Q = Wp mX3_revoke d 26 (a0 :: a1 :: .int x :: L) (.int x :: S) M N P Q := wp_iload_n rfl dX3_revoke_25 rfl
theorem sX3_revoke_26 (hs : (shk r).1 = 100) : Wp mX3_revoke d 26 L (.int x :: .int j :: .ref r :: S) M N P Q = (vp_in j (shk r).2 ∧ Wp mX3_revoke d 27 L S (up2 M r j.toNatClampNeg x) N P Q) := wp_iastore rfl dX3_revoke_26 (kd hs)
theorem sX3_revoke_27 : Wp mX3_revoke d 27 L S M N P Q = Wp mX3_revoke d 28 L (.int 1 :: S) M N P Q := wp_iconst rfl dX3_revoke_27 rfl
theorem sX3_revoke_28 (hb : bit x) : Wp mX3_revoke d 28 L [.int x] M N P Q = Q (some (.int x)) M N P := wp_iret rfl dX3_revoke_28 rfl (bit_n hb)
theorem sX3_countsOn_0 : Wp mX3_countsOn d 0 (.ref r :: L) S M N P Q = Wp mX3_countsOn d 1 (.ref r :: L) (.ref r :: S) M N P Q := wp_aload_n rfl dX3_countsOn_0 rfl
theorem sX3_countsOn_1 : Wp mX3_countsOn d 1 (a0 :: .int x :: L) S M N P Q = Wp mX3_countsOn d 2 (a0 :: .int x :: L) (.int x :: S) M N P Q := wp_iload_n rfl dX3_countsOn_1 rfl
theorem sX3_countsOn_2 {x0 : Int32} (hs : shk r = (3, 0)) (hS : stk S ≤ 8) : Wp mX3_countsOn (d + 1) 2 L (.int x0 :: .ref r :: S) M N P Q = Wp mX3_has d 0 [.ref r, .int x0] [] M N P (fun v M' N' P' => Wp mX3_countsOn (d + 1) 5 L (v.toList ++ S) M' N' P' Q) := wp_callV (As := [.int x0]) rfl dX3_countsOn_2 rfl rfl (Or.inl ⟨_, _, _, hs, rfl⟩) rfl ⟨rfl, Nat.le_of_ble_eq_true rfl, Nat.le_of_ble_eq_true rfl⟩ rfl hS
theorem sX3_countsOn_5 : Wp mX3_countsOn d 5 L (.int x :: S) M N P Q = (if x = 0 then Wp mX3_countsOn d 42 L S M N P Q else Wp mX3_countsOn d 8 L S M N P Q) := wp_if_eq rfl dX3_countsOn_5 rfl
theorem sX3_countsOn_8 : Wp mX3_countsOn d 8 (.ref r :: L) S M N P Q = Wp mX3_countsOn d 9 (.ref r :: L) (.ref r :: S) M N P Q := wp_aload_n rfl dX3_countsOn_8 rfl
theorem sX3_countsOn_9 (hs : shk r = (3, 0)) : Wp mX3_countsOn d 9 L (.ref r :: S) M N P Q = Wp mX3_countsOn d 12 L (.ref (P r 6) :: S) M N P Q := wp_getfield rfl dX3_countsOn_9 rfl rfl hs rfl
theorem sX3_countsOn_12 : Wp mX3_countsOn d 12 (a0 :: .int x :: L) S M N P Q = Wp mX3_countsOn d 13 (a0 :: .int x :: L) (.int x :: S) M N P Q := wp_iload_n rfl dX3_countsOn_12 rfl
theorem sX3_countsOn_13 (hs : (shk r).1 = 100) : Wp mX3_countsOn d 13 L (.int j :: .ref r :: S) M N P Q = (vp_in j (shk r).2 ∧ Wp mX3_countsOn d 14 L (.int (M r j.toNatClampNeg) :: S) M N P Q) := wp_iaload rfl dX3_countsOn_13 (kd hs)
theorem sX3_countsOn_14 : Wp mX3_countsOn d 14 (a0 :: a1 :: .int x :: L) S M N P Q = Wp mX3_countsOn d 15 (a0 :: a1 :: .int x :: L) (.int x :: S) M N P Q := wp_iload_n rfl dX3_countsOn_14 rfl
theorem sX3_countsOn_15 : Wp mX3_countsOn d 15 L (.int z :: .int x :: S) M N P Q = (if z < x then Wp mX3_countsOn d 42 L S M N P Q else Wp mX3_countsOn d 18 L S M N P Q) := wp_icmp_gt rfl dX3_countsOn_15 rfl
theorem sX3_countsOn_18 : Wp mX3_countsOn d 18 (.ref r :: L) S M N P Q = Wp mX3_countsOn d 19 (.ref r :: L) (.ref r :: S) M N P Q := wp_aload_n rfl dX3_countsOn_18 rfl
theorem sX3_countsOn_19 (hs : shk r = (3, 0)) : Wp mX3_countsOn d 19 L (.ref r :: S) M N P Q = Wp mX3_countsOn d 22 L (.ref (P r 7) :: S) M N P Q := wp_getfield rfl dX3_countsOn_19 rfl rfl hs rfl
theorem sX3_countsOn_22 : Wp mX3_countsOn d 22 (a0 :: .int x :: L) S M N P Q = Wp mX3_countsOn d 23 (a0 :: .int x :: L) (.int x :: S) M N P Q := wp_iload_n rfl dX3_countsOn_22 rfl
theorem sX3_countsOn_23 (hs : (shk r).1 = 100) : Wp mX3_countsOn d 23 L (.int j :: .ref r :: S) M N P Q = (vp_in j (shk r).2 ∧ Wp mX3_countsOn d 24 L (.int (M r j.toNatClampNeg) :: S) M N P Q) := wp_iaload rfl dX3_countsOn_23 (kd hs)
theorem sX3_countsOn_24 : Wp mX3_countsOn d 24 L S M N P Q = Wp mX3_countsOn d 25 L (.int (-1) :: S) M N P Q := wp_iconst rfl dX3_countsOn_24 rfl
theorem sX3_countsOn_25 : Wp mX3_countsOn d 25 L (.int z :: .int x :: S) M N P Q = (if x = z then Wp mX3_countsOn d 38 L S M N P Q else Wp mX3_countsOn d 28 L S M N P Q) := wp_icmp_eq rfl dX3_countsOn_25 rfl
theorem sX3_countsOn_28 : Wp mX3_countsOn d 28 (.ref r :: L) S M N P Q = Wp mX3_countsOn d 29 (.ref r :: L) (.ref r :: S) M N P Q := wp_aload_n rfl dX3_countsOn_28 rfl
theorem sX3_countsOn_29 (hs : shk r = (3, 0)) : Wp mX3_countsOn d 29 L (.ref r :: S) M N P Q = Wp mX3_countsOn d 32 L (.ref (P r 7) :: S) M N P Q := wp_getfield rfl dX3_countsOn_29 rfl rfl hs rfl
theorem sX3_countsOn_32 : Wp mX3_countsOn d 32 (a0 :: .int x :: L) S M N P Q = Wp mX3_countsOn d 33 (a0 :: .int x :: L) (.int x :: S) M N P Q := wp_iload_n rfl dX3_countsOn_32 rfl
theorem sX3_countsOn_33 (hs : (shk r).1 = 100) : Wp mX3_countsOn d 33 L (.int j :: .ref r :: S) M N P Q = (vp_in j (shk r).2 ∧ Wp mX3_countsOn d 34 L (.int (M r j.toNatClampNeg) :: S) M N P Q) := wp_iaload rfl dX3_countsOn_33 (kd hs)
theorem sX3_countsOn_34 : Wp mX3_countsOn d 34 (a0 :: a1 :: .int x :: L) S M N P Q = Wp mX3_countsOn d 35 (a0 :: a1 :: .int x :: L) (.int x :: S) M N P Q := wp_iload_n rfl dX3_countsOn_34 rfl
theorem sX3_countsOn_35 : Wp mX3_countsOn d 35 L (.int z :: .int x :: S) M N P Q = (if x ≤ z then Wp mX3_countsOn d 42 L S M N P Q else Wp mX3_countsOn d 38 L S M N P Q) := wp_icmp_le rfl dX3_countsOn_35 rfl
theorem sX3_countsOn_38 : Wp mX3_countsOn d 38 L S M N P Q = Wp mX3_countsOn d 39 L (.int 1 :: S) M N P Q := wp_iconst rfl dX3_countsOn_38 rfl
theorem sX3_countsOn_39 : Wp mX3_countsOn d 39 L S M N P Q = Wp mX3_countsOn d 43 L S M N P Q := wp_goto rfl dX3_countsOn_39 rfl
theorem sX3_countsOn_42 : Wp mX3_countsOn d 42 L S M N P Q = Wp mX3_countsOn d 43 L (.int 0 :: S) M N P Q := wp_iconst rfl dX3_countsOn_42 rfl
theorem sX3_countsOn_43 (hb : bit x) : Wp mX3_countsOn d 43 L [.int x] M N P Q = Q (some (.int x)) M N P := wp_iret rfl dX3_countsOn_43 rfl (bit_n hb)
theorem sX5_has_0 : Wp mX5_has d 0 (a0 :: .int x :: L) S M N P Q = Wp mX5_has d 1 (a0 :: .int x :: L) (.int x :: S) M N P Q := wp_iload_n rfl dX5_has_0 rfl
theorem sX5_has_1 : Wp mX5_has d 1 L (.int x :: S) M N P Q = (if x < 0 then Wp mX5_has d 16 L S M N P Q else Wp mX5_has d 4 L S M N P Q) := wp_if_lt rfl dX5_has_1 rfl
theorem sX5_has_4 : Wp mX5_has d 4 (a0 :: .int x :: L) S M N P Q = Wp mX5_has d 5 (a0 :: .int x :: L) (.int x :: S) M N P Q := wp_iload_n rfl dX5_has_4 rfl
theorem sX5_has_5 : Wp mX5_has d 5 (.ref r :: L) S M N P Q = Wp mX5_has d 6 (.ref r :: L) (.ref r :: S) M N P Q := wp_aload_n rfl dX5_has_5 rfl
theorem sX5_has_6 (hs : shk r = (5, 0)) : Wp mX5_has d 6 L (.ref r :: S) M N P Q = Wp mX5_has d 9 L (.int (M r 3) :: S) M N P Q := wp_getfield rfl dX5_has_6 rfl rfl hs rfl
theorem sX5_has_9 : Wp mX5_has d 9 L (.int z :: .int x :: S) M N P Q = (if z ≤ x then Wp mX5_has d 16 L S M N P Q else Wp mX5_has d 12 L S M N P Q) := wp_icmp_ge rfl dX5_has_9 rfl
theorem sX5_has_12 : Wp mX5_has d 12 L S M N P Q = Wp mX5_has d 13 L (.int 1 :: S) M N P Q := wp_iconst rfl dX5_has_12 rfl
theorem sX5_has_13 : Wp mX5_has d 13 L S M N P Q = Wp mX5_has d 17 L S M N P Q := wp_goto rfl dX5_has_13 rfl
theorem sX5_has_16 : Wp mX5_has d 16 L S M N P Q = Wp mX5_has d 17 L (.int 0 :: S) M N P Q := wp_iconst rfl dX5_has_16 rfl
theorem sX5_has_17 (hb : bit x) : Wp mX5_has d 17 L [.int x] M N P Q = Q (some (.int x)) M N P := wp_iret rfl dX5_has_17 rfl (bit_n hb)
theorem sX5_add_0 : Wp mX5_add d 0 (.ref r :: L) S M N P Q = Wp mX5_add d 1 (.ref r :: L) (.ref r :: S) M N P Q := wp_aload_n rfl dX5_add_0 rfl
theorem sX5_add_1 (hs : shk r = (5, 0)) : Wp mX5_add d 1 L (.ref r :: S) M N P Q = Wp mX5_add d 4 L (.int (M r 3) :: S) M N P Q := wp_getfield rfl dX5_add_1 rfl rfl hs rfl
theorem sX5_add_4 : Wp mX5_add d 4 L S M N P Q = Wp mX5_add d 6 L (.int 24 :: S) M N P Q := wp_bipush rfl dX5_add_4 rfl
theorem sX5_add_6 : Wp mX5_add d 6 L (.int z :: .int x :: S) M N P Q = (if z ≤ x then Wp mX5_add d 25 L S M N P Q else Wp mX5_add d 9 L S M N P Q) := wp_icmp_ge rfl dX5_add_6 rfl
theorem sX5_add_9 : Wp mX5_add d 9 (.ref r :: L) S M N P Q = Wp mX5_add d 10 (.ref r :: L) (.ref r :: S) M N P Q := wp_aload_n rfl dX5_add_9 rfl
theorem sX5_add_10 : Wp mX5_add d 10 (a0 :: .int x :: L) S M N P Q = Wp mX5_add d 11 (a0 :: .int x :: L) (.int x :: S) M N P Q := wp_iload_n rfl dX5_add_10 rfl
theorem sX5_add_11 {x0 : Int32} (hs : shk r = (5, 0)) (hS : stk S ≤ 8) : Wp mX5_add (d + 1) 11 L (.int x0 :: .ref r :: S) M N P Q = Wp mX5_canBeParent d 0 [.ref r, .int x0] [] M N P (fun v M' N' P' => Wp mX5_add (d + 1) 14 L (v.toList ++ S) M' N' P' Q) := wp_callV (As := [.int x0]) rfl dX5_add_11 rfl rfl (Or.inl ⟨_, _, _, hs, rfl⟩) rfl ⟨rfl, Nat.le_of_ble_eq_true rfl, Nat.le_of_ble_eq_true rfl⟩ rfl hS
theorem sX5_add_14 : Wp mX5_add d 14 L (.int x :: S) M N P Q = (if x = 0 then Wp mX5_add d 25 L S M N P Q else Wp mX5_add d 17 L S M N P Q) := wp_if_eq rfl dX5_add_14 rfl
theorem sX5_add_17 : Wp mX5_add d 17 (.ref r :: L) S M N P Q = Wp mX5_add d 18 (.ref r :: L) (.ref r :: S) M N P Q := wp_aload_n rfl dX5_add_17 rfl
theorem sX5_add_18 : Wp mX5_add d 18 (a0 :: a1 :: .int x :: L) S M N P Q = Wp mX5_add d 19 (a0 :: a1 :: .int x :: L) (.int x :: S) M N P Q := wp_iload_n rfl dX5_add_18 rfl
theorem sX5_add_19 {x0 : Int32} (hs : shk r = (5, 0)) (hS : stk S ≤ 8) : Wp mX5_add (d + 1) 19 L (.int x0 :: .ref r :: S) M N P Q = Wp mX5_canBeParent d 0 [.ref r, .int x0] [] M N P (fun v M' N' P' => Wp mX5_add (d + 1) 22 L (v.toList ++ S) M' N' P' Q) := wp_callV (As := [.int x0]) rfl dX5_add_19 rfl rfl (Or.inl ⟨_, _, _, hs, rfl⟩) rfl ⟨rfl, Nat.le_of_ble_eq_true rfl, Nat.le_of_ble_eq_true rfl⟩ rfl hS
theorem sX5_add_22 : Wp mX5_add d 22 L (.int x :: S) M N P Q = (if x = 0 then Wp mX5_add d 25 L S M N P Q else Wp mX5_add d 27 L S M N P Q) := wp_if_ne rfl dX5_add_22 rfl
theorem sX5_add_25 : Wp mX5_add d 25 L S M N P Q = Wp mX5_add d 26 L (.int (-1) :: S) M N P Q := wp_iconst rfl dX5_add_25 rfl
theorem sX5_add_26 : Wp mX5_add d 26 L [.int x] M N P Q = Q (some (.int x)) M N P := wp_iret rfl dX5_add_26 rfl rfl
theorem sX5_add_27 : Wp mX5_add d 27 (.ref r :: L) S M N P Q = Wp mX5_add d 28 (.ref r :: L) (.ref r :: S) M N P Q := wp_aload_n rfl dX5_add_27 rfl
theorem sX5_add_28 (hs : shk r = (5, 0)) : Wp mX5_add d 28 L (.ref r :: S) M N P Q = Wp mX5_add d 31 L (.ref (P r 0) :: S) M N P Q := wp_getfield rfl dX5_add_28 rfl rfl hs rfl
theorem sX5_add_31 : Wp mX5_add d 31 (.ref r :: L) S M N P Q = Wp mX5_add d 32 (.ref r :: L) (.ref r :: S) M N P Q := wp_aload_n rfl dX5_add_31 rfl
theorem sX5_add_32 (hs : shk r = (5, 0)) : Wp mX5_add d 32 L (.ref r :: S) M N P Q = Wp mX5_add d 35 L (.int (M r 3) :: S) M N P Q := wp_getfield rfl dX5_add_32 rfl rfl hs rfl
theorem sX5_add_35 : Wp mX5_add d 35 (a0 :: .int x :: L) S M N P Q = Wp mX5_add d 36 (a0 :: .int x :: L) (.int x :: S) M N P Q := wp_iload_n rfl dX5_add_35 rfl
theorem sX5_add_36 (hs : (shk r).1 = 100) : Wp mX5_add d 36 L (.int x :: .int j :: .ref r :: S) M N P Q = (vp_in j (shk r).2 ∧ Wp mX5_add d 37 L S (up2 M r j.toNatClampNeg x) N P Q) := wp_iastore rfl dX5_add_36 (kd hs)
theorem sX5_add_37 : Wp mX5_add d 37 (.ref r :: L) S M N P Q = Wp mX5_add d 38 (.ref r :: L) (.ref r :: S) M N P Q := wp_aload_n rfl dX5_add_37 rfl
theorem sX5_add_38 (hs : shk r = (5, 0)) : Wp mX5_add d 38 L (.ref r :: S) M N P Q = Wp mX5_add d 41 L (.ref (P r 1) :: S) M N P Q := wp_getfield rfl dX5_add_38 rfl rfl hs rfl
theorem sX5_add_41 : Wp mX5_add d 41 (.ref r :: L) S M N P Q = Wp mX5_add d 42 (.ref r :: L) (.ref r :: S) M N P Q := wp_aload_n rfl dX5_add_41 rfl
theorem sX5_add_42 (hs : shk r = (5, 0)) : Wp mX5_add d 42 L (.ref r :: S) M N P Q = Wp mX5_add d 45 L (.int (M r 3) :: S) M N P Q := wp_getfield rfl dX5_add_42 rfl rfl hs rfl
theorem sX5_add_45 : Wp mX5_add d 45 (a0 :: a1 :: .int x :: L) S M N P Q = Wp mX5_add d 46 (a0 :: a1 :: .int x :: L) (.int x :: S) M N P Q := wp_iload_n rfl dX5_add_45 rfl
theorem sX5_add_46 (hs : (shk r).1 = 100) : Wp mX5_add d 46 L (.int x :: .int j :: .ref r :: S) M N P Q = (vp_in j (shk r).2 ∧ Wp mX5_add d 47 L S (up2 M r j.toNatClampNeg x) N P Q) := wp_iastore rfl dX5_add_46 (kd hs)
theorem sX5_add_47 : Wp mX5_add d 47 (.ref r :: L) S M N P Q = Wp mX5_add d 48 (.ref r :: L) (.ref r :: S) M N P Q := wp_aload_n rfl dX5_add_47 rfl
theorem sX5_add_48 (hs : shk r = (5, 0)) : Wp mX5_add d 48 L (.ref r :: S) M N P Q = Wp mX5_add d 51 L (.ref (P r 2) :: S) M N P Q := wp_getfield rfl dX5_add_48 rfl rfl hs rfl
theorem sX5_add_51 : Wp mX5_add d 51 (.ref r :: L) S M N P Q = Wp mX5_add d 52 (.ref r :: L) (.ref r :: S) M N P Q := wp_aload_n rfl dX5_add_51 rfl
theorem sX5_add_52 (hs : shk r = (5, 0)) : Wp mX5_add d 52 L (.ref r :: S) M N P Q = Wp mX5_add d 55 L (.int (M r 3) :: S) M N P Q := wp_getfield rfl dX5_add_52 rfl rfl hs rfl
theorem sX5_add_55 : Wp mX5_add d 55 L S M N P Q = Wp mX5_add d 56 L (.int (-1) :: S) M N P Q := wp_iconst rfl dX5_add_55 rfl
theorem sX5_add_56 (hs : (shk r).1 = 100) : Wp mX5_add d 56 L (.int x :: .int j :: .ref r :: S) M N P Q = (vp_in j (shk r).2 ∧ Wp mX5_add d 57 L S (up2 M r j.toNatClampNeg x) N P Q) := wp_iastore rfl dX5_add_56 (kd hs)
theorem sX5_add_57 : Wp mX5_add d 57 (.ref r :: L) S M N P Q = Wp mX5_add d 58 (.ref r :: L) (.ref r :: S) M N P Q := wp_aload_n rfl dX5_add_57 rfl
theorem sX5_add_58 (hv : a0.category = 1) : Wp mX5_add d 58 L (a0 :: S) M N P Q = Wp mX5_add d 59 L (a0 :: a0 :: S) M N P Q := wp_dup rfl dX5_add_58 hv
theorem sX5_add_59 (hs : shk r = (5, 0)) : Wp mX5_add d 59 L (.ref r :: S) M N P Q = Wp mX5_add d 62 L (.int (M r 3) :: S) M N P Q := wp_getfield rfl dX5_add_59 rfl rfl hs rfl
theorem sX5_add_62 : Wp mX5_add d 62 L S M N P Q = Wp mX5_add d 63 L (.int 1 :: S) M N P Q := wp_iconst rfl dX5_add_62 rfl
theorem sX5_add_63 : Wp mX5_add d 63 L (.int z :: .int x :: S) M N P Q = Wp mX5_add d 64 L (.int (x + z) :: S) M N P Q := wp_iadd rfl dX5_add_63
theorem sX5_add_64 (hs : shk r = (5, 0)) : Wp mX5_add d 64 L (.int x :: .ref r :: S) M N P Q = Wp mX5_add d 67 L S (up2 M r 3 x) N P Q := wp_putI rfl dX5_add_64 rfl rfl hs rfl ⟨_, _, _, _, rfl, by decide, rfl, tyX5_ok 3 (by decide), rfl, rfl⟩
theorem sX5_add_67 : Wp mX5_add d 67 (.ref r :: L) S M N P Q = Wp mX5_add d 68 (.ref r :: L) (.ref r :: S) M N P Q := wp_aload_n rfl dX5_add_67 rfl
theorem sX5_add_68 (hs : shk r = (5, 0)) : Wp mX5_add d 68 L (.ref r :: S) M N P Q = Wp mX5_add d 71 L (.int (M r 3) :: S) M N P Q := wp_getfield rfl dX5_add_68 rfl rfl hs rfl
theorem sX5_add_71 : Wp mX5_add d 71 L S M N P Q = Wp mX5_add d 72 L (.int 1 :: S) M N P Q := wp_iconst rfl dX5_add_71 rfl
theorem sX5_add_72 : Wp mX5_add d 72 L (.int z :: .int x :: S) M N P Q = Wp mX5_add d 73 L (.int (x - z) :: S) M N P Q := wp_isub rfl dX5_add_72
theorem sX5_add_73 : Wp mX5_add d 73 L [.int x] M N P Q = Q (some (.int x)) M N P := wp_iret rfl dX5_add_73 rfl rfl
theorem sX5_canBeParent_0 : Wp mX5_canBeParent d 0 (a0 :: .int x :: L) S M N P Q = Wp mX5_canBeParent d 1 (a0 :: .int x :: L) (.int x :: S) M N P Q := wp_iload_n rfl dX5_canBeParent_0 rfl
theorem sX5_canBeParent_1 : Wp mX5_canBeParent d 1 L S M N P Q = Wp mX5_canBeParent d 2 L (.int (-1) :: S) M N P Q := wp_iconst rfl dX5_canBeParent_1 rfl
theorem sX5_canBeParent_2 : Wp mX5_canBeParent d 2 L (.int z :: .int x :: S) M N P Q = (if x = z then Wp mX5_canBeParent d 13 L S M N P Q else Wp mX5_canBeParent d 5 L S M N P Q) := wp_icmp_eq rfl dX5_canBeParent_2 rfl
theorem sX5_canBeParent_5 : Wp mX5_canBeParent d 5 (.ref r :: L) S M N P Q = Wp mX5_canBeParent d 6 (.ref r :: L) (.ref r :: S) M N P Q := wp_aload_n rfl dX5_canBeParent_5 rfl
theorem sX5_canBeParent_6 : Wp mX5_canBeParent d 6 (a0 :: .int x :: L) S M N P Q = Wp mX5_canBeParent d 7 (a0 :: .int x :: L) (.int x :: S) M N P Q := wp_iload_n rfl dX5_canBeParent_6 rfl
theorem sX5_canBeParent_7 {x0 : Int32} (hs : shk r = (5, 0)) (hS : stk S ≤ 8) : Wp mX5_canBeParent (d + 1) 7 L (.int x0 :: .ref r :: S) M N P Q = Wp mX5_has d 0 [.ref r, .int x0] [] M N P (fun v M' N' P' => Wp mX5_canBeParent (d + 1) 10 L (v.toList ++ S) M' N' P' Q) := wp_callV (As := [.int x0]) rfl dX5_canBeParent_7 rfl rfl (Or.inl ⟨_, _, _, hs, rfl⟩) rfl ⟨rfl, Nat.le_of_ble_eq_true rfl, Nat.le_of_ble_eq_true rfl⟩ rfl hS
theorem sX5_canBeParent_10 : Wp mX5_canBeParent d 10 L (.int x :: S) M N P Q = (if x = 0 then Wp mX5_canBeParent d 17 L S M N P Q else Wp mX5_canBeParent d 13 L S M N P Q) := wp_if_eq rfl dX5_canBeParent_10 rfl
theorem sX5_canBeParent_13 : Wp mX5_canBeParent d 13 L S M N P Q = Wp mX5_canBeParent d 14 L (.int 1 :: S) M N P Q := wp_iconst rfl dX5_canBeParent_13 rfl
theorem sX5_canBeParent_14 : Wp mX5_canBeParent d 14 L S M N P Q = Wp mX5_canBeParent d 18 L S M N P Q := wp_goto rfl dX5_canBeParent_14 rfl
theorem sX5_canBeParent_17 : Wp mX5_canBeParent d 17 L S M N P Q = Wp mX5_canBeParent d 18 L (.int 0 :: S) M N P Q := wp_iconst rfl dX5_canBeParent_17 rfl
theorem sX5_canBeParent_18 (hb : bit x) : Wp mX5_canBeParent d 18 L [.int x] M N P Q = Q (some (.int x)) M N P := wp_iret rfl dX5_canBeParent_18 rfl (bit_n hb)
theorem sX5_tellDeath_0 : Wp mX5_tellDeath d 0 (.ref r :: L) S M N P Q = Wp mX5_tellDeath d 1 (.ref r :: L) (.ref r :: S) M N P Q := wp_aload_n rfl dX5_tellDeath_0 rfl
theorem sX5_tellDeath_1 : Wp mX5_tellDeath d 1 (a0 :: .int x :: L) S M N P Q = Wp mX5_tellDeath d 2 (a0 :: .int x :: L) (.int x :: S) M N P Q := wp_iload_n rfl dX5_tellDeath_1 rfl
theorem sX5_tellDeath_2 {x0 : Int32} (hs : shk r = (5, 0)) (hS : stk S ≤ 8) : Wp mX5_tellDeath (d + 1) 2 L (.int x0 :: .ref r :: S) M N P Q = Wp mX5_has d 0 [.ref r, .int x0] [] M N P (fun v M' N' P' => Wp mX5_tellDeath (d + 1) 5 L (v.toList ++ S) M' N' P' Q) := wp_callV (As := [.int x0]) rfl dX5_tellDeath_2 rfl rfl (Or.inl ⟨_, _, _, hs, rfl⟩) rfl ⟨rfl, Nat.le_of_ble_eq_true rfl, Nat.le_of_ble_eq_true rfl⟩ rfl hS
theorem sX5_tellDeath_5 : Wp mX5_tellDeath d 5 L (.int x :: S) M N P Q = (if x = 0 then Wp mX5_tellDeath d 18 L S M N P Q else Wp mX5_tellDeath d 8 L S M N P Q) := wp_if_eq rfl dX5_tellDeath_5 rfl
theorem sX5_tellDeath_8 : Wp mX5_tellDeath d 8 (.ref r :: L) S M N P Q = Wp mX5_tellDeath d 9 (.ref r :: L) (.ref r :: S) M N P Q := wp_aload_n rfl dX5_tellDeath_8 rfl
theorem sX5_tellDeath_9 (hs : shk r = (5, 0)) : Wp mX5_tellDeath d 9 L (.ref r :: S) M N P Q = Wp mX5_tellDeath d 12 L (.ref (P r 2) :: S) M N P Q := wp_getfield rfl dX5_tellDeath_9 rfl rfl hs rfl
theorem sX5_tellDeath_12 : Wp mX5_tellDeath d 12 (a0 :: .int x :: L) S M N P Q = Wp mX5_tellDeath d 13 (a0 :: .int x :: L) (.int x :: S) M N P Q := wp_iload_n rfl dX5_tellDeath_12 rfl
theorem sX5_tellDeath_13 (hs : (shk r).1 = 100) : Wp mX5_tellDeath d 13 L (.int j :: .ref r :: S) M N P Q = (vp_in j (shk r).2 ∧ Wp mX5_tellDeath d 14 L (.int (M r j.toNatClampNeg) :: S) M N P Q) := wp_iaload rfl dX5_tellDeath_13 (kd hs)
theorem sX5_tellDeath_14 : Wp mX5_tellDeath d 14 L S M N P Q = Wp mX5_tellDeath d 15 L (.int (-1) :: S) M N P Q := wp_iconst rfl dX5_tellDeath_14 rfl
theorem sX5_tellDeath_15 : Wp mX5_tellDeath d 15 L (.int z :: .int x :: S) M N P Q = (if x = z then Wp mX5_tellDeath d 20 L S M N P Q else Wp mX5_tellDeath d 18 L S M N P Q) := wp_icmp_eq rfl dX5_tellDeath_15 rfl
theorem sX5_tellDeath_18 : Wp mX5_tellDeath d 18 L S M N P Q = Wp mX5_tellDeath d 19 L (.int 0 :: S) M N P Q := wp_iconst rfl dX5_tellDeath_18 rfl
theorem sX5_tellDeath_19 (hb : bit x) : Wp mX5_tellDeath d 19 L [.int x] M N P Q = Q (some (.int x)) M N P := wp_iret rfl dX5_tellDeath_19 rfl (bit_n hb)
theorem sX5_tellDeath_20 : Wp mX5_tellDeath d 20 (.ref r :: L) S M N P Q = Wp mX5_tellDeath d 21 (.ref r :: L) (.ref r :: S) M N P Q := wp_aload_n rfl dX5_tellDeath_20 rfl
theorem sX5_tellDeath_21 (hs : shk r = (5, 0)) : Wp mX5_tellDeath d 21 L (.ref r :: S) M N P Q = Wp mX5_tellDeath d 24 L (.ref (P r 2) :: S) M N P Q := wp_getfield rfl dX5_tellDeath_21 rfl rfl hs rfl
theorem sX5_tellDeath_24 : Wp mX5_tellDeath d 24 (a0 :: .int x :: L) S M N P Q = Wp mX5_tellDeath d 25 (a0 :: .int x :: L) (.int x :: S) M N P Q := wp_iload_n rfl dX5_tellDeath_24 rfl
theorem sX5_tellDeath_25 : Wp mX5_tellDeath d 25 (a0 :: a1 :: .int x :: L) S M N P Q = Wp mX5_tellDeath d 26 (a0 :: a1 :: .int x :: L) (.int x :: S) M N P Q := wp_iload_n rfl dX5_tellDeath_25 rfl
theorem sX5_tellDeath_26 (hs : (shk r).1 = 100) : Wp mX5_tellDeath d 26 L (.int x :: .int j :: .ref r :: S) M N P Q = (vp_in j (shk r).2 ∧ Wp mX5_tellDeath d 27 L S (up2 M r j.toNatClampNeg x) N P Q) := wp_iastore rfl dX5_tellDeath_26 (kd hs)
theorem sX5_tellDeath_27 : Wp mX5_tellDeath d 27 L S M N P Q = Wp mX5_tellDeath d 28 L (.int 1 :: S) M N P Q := wp_iconst rfl dX5_tellDeath_27 rfl
theorem sX5_tellDeath_28 (hb : bit x) : Wp mX5_tellDeath d 28 L [.int x] M N P Q = Q (some (.int x)) M N P := wp_iret rfl dX5_tellDeath_28 rfl (bit_n hb)
theorem sX5_isDeadOn_0 : Wp mX5_isDeadOn d 0 (.ref r :: L) S M N P Q = Wp mX5_isDeadOn d 1 (.ref r :: L) (.ref r :: S) M N P Q := wp_aload_n rfl dX5_isDeadOn_0 rfl
theorem sX5_isDeadOn_1 : Wp mX5_isDeadOn d 1 (a0 :: .int x :: L) S M N P Q = Wp mX5_isDeadOn d 2 (a0 :: .int x :: L) (.int x :: S) M N P Q := wp_iload_n rfl dX5_isDeadOn_1 rfl
theorem sX5_isDeadOn_2 {x0 : Int32} (hs : shk r = (5, 0)) (hS : stk S ≤ 8) : Wp mX5_isDeadOn (d + 1) 2 L (.int x0 :: .ref r :: S) M N P Q = Wp mX5_has d 0 [.ref r, .int x0] [] M N P (fun v M' N' P' => Wp mX5_isDeadOn (d + 1) 5 L (v.toList ++ S) M' N' P' Q) := wp_callV (As := [.int x0]) rfl dX5_isDeadOn_2 rfl rfl (Or.inl ⟨_, _, _, hs, rfl⟩) rfl ⟨rfl, Nat.le_of_ble_eq_true rfl, Nat.le_of_ble_eq_true rfl⟩ rfl hS
theorem sX5_isDeadOn_5 : Wp mX5_isDeadOn d 5 L (.int x :: S) M N P Q = (if x = 0 then Wp mX5_isDeadOn d 32 L S M N P Q else Wp mX5_isDeadOn d 8 L S M N P Q) := wp_if_eq rfl dX5_isDeadOn_5 rfl
theorem sX5_isDeadOn_8 : Wp mX5_isDeadOn d 8 (.ref r :: L) S M N P Q = Wp mX5_isDeadOn d 9 (.ref r :: L) (.ref r :: S) M N P Q := wp_aload_n rfl dX5_isDeadOn_8 rfl
theorem sX5_isDeadOn_9 (hs : shk r = (5, 0)) : Wp mX5_isDeadOn d 9 L (.ref r :: S) M N P Q = Wp mX5_isDeadOn d 12 L (.ref (P r 2) :: S) M N P Q := wp_getfield rfl dX5_isDeadOn_9 rfl rfl hs rfl
theorem sX5_isDeadOn_12 : Wp mX5_isDeadOn d 12 (a0 :: .int x :: L) S M N P Q = Wp mX5_isDeadOn d 13 (a0 :: .int x :: L) (.int x :: S) M N P Q := wp_iload_n rfl dX5_isDeadOn_12 rfl
theorem sX5_isDeadOn_13 (hs : (shk r).1 = 100) : Wp mX5_isDeadOn d 13 L (.int j :: .ref r :: S) M N P Q = (vp_in j (shk r).2 ∧ Wp mX5_isDeadOn d 14 L (.int (M r j.toNatClampNeg) :: S) M N P Q) := wp_iaload rfl dX5_isDeadOn_13 (kd hs)
theorem sX5_isDeadOn_14 : Wp mX5_isDeadOn d 14 L S M N P Q = Wp mX5_isDeadOn d 15 L (.int (-1) :: S) M N P Q := wp_iconst rfl dX5_isDeadOn_14 rfl
theorem sX5_isDeadOn_15 : Wp mX5_isDeadOn d 15 L (.int z :: .int x :: S) M N P Q = (if x = z then Wp mX5_isDeadOn d 32 L S M N P Q else Wp mX5_isDeadOn d 18 L S M N P Q) := wp_icmp_eq rfl dX5_isDeadOn_15 rfl
theorem sX5_isDeadOn_18 : Wp mX5_isDeadOn d 18 (.ref r :: L) S M N P Q = Wp mX5_isDeadOn d 19 (.ref r :: L) (.ref r :: S) M N P Q := wp_aload_n rfl dX5_isDeadOn_18 rfl
theorem sX5_isDeadOn_19 (hs : shk r = (5, 0)) : Wp mX5_isDeadOn d 19 L (.ref r :: S) M N P Q = Wp mX5_isDeadOn d 22 L (.ref (P r 2) :: S) M N P Q := wp_getfield rfl dX5_isDeadOn_19 rfl rfl hs rfl
theorem sX5_isDeadOn_22 : Wp mX5_isDeadOn d 22 (a0 :: .int x :: L) S M N P Q = Wp mX5_isDeadOn d 23 (a0 :: .int x :: L) (.int x :: S) M N P Q := wp_iload_n rfl dX5_isDeadOn_22 rfl
theorem sX5_isDeadOn_23 (hs : (shk r).1 = 100) : Wp mX5_isDeadOn d 23 L (.int j :: .ref r :: S) M N P Q = (vp_in j (shk r).2 ∧ Wp mX5_isDeadOn d 24 L (.int (M r j.toNatClampNeg) :: S) M N P Q) := wp_iaload rfl dX5_isDeadOn_23 (kd hs)
theorem sX5_isDeadOn_24 : Wp mX5_isDeadOn d 24 (a0 :: a1 :: .int x :: L) S M N P Q = Wp mX5_isDeadOn d 25 (a0 :: a1 :: .int x :: L) (.int x :: S) M N P Q := wp_iload_n rfl dX5_isDeadOn_24 rfl
theorem sX5_isDeadOn_25 : Wp mX5_isDeadOn d 25 L (.int z :: .int x :: S) M N P Q = (if z < x then Wp mX5_isDeadOn d 32 L S M N P Q else Wp mX5_isDeadOn d 28 L S M N P Q) := wp_icmp_gt rfl dX5_isDeadOn_25 rfl
theorem sX5_isDeadOn_28 : Wp mX5_isDeadOn d 28 L S M N P Q = Wp mX5_isDeadOn d 29 L (.int 1 :: S) M N P Q := wp_iconst rfl dX5_isDeadOn_28 rfl
theorem sX5_isDeadOn_29 : Wp mX5_isDeadOn d 29 L S M N P Q = Wp mX5_isDeadOn d 33 L S M N P Q := wp_goto rfl dX5_isDeadOn_29 rfl
theorem sX5_isDeadOn_32 : Wp mX5_isDeadOn d 32 L S M N P Q = Wp mX5_isDeadOn d 33 L (.int 0 :: S) M N P Q := wp_iconst rfl dX5_isDeadOn_32 rfl
theorem sX5_isDeadOn_33 (hb : bit x) : Wp mX5_isDeadOn d 33 L [.int x] M N P Q = Q (some (.int x)) M N P := wp_iret rfl dX5_isDeadOn_33 rfl (bit_n hb)
theorem sX5_isChildOf_0 : Wp mX5_isChildOf d 0 (.ref r :: L) S M N P Q = Wp mX5_isChildOf d 1 (.ref r :: L) (.ref r :: S) M N P Q := wp_aload_n rfl dX5_isChildOf_0 rfl
theorem sX5_isChildOf_1 : Wp mX5_isChildOf d 1 (a0 :: .int x :: L) S M N P Q = Wp mX5_isChildOf d 2 (a0 :: .int x :: L) (.int x :: S) M N P Q := wp_iload_n rfl dX5_isChildOf_1 rfl
theorem sX5_isChildOf_2 {x0 : Int32} (hs : shk r = (5, 0)) (hS : stk S ≤ 8) : Wp mX5_isChildOf (d + 1) 2 L (.int x0 :: .ref r :: S) M N P Q = Wp mX5_has d 0 [.ref r, .int x0] [] M N P (fun v M' N' P' => Wp mX5_isChildOf (d + 1) 5 L (v.toList ++ S) M' N' P' Q) := wp_callV (As := [.int x0]) rfl dX5_isChildOf_2 rfl rfl (Or.inl ⟨_, _, _, hs, rfl⟩) rfl ⟨rfl, Nat.le_of_ble_eq_true rfl, Nat.le_of_ble_eq_true rfl⟩ rfl hS
theorem sX5_isChildOf_5 : Wp mX5_isChildOf d 5 L (.int x :: S) M N P Q = (if x = 0 then Wp mX5_isChildOf d 32 L S M N P Q else Wp mX5_isChildOf d 8 L S M N P Q) := wp_if_eq rfl dX5_isChildOf_5 rfl
theorem sX5_isChildOf_8 : Wp mX5_isChildOf d 8 (.ref r :: L) S M N P Q = Wp mX5_isChildOf d 9 (.ref r :: L) (.ref r :: S) M N P Q := wp_aload_n rfl dX5_isChildOf_8 rfl
theorem sX5_isChildOf_9 (hs : shk r = (5, 0)) : Wp mX5_isChildOf d 9 L (.ref r :: S) M N P Q = Wp mX5_isChildOf d 12 L (.ref (P r 0) :: S) M N P Q := wp_getfield rfl dX5_isChildOf_9 rfl rfl hs rfl
theorem sX5_isChildOf_12 : Wp mX5_isChildOf d 12 (a0 :: .int x :: L) S M N P Q = Wp mX5_isChildOf d 13 (a0 :: .int x :: L) (.int x :: S) M N P Q := wp_iload_n rfl dX5_isChildOf_12 rfl
theorem sX5_isChildOf_13 (hs : (shk r).1 = 100) : Wp mX5_isChildOf d 13 L (.int j :: .ref r :: S) M N P Q = (vp_in j (shk r).2 ∧ Wp mX5_isChildOf d 14 L (.int (M r j.toNatClampNeg) :: S) M N P Q) := wp_iaload rfl dX5_isChildOf_13 (kd hs)
theorem sX5_isChildOf_14 : Wp mX5_isChildOf d 14 (a0 :: a1 :: .int x :: L) S M N P Q = Wp mX5_isChildOf d 15 (a0 :: a1 :: .int x :: L) (.int x :: S) M N P Q := wp_iload_n rfl dX5_isChildOf_14 rfl
theorem sX5_isChildOf_15 : Wp mX5_isChildOf d 15 L (.int z :: .int x :: S) M N P Q = (if x = z then Wp mX5_isChildOf d 28 L S M N P Q else Wp mX5_isChildOf d 18 L S M N P Q) := wp_icmp_eq rfl dX5_isChildOf_15 rfl
theorem sX5_isChildOf_18 : Wp mX5_isChildOf d 18 (.ref r :: L) S M N P Q = Wp mX5_isChildOf d 19 (.ref r :: L) (.ref r :: S) M N P Q := wp_aload_n rfl dX5_isChildOf_18 rfl
theorem sX5_isChildOf_19 (hs : shk r = (5, 0)) : Wp mX5_isChildOf d 19 L (.ref r :: S) M N P Q = Wp mX5_isChildOf d 22 L (.ref (P r 1) :: S) M N P Q := wp_getfield rfl dX5_isChildOf_19 rfl rfl hs rfl
theorem sX5_isChildOf_22 : Wp mX5_isChildOf d 22 (a0 :: .int x :: L) S M N P Q = Wp mX5_isChildOf d 23 (a0 :: .int x :: L) (.int x :: S) M N P Q := wp_iload_n rfl dX5_isChildOf_22 rfl
theorem sX5_isChildOf_23 (hs : (shk r).1 = 100) : Wp mX5_isChildOf d 23 L (.int j :: .ref r :: S) M N P Q = (vp_in j (shk r).2 ∧ Wp mX5_isChildOf d 24 L (.int (M r j.toNatClampNeg) :: S) M N P Q) := wp_iaload rfl dX5_isChildOf_23 (kd hs)
theorem sX5_isChildOf_24 : Wp mX5_isChildOf d 24 (a0 :: a1 :: .int x :: L) S M N P Q = Wp mX5_isChildOf d 25 (a0 :: a1 :: .int x :: L) (.int x :: S) M N P Q := wp_iload_n rfl dX5_isChildOf_24 rfl
theorem sX5_isChildOf_25 : Wp mX5_isChildOf d 25 L (.int z :: .int x :: S) M N P Q = (if x = z then Wp mX5_isChildOf d 28 L S M N P Q else Wp mX5_isChildOf d 32 L S M N P Q) := wp_icmp_ne rfl dX5_isChildOf_25 rfl
theorem sX5_isChildOf_28 : Wp mX5_isChildOf d 28 L S M N P Q = Wp mX5_isChildOf d 29 L (.int 1 :: S) M N P Q := wp_iconst rfl dX5_isChildOf_28 rfl
theorem sX5_isChildOf_29 : Wp mX5_isChildOf d 29 L S M N P Q = Wp mX5_isChildOf d 33 L S M N P Q := wp_goto rfl dX5_isChildOf_29 rfl
theorem sX5_isChildOf_32 : Wp mX5_isChildOf d 32 L S M N P Q = Wp mX5_isChildOf d 33 L (.int 0 :: S) M N P Q := wp_iconst rfl dX5_isChildOf_32 rfl
theorem sX5_isChildOf_33 (hb : bit x) : Wp mX5_isChildOf d 33 L [.int x] M N P Q = Q (some (.int x)) M N P := wp_iret rfl dX5_isChildOf_33 rfl (bit_n hb)
theorem sX8_hasRoomFor_0 : Wp mX8_hasRoomFor d 0 (.ref r :: L) S M N P Q = Wp mX8_hasRoomFor d 1 (.ref r :: L) (.ref r :: S) M N P Q := wp_aload_n rfl dX8_hasRoomFor_0 rfl
theorem sX8_hasRoomFor_1 (hs : shk r = (8, 0)) : Wp mX8_hasRoomFor d 1 L (.ref r :: S) M N P Q = Wp mX8_hasRoomFor d 4 L (.int (M r 1) :: S) M N P Q := wp_getfield rfl dX8_hasRoomFor_1 rfl rfl hs rfl
theorem sX8_hasRoomFor_4 : Wp mX8_hasRoomFor d 4 L S M N P Q = Wp mX8_hasRoomFor d 5 L (.int 4 :: S) M N P Q := wp_iconst rfl dX8_hasRoomFor_4 rfl
theorem sX8_hasRoomFor_5 : Wp mX8_hasRoomFor d 5 (a0 :: .int x :: L) S M N P Q = Wp mX8_hasRoomFor d 6 (a0 :: .int x :: L) (.int x :: S) M N P Q := wp_iload_n rfl dX8_hasRoomFor_5 rfl
theorem sX8_hasRoomFor_6 : Wp mX8_hasRoomFor d 6 L (.int z :: .int x :: S) M N P Q = Wp mX8_hasRoomFor d 7 L (.int (x * z) :: S) M N P Q := wp_imul rfl dX8_hasRoomFor_6
theorem sX8_hasRoomFor_7 : Wp mX8_hasRoomFor d 7 L (.int z :: .int x :: S) M N P Q = Wp mX8_hasRoomFor d 8 L (.int (x + z) :: S) M N P Q := wp_iadd rfl dX8_hasRoomFor_7
theorem sX8_hasRoomFor_8 : Wp mX8_hasRoomFor d 8 L S M N P Q = Wp mX8_hasRoomFor d 11 L (.int 600 :: S) M N P Q := wp_sipush rfl dX8_hasRoomFor_8 rfl
theorem sX8_hasRoomFor_11 : Wp mX8_hasRoomFor d 11 L (.int z :: .int x :: S) M N P Q = (if z < x then Wp mX8_hasRoomFor d 18 L S M N P Q else Wp mX8_hasRoomFor d 14 L S M N P Q) := wp_icmp_gt rfl dX8_hasRoomFor_11 rfl
theorem sX8_hasRoomFor_14 : Wp mX8_hasRoomFor d 14 L S M N P Q = Wp mX8_hasRoomFor d 15 L (.int 1 :: S) M N P Q := wp_iconst rfl dX8_hasRoomFor_14 rfl
theorem sX8_hasRoomFor_15 : Wp mX8_hasRoomFor d 15 L S M N P Q = Wp mX8_hasRoomFor d 19 L S M N P Q := wp_goto rfl dX8_hasRoomFor_15 rfl
theorem sX8_hasRoomFor_18 : Wp mX8_hasRoomFor d 18 L S M N P Q = Wp mX8_hasRoomFor d 19 L (.int 0 :: S) M N P Q := wp_iconst rfl dX8_hasRoomFor_18 rfl
theorem sX8_hasRoomFor_19 (hb : bit x) : Wp mX8_hasRoomFor d 19 L [.int x] M N P Q = Q (some (.int x)) M N P := wp_iret rfl dX8_hasRoomFor_19 rfl (bit_n hb)
theorem sX8_put_0 : Wp mX8_put d 0 (.ref r :: L) S M N P Q = Wp mX8_put d 1 (.ref r :: L) (.ref r :: S) M N P Q := wp_aload_n rfl dX8_put_0 rfl
theorem sX8_put_1 : Wp mX8_put d 1 L S M N P Q = Wp mX8_put d 2 L (.int 1 :: S) M N P Q := wp_iconst rfl dX8_put_1 rfl
theorem sX8_put_2 {x0 : Int32} (hs : shk r = (8, 0)) (hS : stk S ≤ 8) : Wp mX8_put (d + 1) 2 L (.int x0 :: .ref r :: S) M N P Q = Wp mX8_hasRoomFor d 0 [.ref r, .int x0] [] M N P (fun v M' N' P' => Wp mX8_put (d + 1) 5 L (v.toList ++ S) M' N' P' Q) := wp_callV (As := [.int x0]) rfl dX8_put_2 rfl rfl (Or.inl ⟨_, _, _, hs, rfl⟩) rfl ⟨rfl, Nat.le_of_ble_eq_true rfl, Nat.le_of_ble_eq_true rfl⟩ rfl hS
theorem sX8_put_5 : Wp mX8_put d 5 L (.int x :: S) M N P Q = (if x = 0 then Wp mX8_put d 77 L S M N P Q else Wp mX8_put d 8 L S M N P Q) := wp_if_eq rfl dX8_put_5 rfl
theorem sX8_put_8 : Wp mX8_put d 8 (.ref r :: L) S M N P Q = Wp mX8_put d 9 (.ref r :: L) (.ref r :: S) M N P Q := wp_aload_n rfl dX8_put_8 rfl
theorem sX8_put_9 (hs : shk r = (8, 0)) : Wp mX8_put d 9 L (.ref r :: S) M N P Q = Wp mX8_put d 12 L (.ref (P r 0) :: S) M N P Q := wp_getfield rfl dX8_put_9 rfl rfl hs rfl
theorem sX8_put_12 : Wp mX8_put d 12 (.ref r :: L) S M N P Q = Wp mX8_put d 13 (.ref r :: L) (.ref r :: S) M N P Q := wp_aload_n rfl dX8_put_12 rfl
theorem sX8_put_13 (hs : shk r = (8, 0)) : Wp mX8_put d 13 L (.ref r :: S) M N P Q = Wp mX8_put d 16 L (.int (M r 1) :: S) M N P Q := wp_getfield rfl dX8_put_13 rfl rfl hs rfl
theorem sX8_put_16 : Wp mX8_put d 16 (a0 :: .int x :: L) S M N P Q = Wp mX8_put d 17 (a0 :: .int x :: L) (.int x :: S) M N P Q := wp_iload_n rfl dX8_put_16 rfl
theorem sX8_put_17 : Wp mX8_put d 17 L S M N P Q = Wp mX8_put d 19 L (.int 24 :: S) M N P Q := wp_bipush rfl dX8_put_17 rfl
theorem sX8_put_19 : Wp mX8_put d 19 L (.int z :: .int x :: S) M N P Q = Wp mX8_put d 20 L (.int (x >>> (z &&& 31)) :: S) M N P Q := wp_ishr rfl dX8_put_19
theorem sX8_put_20 : Wp mX8_put d 20 L (.int x :: S) M N P Q = Wp mX8_put d 21 L (.int x.toInt8.toInt32 :: S) M N P Q := wp_i2b rfl dX8_put_20
theorem sX8_put_21 (hs : (shk r).1 = 101) : Wp mX8_put d 21 L (.int x :: .int j :: .ref r :: S) M N P Q = (vp_in j (shk r).2 ∧ Wp mX8_put d 22 L S (up2 M r j.toNatClampNeg x.toInt8.toInt32) N P Q) := wp_bastoreB rfl dX8_put_21 (kd hs)
theorem sX8_put_22 : Wp mX8_put d 22 (.ref r :: L) S M N P Q = Wp mX8_put d 23 (.ref r :: L) (.ref r :: S) M N P Q := wp_aload_n rfl dX8_put_22 rfl
theorem sX8_put_23 (hs : shk r = (8, 0)) : Wp mX8_put d 23 L (.ref r :: S) M N P Q = Wp mX8_put d 26 L (.ref (P r 0) :: S) M N P Q := wp_getfield rfl dX8_put_23 rfl rfl hs rfl
theorem sX8_put_26 : Wp mX8_put d 26 (.ref r :: L) S M N P Q = Wp mX8_put d 27 (.ref r :: L) (.ref r :: S) M N P Q := wp_aload_n rfl dX8_put_26 rfl
theorem sX8_put_27 (hs : shk r = (8, 0)) : Wp mX8_put d 27 L (.ref r :: S) M N P Q = Wp mX8_put d 30 L (.int (M r 1) :: S) M N P Q := wp_getfield rfl dX8_put_27 rfl rfl hs rfl
theorem sX8_put_30 : Wp mX8_put d 30 L S M N P Q = Wp mX8_put d 31 L (.int 1 :: S) M N P Q := wp_iconst rfl dX8_put_30 rfl
theorem sX8_put_31 : Wp mX8_put d 31 L (.int z :: .int x :: S) M N P Q = Wp mX8_put d 32 L (.int (x + z) :: S) M N P Q := wp_iadd rfl dX8_put_31
theorem sX8_put_32 : Wp mX8_put d 32 (a0 :: .int x :: L) S M N P Q = Wp mX8_put d 33 (a0 :: .int x :: L) (.int x :: S) M N P Q := wp_iload_n rfl dX8_put_32 rfl
theorem sX8_put_33 : Wp mX8_put d 33 L S M N P Q = Wp mX8_put d 35 L (.int 16 :: S) M N P Q := wp_bipush rfl dX8_put_33 rfl
theorem sX8_put_35 : Wp mX8_put d 35 L (.int z :: .int x :: S) M N P Q = Wp mX8_put d 36 L (.int (x >>> (z &&& 31)) :: S) M N P Q := wp_ishr rfl dX8_put_35
theorem sX8_put_36 : Wp mX8_put d 36 L (.int x :: S) M N P Q = Wp mX8_put d 37 L (.int x.toInt8.toInt32 :: S) M N P Q := wp_i2b rfl dX8_put_36
theorem sX8_put_37 (hs : (shk r).1 = 101) : Wp mX8_put d 37 L (.int x :: .int j :: .ref r :: S) M N P Q = (vp_in j (shk r).2 ∧ Wp mX8_put d 38 L S (up2 M r j.toNatClampNeg x.toInt8.toInt32) N P Q) := wp_bastoreB rfl dX8_put_37 (kd hs)
theorem sX8_put_38 : Wp mX8_put d 38 (.ref r :: L) S M N P Q = Wp mX8_put d 39 (.ref r :: L) (.ref r :: S) M N P Q := wp_aload_n rfl dX8_put_38 rfl
theorem sX8_put_39 (hs : shk r = (8, 0)) : Wp mX8_put d 39 L (.ref r :: S) M N P Q = Wp mX8_put d 42 L (.ref (P r 0) :: S) M N P Q := wp_getfield rfl dX8_put_39 rfl rfl hs rfl
theorem sX8_put_42 : Wp mX8_put d 42 (.ref r :: L) S M N P Q = Wp mX8_put d 43 (.ref r :: L) (.ref r :: S) M N P Q := wp_aload_n rfl dX8_put_42 rfl
theorem sX8_put_43 (hs : shk r = (8, 0)) : Wp mX8_put d 43 L (.ref r :: S) M N P Q = Wp mX8_put d 46 L (.int (M r 1) :: S) M N P Q := wp_getfield rfl dX8_put_43 rfl rfl hs rfl
theorem sX8_put_46 : Wp mX8_put d 46 L S M N P Q = Wp mX8_put d 47 L (.int 2 :: S) M N P Q := wp_iconst rfl dX8_put_46 rfl
theorem sX8_put_47 : Wp mX8_put d 47 L (.int z :: .int x :: S) M N P Q = Wp mX8_put d 48 L (.int (x + z) :: S) M N P Q := wp_iadd rfl dX8_put_47
theorem sX8_put_48 : Wp mX8_put d 48 (a0 :: .int x :: L) S M N P Q = Wp mX8_put d 49 (a0 :: .int x :: L) (.int x :: S) M N P Q := wp_iload_n rfl dX8_put_48 rfl
theorem sX8_put_49 : Wp mX8_put d 49 L S M N P Q = Wp mX8_put d 51 L (.int 8 :: S) M N P Q := wp_bipush rfl dX8_put_49 rfl
theorem sX8_put_51 : Wp mX8_put d 51 L (.int z :: .int x :: S) M N P Q = Wp mX8_put d 52 L (.int (x >>> (z &&& 31)) :: S) M N P Q := wp_ishr rfl dX8_put_51
theorem sX8_put_52 : Wp mX8_put d 52 L (.int x :: S) M N P Q = Wp mX8_put d 53 L (.int x.toInt8.toInt32 :: S) M N P Q := wp_i2b rfl dX8_put_52
theorem sX8_put_53 (hs : (shk r).1 = 101) : Wp mX8_put d 53 L (.int x :: .int j :: .ref r :: S) M N P Q = (vp_in j (shk r).2 ∧ Wp mX8_put d 54 L S (up2 M r j.toNatClampNeg x.toInt8.toInt32) N P Q) := wp_bastoreB rfl dX8_put_53 (kd hs)
theorem sX8_put_54 : Wp mX8_put d 54 (.ref r :: L) S M N P Q = Wp mX8_put d 55 (.ref r :: L) (.ref r :: S) M N P Q := wp_aload_n rfl dX8_put_54 rfl
theorem sX8_put_55 (hs : shk r = (8, 0)) : Wp mX8_put d 55 L (.ref r :: S) M N P Q = Wp mX8_put d 58 L (.ref (P r 0) :: S) M N P Q := wp_getfield rfl dX8_put_55 rfl rfl hs rfl
theorem sX8_put_58 : Wp mX8_put d 58 (.ref r :: L) S M N P Q = Wp mX8_put d 59 (.ref r :: L) (.ref r :: S) M N P Q := wp_aload_n rfl dX8_put_58 rfl
theorem sX8_put_59 (hs : shk r = (8, 0)) : Wp mX8_put d 59 L (.ref r :: S) M N P Q = Wp mX8_put d 62 L (.int (M r 1) :: S) M N P Q := wp_getfield rfl dX8_put_59 rfl rfl hs rfl
theorem sX8_put_62 : Wp mX8_put d 62 L S M N P Q = Wp mX8_put d 63 L (.int 3 :: S) M N P Q := wp_iconst rfl dX8_put_62 rfl
theorem sX8_put_63 : Wp mX8_put d 63 L (.int z :: .int x :: S) M N P Q = Wp mX8_put d 64 L (.int (x + z) :: S) M N P Q := wp_iadd rfl dX8_put_63
theorem sX8_put_64 : Wp mX8_put d 64 (a0 :: .int x :: L) S M N P Q = Wp mX8_put d 65 (a0 :: .int x :: L) (.int x :: S) M N P Q := wp_iload_n rfl dX8_put_64 rfl
theorem sX8_put_65 : Wp mX8_put d 65 L (.int x :: S) M N P Q = Wp mX8_put d 66 L (.int x.toInt8.toInt32 :: S) M N P Q := wp_i2b rfl dX8_put_65
theorem sX8_put_66 (hs : (shk r).1 = 101) : Wp mX8_put d 66 L (.int x :: .int j :: .ref r :: S) M N P Q = (vp_in j (shk r).2 ∧ Wp mX8_put d 67 L S (up2 M r j.toNatClampNeg x.toInt8.toInt32) N P Q) := wp_bastoreB rfl dX8_put_66 (kd hs)
theorem sX8_put_67 : Wp mX8_put d 67 (.ref r :: L) S M N P Q = Wp mX8_put d 68 (.ref r :: L) (.ref r :: S) M N P Q := wp_aload_n rfl dX8_put_67 rfl
theorem sX8_put_68 (hv : a0.category = 1) : Wp mX8_put d 68 L (a0 :: S) M N P Q = Wp mX8_put d 69 L (a0 :: a0 :: S) M N P Q := wp_dup rfl dX8_put_68 hv
theorem sX8_put_69 (hs : shk r = (8, 0)) : Wp mX8_put d 69 L (.ref r :: S) M N P Q = Wp mX8_put d 72 L (.int (M r 1) :: S) M N P Q := wp_getfield rfl dX8_put_69 rfl rfl hs rfl
theorem sX8_put_72 : Wp mX8_put d 72 L S M N P Q = Wp mX8_put d 73 L (.int 4 :: S) M N P Q := wp_iconst rfl dX8_put_72 rfl
theorem sX8_put_73 : Wp mX8_put d 73 L (.int z :: .int x :: S) M N P Q = Wp mX8_put d 74 L (.int (x + z) :: S) M N P Q := wp_iadd rfl dX8_put_73
theorem sX8_put_74 (hs : shk r = (8, 0)) : Wp mX8_put d 74 L (.int x :: .ref r :: S) M N P Q = Wp mX8_put d 77 L S (up2 M r 1 x) N P Q := wp_putI rfl dX8_put_74 rfl rfl hs rfl ⟨_, _, _, _, rfl, by decide, rfl, tyX8_ok 1 (by decide), rfl, rfl⟩
theorem sX8_put_77 : Wp mX8_put d 77 L [] M N P Q = Q none M N P := wp_vret rfl dX8_put_77 rfl
theorem sX8_cut_0 : Wp mX8_cut d 0 (a0 :: .int x :: L) S M N P Q = Wp mX8_cut d 1 (a0 :: .int x :: L) (.int x :: S) M N P Q := wp_iload_n rfl dX8_cut_0 rfl
theorem sX8_cut_1 : Wp mX8_cut d 1 L (.int x :: S) M N P Q = (if x < 0 then Wp mX8_cut d 12 L S M N P Q else Wp mX8_cut d 4 L S M N P Q) := wp_if_lt rfl dX8_cut_1 rfl
theorem sX8_cut_4 : Wp mX8_cut d 4 (a0 :: .int x :: L) S M N P Q = Wp mX8_cut d 5 (a0 :: .int x :: L) (.int x :: S) M N P Q := wp_iload_n rfl dX8_cut_4 rfl
theorem sX8_cut_5 : Wp mX8_cut d 5 (.ref r :: L) S M N P Q = Wp mX8_cut d 6 (.ref r :: L) (.ref r :: S) M N P Q := wp_aload_n rfl dX8_cut_5 rfl
theorem sX8_cut_6 (hs : shk r = (8, 0)) : Wp mX8_cut d 6 L (.ref r :: S) M N P Q = Wp mX8_cut d 9 L (.int (M r 1) :: S) M N P Q := wp_getfield rfl dX8_cut_6 rfl rfl hs rfl
theorem sX8_cut_9 : Wp mX8_cut d 9 L (.int z :: .int x :: S) M N P Q = (if x ≤ z then Wp mX8_cut d 14 L S M N P Q else Wp mX8_cut d 12 L S M N P Q) := wp_icmp_le rfl dX8_cut_9 rfl
theorem sX8_cut_12 : Wp mX8_cut d 12 L S M N P Q = Wp mX8_cut d 13 L (.int 0 :: S) M N P Q := wp_iconst rfl dX8_cut_12 rfl
theorem sX8_cut_13 (hb : bit x) : Wp mX8_cut d 13 L [.int x] M N P Q = Q (some (.int x)) M N P := wp_iret rfl dX8_cut_13 rfl (bit_n hb)
theorem sX8_cut_14 : Wp mX8_cut d 14 (.ref r :: L) S M N P Q = Wp mX8_cut d 15 (.ref r :: L) (.ref r :: S) M N P Q := wp_aload_n rfl dX8_cut_14 rfl
theorem sX8_cut_15 : Wp mX8_cut d 15 (a0 :: .int x :: L) S M N P Q = Wp mX8_cut d 16 (a0 :: .int x :: L) (.int x :: S) M N P Q := wp_iload_n rfl dX8_cut_15 rfl
theorem sX8_cut_16 (hs : shk r = (8, 0)) : Wp mX8_cut d 16 L (.int x :: .ref r :: S) M N P Q = Wp mX8_cut d 19 L S (up2 M r 1 x) N P Q := wp_putI rfl dX8_cut_16 rfl rfl hs rfl ⟨_, _, _, _, rfl, by decide, rfl, tyX8_ok 1 (by decide), rfl, rfl⟩
theorem sX8_cut_19 : Wp mX8_cut d 19 L S M N P Q = Wp mX8_cut d 20 L (.int 1 :: S) M N P Q := wp_iconst rfl dX8_cut_19 rfl
theorem sX8_cut_20 (hb : bit x) : Wp mX8_cut d 20 L [.int x] M N P Q = Q (some (.int x)) M N P := wp_iret rfl dX8_cut_20 rfl (bit_n hb)
theorem sJ6_bitCount_0f7a4_0 : Wp mJ6_bitCount_0f7a4 d 0 (.int x :: L) S M N P Q = Wp mJ6_bitCount_0f7a4 d 1 (.int x :: L) (.int x :: S) M N P Q := wp_iload_n rfl dJ6_bitCount_0f7a4_0 rfl
theorem sJ6_bitCount_0f7a4_1 : Wp mJ6_bitCount_0f7a4 d 1 (.int x :: L) S M N P Q = Wp mJ6_bitCount_0f7a4 d 2 (.int x :: L) (.int x :: S) M N P Q := wp_iload_n rfl dJ6_bitCount_0f7a4_1 rfl
theorem sJ6_bitCount_0f7a4_2 : Wp mJ6_bitCount_0f7a4 d 2 L S M N P Q = Wp mJ6_bitCount_0f7a4 d 3 L (.int 1 :: S) M N P Q := wp_iconst rfl dJ6_bitCount_0f7a4_2 rfl
theorem sJ6_bitCount_0f7a4_3 : Wp mJ6_bitCount_0f7a4 d 3 L (.int z :: .int x :: S) M N P Q = Wp mJ6_bitCount_0f7a4 d 4 L (.int ((x.toUInt32 >>> (z.toUInt32 &&& Int32.toUInt32 31)).toInt32) :: S) M N P Q := wp_iushr rfl dJ6_bitCount_0f7a4_3
theorem sJ6_bitCount_0f7a4_4 : Wp mJ6_bitCount_0f7a4 d 4 L S M N P Q = Wp mJ6_bitCount_0f7a4 d 7 L (.int (1431655765) :: S) M N P Q := wp_ldc_w rfl dJ6_bitCount_0f7a4_4 rfl rfl
theorem sJ6_bitCount_0f7a4_7 : Wp mJ6_bitCount_0f7a4 d 7 L (.int z :: .int x :: S) M N P Q = Wp mJ6_bitCount_0f7a4 d 8 L (.int (x &&& z) :: S) M N P Q := wp_iand rfl dJ6_bitCount_0f7a4_7
theorem sJ6_bitCount_0f7a4_8 : Wp mJ6_bitCount_0f7a4 d 8 L (.int z :: .int x :: S) M N P Q = Wp mJ6_bitCount_0f7a4 d 9 L (.int (x - z) :: S) M N P Q := wp_isub rfl dJ6_bitCount_0f7a4_8
theorem sJ6_bitCount_0f7a4_9 : Wp mJ6_bitCount_0f7a4 d 9 (a0 :: L) (.int x :: S) M N P Q = Wp mJ6_bitCount_0f7a4 d 10 (.int x :: L) S M N P Q := wp_istore_n rfl dJ6_bitCount_0f7a4_9 (lenGt0 ..) rfl rfl
theorem sJ6_bitCount_0f7a4_10 : Wp mJ6_bitCount_0f7a4 d 10 (.int x :: L) S M N P Q = Wp mJ6_bitCount_0f7a4 d 11 (.int x :: L) (.int x :: S) M N P Q := wp_iload_n rfl dJ6_bitCount_0f7a4_10 rfl
theorem sJ6_bitCount_0f7a4_11 : Wp mJ6_bitCount_0f7a4 d 11 L S M N P Q = Wp mJ6_bitCount_0f7a4 d 14 L (.int (858993459) :: S) M N P Q := wp_ldc_w rfl dJ6_bitCount_0f7a4_11 rfl rfl
theorem sJ6_bitCount_0f7a4_14 : Wp mJ6_bitCount_0f7a4 d 14 L (.int z :: .int x :: S) M N P Q = Wp mJ6_bitCount_0f7a4 d 15 L (.int (x &&& z) :: S) M N P Q := wp_iand rfl dJ6_bitCount_0f7a4_14
theorem sJ6_bitCount_0f7a4_15 : Wp mJ6_bitCount_0f7a4 d 15 (.int x :: L) S M N P Q = Wp mJ6_bitCount_0f7a4 d 16 (.int x :: L) (.int x :: S) M N P Q := wp_iload_n rfl dJ6_bitCount_0f7a4_15 rfl
theorem sJ6_bitCount_0f7a4_16 : Wp mJ6_bitCount_0f7a4 d 16 L S M N P Q = Wp mJ6_bitCount_0f7a4 d 17 L (.int 2 :: S) M N P Q := wp_iconst rfl dJ6_bitCount_0f7a4_16 rfl
theorem sJ6_bitCount_0f7a4_17 : Wp mJ6_bitCount_0f7a4 d 17 L (.int z :: .int x :: S) M N P Q = Wp mJ6_bitCount_0f7a4 d 18 L (.int ((x.toUInt32 >>> (z.toUInt32 &&& Int32.toUInt32 31)).toInt32) :: S) M N P Q := wp_iushr rfl dJ6_bitCount_0f7a4_17
theorem sJ6_bitCount_0f7a4_18 : Wp mJ6_bitCount_0f7a4 d 18 L S M N P Q = Wp mJ6_bitCount_0f7a4 d 21 L (.int (858993459) :: S) M N P Q := wp_ldc_w rfl dJ6_bitCount_0f7a4_18 rfl rfl
theorem sJ6_bitCount_0f7a4_21 : Wp mJ6_bitCount_0f7a4 d 21 L (.int z :: .int x :: S) M N P Q = Wp mJ6_bitCount_0f7a4 d 22 L (.int (x &&& z) :: S) M N P Q := wp_iand rfl dJ6_bitCount_0f7a4_21
theorem sJ6_bitCount_0f7a4_22 : Wp mJ6_bitCount_0f7a4 d 22 L (.int z :: .int x :: S) M N P Q = Wp mJ6_bitCount_0f7a4 d 23 L (.int (x + z) :: S) M N P Q := wp_iadd rfl dJ6_bitCount_0f7a4_22
theorem sJ6_bitCount_0f7a4_23 : Wp mJ6_bitCount_0f7a4 d 23 (a0 :: L) (.int x :: S) M N P Q = Wp mJ6_bitCount_0f7a4 d 24 (.int x :: L) S M N P Q := wp_istore_n rfl dJ6_bitCount_0f7a4_23 (lenGt0 ..) rfl rfl
theorem sJ6_bitCount_0f7a4_24 : Wp mJ6_bitCount_0f7a4 d 24 (.int x :: L) S M N P Q = Wp mJ6_bitCount_0f7a4 d 25 (.int x :: L) (.int x :: S) M N P Q := wp_iload_n rfl dJ6_bitCount_0f7a4_24 rfl
theorem sJ6_bitCount_0f7a4_25 : Wp mJ6_bitCount_0f7a4 d 25 (.int x :: L) S M N P Q = Wp mJ6_bitCount_0f7a4 d 26 (.int x :: L) (.int x :: S) M N P Q := wp_iload_n rfl dJ6_bitCount_0f7a4_25 rfl
theorem sJ6_bitCount_0f7a4_26 : Wp mJ6_bitCount_0f7a4 d 26 L S M N P Q = Wp mJ6_bitCount_0f7a4 d 27 L (.int 4 :: S) M N P Q := wp_iconst rfl dJ6_bitCount_0f7a4_26 rfl
theorem sJ6_bitCount_0f7a4_27 : Wp mJ6_bitCount_0f7a4 d 27 L (.int z :: .int x :: S) M N P Q = Wp mJ6_bitCount_0f7a4 d 28 L (.int ((x.toUInt32 >>> (z.toUInt32 &&& Int32.toUInt32 31)).toInt32) :: S) M N P Q := wp_iushr rfl dJ6_bitCount_0f7a4_27
theorem sJ6_bitCount_0f7a4_28 : Wp mJ6_bitCount_0f7a4 d 28 L (.int z :: .int x :: S) M N P Q = Wp mJ6_bitCount_0f7a4 d 29 L (.int (x + z) :: S) M N P Q := wp_iadd rfl dJ6_bitCount_0f7a4_28
theorem sJ6_bitCount_0f7a4_29 : Wp mJ6_bitCount_0f7a4 d 29 L S M N P Q = Wp mJ6_bitCount_0f7a4 d 32 L (.int (252645135) :: S) M N P Q := wp_ldc_w rfl dJ6_bitCount_0f7a4_29 rfl rfl
theorem sJ6_bitCount_0f7a4_32 : Wp mJ6_bitCount_0f7a4 d 32 L (.int z :: .int x :: S) M N P Q = Wp mJ6_bitCount_0f7a4 d 33 L (.int (x &&& z) :: S) M N P Q := wp_iand rfl dJ6_bitCount_0f7a4_32
theorem sJ6_bitCount_0f7a4_33 : Wp mJ6_bitCount_0f7a4 d 33 (a0 :: L) (.int x :: S) M N P Q = Wp mJ6_bitCount_0f7a4 d 34 (.int x :: L) S M N P Q := wp_istore_n rfl dJ6_bitCount_0f7a4_33 (lenGt0 ..) rfl rfl
theorem sJ6_bitCount_0f7a4_34 : Wp mJ6_bitCount_0f7a4 d 34 (.int x :: L) S M N P Q = Wp mJ6_bitCount_0f7a4 d 35 (.int x :: L) (.int x :: S) M N P Q := wp_iload_n rfl dJ6_bitCount_0f7a4_34 rfl
theorem sJ6_bitCount_0f7a4_35 : Wp mJ6_bitCount_0f7a4 d 35 (.int x :: L) S M N P Q = Wp mJ6_bitCount_0f7a4 d 36 (.int x :: L) (.int x :: S) M N P Q := wp_iload_n rfl dJ6_bitCount_0f7a4_35 rfl
theorem sJ6_bitCount_0f7a4_36 : Wp mJ6_bitCount_0f7a4 d 36 L S M N P Q = Wp mJ6_bitCount_0f7a4 d 38 L (.int 8 :: S) M N P Q := wp_bipush rfl dJ6_bitCount_0f7a4_36 rfl
theorem sJ6_bitCount_0f7a4_38 : Wp mJ6_bitCount_0f7a4 d 38 L (.int z :: .int x :: S) M N P Q = Wp mJ6_bitCount_0f7a4 d 39 L (.int ((x.toUInt32 >>> (z.toUInt32 &&& Int32.toUInt32 31)).toInt32) :: S) M N P Q := wp_iushr rfl dJ6_bitCount_0f7a4_38
theorem sJ6_bitCount_0f7a4_39 : Wp mJ6_bitCount_0f7a4 d 39 L (.int z :: .int x :: S) M N P Q = Wp mJ6_bitCount_0f7a4 d 40 L (.int (x + z) :: S) M N P Q := wp_iadd rfl dJ6_bitCount_0f7a4_39
theorem sJ6_bitCount_0f7a4_40 : Wp mJ6_bitCount_0f7a4 d 40 (a0 :: L) (.int x :: S) M N P Q = Wp mJ6_bitCount_0f7a4 d 41 (.int x :: L) S M N P Q := wp_istore_n rfl dJ6_bitCount_0f7a4_40 (lenGt0 ..) rfl rfl
theorem sJ6_bitCount_0f7a4_41 : Wp mJ6_bitCount_0f7a4 d 41 (.int x :: L) S M N P Q = Wp mJ6_bitCount_0f7a4 d 42 (.int x :: L) (.int x :: S) M N P Q := wp_iload_n rfl dJ6_bitCount_0f7a4_41 rfl
theorem sJ6_bitCount_0f7a4_42 : Wp mJ6_bitCount_0f7a4 d 42 (.int x :: L) S M N P Q = Wp mJ6_bitCount_0f7a4 d 43 (.int x :: L) (.int x :: S) M N P Q := wp_iload_n rfl dJ6_bitCount_0f7a4_42 rfl
theorem sJ6_bitCount_0f7a4_43 : Wp mJ6_bitCount_0f7a4 d 43 L S M N P Q = Wp mJ6_bitCount_0f7a4 d 45 L (.int 16 :: S) M N P Q := wp_bipush rfl dJ6_bitCount_0f7a4_43 rfl
theorem sJ6_bitCount_0f7a4_45 : Wp mJ6_bitCount_0f7a4 d 45 L (.int z :: .int x :: S) M N P Q = Wp mJ6_bitCount_0f7a4 d 46 L (.int ((x.toUInt32 >>> (z.toUInt32 &&& Int32.toUInt32 31)).toInt32) :: S) M N P Q := wp_iushr rfl dJ6_bitCount_0f7a4_45
theorem sJ6_bitCount_0f7a4_46 : Wp mJ6_bitCount_0f7a4 d 46 L (.int z :: .int x :: S) M N P Q = Wp mJ6_bitCount_0f7a4 d 47 L (.int (x + z) :: S) M N P Q := wp_iadd rfl dJ6_bitCount_0f7a4_46
theorem sJ6_bitCount_0f7a4_47 : Wp mJ6_bitCount_0f7a4 d 47 (a0 :: L) (.int x :: S) M N P Q = Wp mJ6_bitCount_0f7a4 d 48 (.int x :: L) S M N P Q := wp_istore_n rfl dJ6_bitCount_0f7a4_47 (lenGt0 ..) rfl rfl
theorem sJ6_bitCount_0f7a4_48 : Wp mJ6_bitCount_0f7a4 d 48 (.int x :: L) S M N P Q = Wp mJ6_bitCount_0f7a4 d 49 (.int x :: L) (.int x :: S) M N P Q := wp_iload_n rfl dJ6_bitCount_0f7a4_48 rfl
theorem sJ6_bitCount_0f7a4_49 : Wp mJ6_bitCount_0f7a4 d 49 L S M N P Q = Wp mJ6_bitCount_0f7a4 d 51 L (.int 63 :: S) M N P Q := wp_bipush rfl dJ6_bitCount_0f7a4_49 rfl
theorem sJ6_bitCount_0f7a4_51 : Wp mJ6_bitCount_0f7a4 d 51 L (.int z :: .int x :: S) M N P Q = Wp mJ6_bitCount_0f7a4 d 52 L (.int (x &&& z) :: S) M N P Q := wp_iand rfl dJ6_bitCount_0f7a4_51
theorem sJ6_bitCount_0f7a4_52 : Wp mJ6_bitCount_0f7a4 d 52 L [.int x] M N P Q = Q (some (.int x)) M N P := wp_iret rfl dJ6_bitCount_0f7a4_52 rfl rfl
end SS0
