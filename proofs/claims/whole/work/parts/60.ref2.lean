section K54
variable {d : Nat} {x y z : Int32} {M M' M0 : Mt} {N N' : Nt} {b : Bool} {Q : Qt} {C : Nat → Nat} {l m rb cz : Nat} {j tc dp : Nat} {ops : List Op1} {σ : List Nat}
theorem TokR.ext {a : Nat} (h : TokR C l a M N) (h1 : M' 50 27 = M 50 27) (h2 : M' 50 28 = M 50 28) (h3 : M' 50 29 = M 50 29) (h4 : M' 50 30 = M 50 30) : TokR C l a M' N := by
  obtain ⟨t1, t2, t3, t4, t5⟩ := h
  exact ⟨h1.trans t1, h2.trans t2, h3.trans t3, t4, fun q => h4.trans (t5 q)⟩
theorem chrOf_lt (k : Nat) : chrOf k < 128 := by unfold chrOf; split <;> omega
/-- one step more -/
theorem rStep {k v : Nat} (hB : RB C l rb M0) (h : RG C l rb cz M0 M N j tc ops σ dp) (hs : cz + ops.length < 600) (hx : x = nI (chrOf k)) (hy : y = nI v) (hq : ∀ M', RG C l rb cz M0 M' N j tc (ops ++ [(k, v)]) σ dp → Q none M' N (pr b)) : Wp mX12_step d 0 [.ref (50 : Nat), .int x, .int y] [] M N (pr b) Q := by
  subst hx hy
  have g40 : M 50 40 = nI rb := by rw [h.2.1 40 (by unfold wrk; omega)]; exact hB.2.2.1
  have hrb := hB.2.2.2.1
  obtain ⟨f, f2, f3, f4, f5, f6, f7, f8, f9, f10⟩ := h
  have e1 : (600 : Int32) * nI rb + nI (cz + ops.length) = nI (600 * rb + (cz + ops.length)) := by rw [show (600 : Int32) * nI rb = nI (600 * rb) from pk_mul 600 rb, nI_add]
  have v1 : vp_in (nI (600 * rb + (cz + ops.length))) 1200 := vp_in_nI (by omega) (by omega)
  have l1 := cl_nI (show 600 * rb + (cz + ops.length) < 2 ^ 31 by omega)
  simp only [shk_0, shk_1, shk_2, shk_3, shk_4, shk_5, shk_6, shk_7, shk_8, shk_9, shk_10, shk_11, shk_12, shk_13, shk_14, shk_15, shk_16, shk_17, shk_18, shk_19, shk_20, shk_21, shk_22, shk_23, shk_24, shk_25, shk_26, shk_27, shk_28, shk_29, shk_30, shk_31, shk_32, shk_33, shk_34, shk_35, shk_36, shk_37, shk_38, shk_39, shk_40, shk_41, shk_42, shk_43, shk_44, shk_45, shk_46, shk_47, shk_48, shk_49, shk_50, shk_51, shk_52, shk_53, shk_54, shk_55, shk_56, shk_57, shk_58, shk_59, shk_60, shk_61, shk_62, shk_63, shk_64, shk_65, shk_66, shk_67, shk_68, shk_69, shk_70, shk_71, shk_72, shk_73, shk_74, shk_75, shk_76, shk_77, shk_78, shk_79, shk_80, shk_81, shk_82, shk_83, shk_84, nl_i, nl_r, nl_f, cat_i, cat_r, sk_0, sk_1, sk_2, sk_3, sk_4, tl_some, tl_none, bit0, bit1, bit_b2, b2_eq0, isB_1, isB_2, isA_0, isA_1, pr_0_0, pr_0_1, pr_0_2, pr_0_3, pr_0_4, pr_0_5, pr_0_6, pr_0_7, pr_0_8, pr_0_9, pr_0_10, pr_0_11, pr_1_0, pr_1_1, pr_1_2, pr_2_0, pr_2_1, pr_2_2, pr_2_3, pr_3_0, pr_3_1, pr_4_0, pr_4_1, pr_4_2, pr_4_3, pr_4_4, pr_4_5, pr_4_6, pr_4_7, pr_4_8, pr_5_0, pr_5_1, pr_6_0, pr_6_1, pr_7_0, pr_8_0, pr_8_1, pr_8_2, pr_9_0, pr_9_1, pr_10_0, pr_10_1, pr_10_2, pr_11_0, pr_11_1, pr_11_2, pr_11_3, pr_11_4, pr_12_0, pr_12_1, pr_12_2, pr_12_3, pr_12_4, pr_50_0, pr_50_1, pr_50_2, pr_50_3, pr_50_4, pr_50_5, pr_50_9, pr_50_10, pr_50_11, pr_50_12, pr_50_13, pr_50_14, pr_50_15, pr_50_16, pr_50_17, pr_50_18, pr_50_21, pr_50_22, pr_50_32, pr_50_33, pr_50_34, pr_50_35, pr_50_36, pr_50_37, pr_50_38, pr_50_43, pr_50_46, pr_50_47, pr_50_48, pr_50_50, pr_50_51, pr_50_52, pr_50_53, pr_50_54, up2_at, Nat.reduceEqDiff, ↓reduceIte, if_true, if_false, sX12_step_0, sX12_step_1, sX12_step_4, sX12_step_7, sX12_step_8, sX12_step_11, sX12_step_12, sX12_step_13, sX12_step_16, sX12_step_17, sX12_step_18, sX12_step_19, sX12_step_20, sX12_step_23, sX12_step_26, sX12_step_27, sX12_step_30, sX12_step_31, sX12_step_32, sX12_step_35, sX12_step_36, sX12_step_37, sX12_step_38, sX12_step_39, sX12_step_40, sX12_step_43, sX12_step_44, sX12_step_45, sX12_step_48, g40, f4, e1, v1, l1, true_and, nI_1]
  refine hq _ ⟨fun o k1 k2 k3 k4 => ?_, fun k hk => ?_, ?_, ?_, ?_, ?_, ?_, fun i hi => ⟨?_, ?_⟩, fun i hi => ⟨?_, ?_⟩, fun i hi => ?_⟩
  · rw [up2_ne o k1, up2_ne o k3, up2_ne o k2]; exact f o k1 k2 k3 k4
  · have := wrk_nx hk
    rw [upN this.2.2.2.2.1, up2_ne 50 (by decide), up2_ne 50 (by decide)]; exact f2 k hk
  · refine f3.ext ?_ ?_ ?_ ?_ <;> rw [upN (by decide), up2_ne 50 (by decide), up2_ne 50 (by decide)]
  · rw [upS, List.length_append, List.length_singleton]; rfl
  · rw [upN (by decide), up2_ne 50 (by decide), up2_ne 50 (by decide)]; exact f5
  · rw [upN (by decide), up2_ne 50 (by decide), up2_ne 50 (by decide)]; exact f6
  · rw [upN (by decide), up2_ne 50 (by decide), up2_ne 50 (by decide)]; exact f7
  · rw [up2_ne 74 (by decide), up2_ne 74 (by decide), upM (by omega)]; exact (f8 i hi).1
  · rw [up2_ne 75 (by decide), upM (by omega), up2_ne 75 (by decide)]; exact (f8 i hi).2
  · rw [List.length_append, List.length_singleton] at hi
    rw [up2_ne 74 (by decide), up2_ne 74 (by decide)]
    by_cases e : i = ops.length
    · subst e; rw [upO, getD_app2]
    · rw [upM (by omega), getD_app1 (by omega)]; exact (f9 i (by omega)).1
  · rw [List.length_append, List.length_singleton] at hi
    rw [up2_ne 75 (by decide)]
    by_cases e : i = ops.length
    · subst e; rw [upO, getD_app2]
    · rw [upM (by omega), getD_app1 (by omega), up2_ne 75 (by decide)]; exact (f9 i (by omega)).2
  · rw [up2_ne 76 (by decide), up2_ne 76 (by decide), up2_ne 76 (by decide)]; exact f10 i hi
theorem rPile {k : Nat} (hB : RB C l rb M0) (h : RG C l rb cz M0 M N j tc ops σ dp) (hs : σ.length < 60) (hx : x = nI k) (hq : ∀ M', RG C l rb cz M0 M' N j tc ops (σ ++ [k]) dp → Q none M' N (pr b)) : Wp mX12_pile d 0 [.ref (50 : Nat), .int x] [] M N (pr b) Q := by
  subst hx
  obtain ⟨f, f2, f3, f4, f5, f6, f7, f8, f9, f10⟩ := h
  have v1 : vp_in (nI σ.length) 60 := vp_in_nI (by omega) (by omega)
  have l1 := cl_nI (show σ.length < 2 ^ 31 by omega)
  simp only [shk_0, shk_1, shk_2, shk_3, shk_4, shk_5, shk_6, shk_7, shk_8, shk_9, shk_10, shk_11, shk_12, shk_13, shk_14, shk_15, shk_16, shk_17, shk_18, shk_19, shk_20, shk_21, shk_22, shk_23, shk_24, shk_25, shk_26, shk_27, shk_28, shk_29, shk_30, shk_31, shk_32, shk_33, shk_34, shk_35, shk_36, shk_37, shk_38, shk_39, shk_40, shk_41, shk_42, shk_43, shk_44, shk_45, shk_46, shk_47, shk_48, shk_49, shk_50, shk_51, shk_52, shk_53, shk_54, shk_55, shk_56, shk_57, shk_58, shk_59, shk_60, shk_61, shk_62, shk_63, shk_64, shk_65, shk_66, shk_67, shk_68, shk_69, shk_70, shk_71, shk_72, shk_73, shk_74, shk_75, shk_76, shk_77, shk_78, shk_79, shk_80, shk_81, shk_82, shk_83, shk_84, nl_i, nl_r, nl_f, cat_i, cat_r, sk_0, sk_1, sk_2, sk_3, sk_4, tl_some, tl_none, bit0, bit1, bit_b2, b2_eq0, isB_1, isB_2, isA_0, isA_1, pr_0_0, pr_0_1, pr_0_2, pr_0_3, pr_0_4, pr_0_5, pr_0_6, pr_0_7, pr_0_8, pr_0_9, pr_0_10, pr_0_11, pr_1_0, pr_1_1, pr_1_2, pr_2_0, pr_2_1, pr_2_2, pr_2_3, pr_3_0, pr_3_1, pr_4_0, pr_4_1, pr_4_2, pr_4_3, pr_4_4, pr_4_5, pr_4_6, pr_4_7, pr_4_8, pr_5_0, pr_5_1, pr_6_0, pr_6_1, pr_7_0, pr_8_0, pr_8_1, pr_8_2, pr_9_0, pr_9_1, pr_10_0, pr_10_1, pr_10_2, pr_11_0, pr_11_1, pr_11_2, pr_11_3, pr_11_4, pr_12_0, pr_12_1, pr_12_2, pr_12_3, pr_12_4, pr_50_0, pr_50_1, pr_50_2, pr_50_3, pr_50_4, pr_50_5, pr_50_9, pr_50_10, pr_50_11, pr_50_12, pr_50_13, pr_50_14, pr_50_15, pr_50_16, pr_50_17, pr_50_18, pr_50_21, pr_50_22, pr_50_32, pr_50_33, pr_50_34, pr_50_35, pr_50_36, pr_50_37, pr_50_38, pr_50_43, pr_50_46, pr_50_47, pr_50_48, pr_50_50, pr_50_51, pr_50_52, pr_50_53, pr_50_54, up2_at, Nat.reduceEqDiff, ↓reduceIte, if_true, if_false, sX12_pile_0, sX12_pile_1, sX12_pile_4, sX12_pile_5, sX12_pile_8, sX12_pile_9, sX12_pile_10, sX12_pile_11, sX12_pile_12, sX12_pile_15, sX12_pile_16, sX12_pile_17, sX12_pile_20, f6, v1, l1, true_and, nI_1]
  refine hq _ ⟨fun o k1 k2 k3 k4 => ?_, fun k hk => ?_, ?_, ?_, ?_, ?_, ?_, fun i hi => ?_, fun i hi => ?_, fun i hi => ?_⟩
  · rw [up2_ne o k1, up2_ne o k4]; exact f o k1 k2 k3 k4
  · have := wrk_nx hk
    rw [upN this.2.2.2.2.2.2.1, up2_ne 50 (by decide)]; exact f2 k hk
  · refine f3.ext ?_ ?_ ?_ ?_ <;> rw [upN (by decide), up2_ne 50 (by decide)]
  · rw [upN (by decide), up2_ne 50 (by decide)]; exact f4
  · rw [upN (by decide), up2_ne 50 (by decide)]; exact f5
  · rw [upS, List.length_append, List.length_singleton]
  · rw [upN (by decide), up2_ne 50 (by decide)]; exact f7
  · rw [up2_ne 74 (by decide), up2_ne 74 (by decide), up2_ne 75 (by decide), up2_ne 75 (by decide)]; exact f8 i hi
  · rw [up2_ne 74 (by decide), up2_ne 74 (by decide), up2_ne 75 (by decide), up2_ne 75 (by decide)]; exact f9 i hi
  · rw [List.length_append, List.length_singleton] at hi
    rw [up2_ne 76 (by decide)]
    by_cases e : i = σ.length
    · subst e; rw [upO, gDb (Nat.le_refl _), Nat.sub_self]; rfl
    · rw [upM (by omega), gDa (by omega)]; exact f10 i (by omega)
theorem RG.t42 (h : RG C l rb cz M0 M N j tc ops σ dp) : RG C l rb cz M0 (up2 M 50 42 (nI (tc + 1))) N j (tc + 1) ops σ dp := by
  obtain ⟨f, f2, f3, f4, f5, f6, f7, f8, f9, f10⟩ := h
  refine ⟨fun o k1 k2 k3 k4 => ?_, fun k hk => ?_, ?_, ?_, ?_, ?_, ?_, fun i hi => ?_, fun i hi => ?_, fun i hi => ?_⟩
  · rw [up2_ne o k1]; exact f o k1 k2 k3 k4
  · have := wrk_nx hk
    rw [upN this.2.2.2.2.2.1]; exact f2 k hk
  · refine f3.ext ?_ ?_ ?_ ?_ <;> rw [upN (by decide)]
  · rw [upN (by decide)]; exact f4
  · rw [upS]
  · rw [upN (by decide)]; exact f6
  · rw [upN (by decide)]; exact f7
  · rw [up2_ne 74 (by decide), up2_ne 75 (by decide)]; exact f8 i hi
  · rw [up2_ne 74 (by decide), up2_ne 75 (by decide)]; exact f9 i hi
  · rw [up2_ne 76 (by decide)]; exact f10 i hi
theorem RG.t45 {e : Nat} (h : RG C l rb cz M0 M N j tc ops σ dp) : RG C l rb cz M0 (up2 M 50 45 (nI e)) N j tc ops σ e := by
  obtain ⟨f, f2, f3, f4, f5, f6, f7, f8, f9, f10⟩ := h
  refine ⟨fun o k1 k2 k3 k4 => ?_, fun k hk => ?_, ?_, ?_, ?_, ?_, ?_, fun i hi => ?_, fun i hi => ?_, fun i hi => ?_⟩
  · rw [up2_ne o k1]; exact f o k1 k2 k3 k4
  · have := wrk_nx hk
    rw [upN this.2.2.2.2.2.2.2]; exact f2 k hk
  · refine f3.ext ?_ ?_ ?_ ?_ <;> rw [upN (by decide)]
  · rw [upN (by decide)]; exact f4
  · rw [upN (by decide)]; exact f5
  · rw [upN (by decide)]; exact f6
  · rw [upS]
  · rw [up2_ne 74 (by decide), up2_ne 75 (by decide)]; exact f8 i hi
  · rw [up2_ne 74 (by decide), up2_ne 75 (by decide)]; exact f9 i hi
  · rw [up2_ne 76 (by decide)]; exact f10 i hi
/-- the top of the pile is taken away -/
theorem RG.pop {k : Nat} (h : RG C l rb cz M0 M N j tc ops (σ ++ [k]) dp) : RG C l rb cz M0 (up2 M 50 44 (nI σ.length)) N j tc ops σ dp := by
  obtain ⟨f, f2, f3, f4, f5, f6, f7, f8, f9, f10⟩ := h
  refine ⟨fun o k1 k2 k3 k4 => ?_, fun k hk => ?_, ?_, ?_, ?_, ?_, ?_, fun i hi => ?_, fun i hi => ?_, fun i hi => ?_⟩
  · rw [up2_ne o k1]; exact f o k1 k2 k3 k4
  · have := wrk_nx hk
    rw [upN this.2.2.2.2.2.2.1]; exact f2 k hk
  · refine f3.ext ?_ ?_ ?_ ?_ <;> rw [upN (by decide)]
  · rw [upN (by decide)]; exact f4
  · rw [upN (by decide)]; exact f5
  · rw [upS]
  · rw [upN (by decide)]; exact f7
  · rw [up2_ne 74 (by decide), up2_ne 75 (by decide)]; exact f8 i hi
  · rw [up2_ne 74 (by decide), up2_ne 75 (by decide)]; exact f9 i hi
  · rw [up2_ne 76 (by decide)]
    have := f10 i (by rw [List.length_append]; omega)
    rw [gDa hi] at this
    exact this
theorem RG.top {k : Nat} (h : RG C l rb cz M0 M N j tc ops (σ ++ [k]) dp) : M 50 44 = nI (σ.length + 1) ∧ M 76 σ.length = nI k := by
  obtain ⟨f, f2, f3, f4, f5, f6, f7, f8, f9, f10⟩ := h
  refine ⟨by rw [f6, List.length_append, List.length_singleton], ?_⟩
  rw [f10 σ.length (by rw [List.length_append, List.length_singleton]; omega), gDb (Nat.le_refl _), Nat.sub_self]
  rfl
set_option maxHeartbeats 8000000 in
theorem rTermHere (h : RG C l rb cz M0 M N j tc ops σ dp) : Wp mX12_termHere d 0 [.ref (50 : Nat), .float 0] [] M N (pr b) Q = Q (some (.int (if kK C l j < 9 then nI (kK C l j) else -1))) M N (pr b) := by
  have ht := h.tok
  have hk := kK_lt (C := C) (l := l) (j := j)
  have hN := h.2.2.1.2.2.2.1
  by_cases q1 : kK C l j < 19
  · have q' : nI (tcode (kK C l j)) = 2 := (tcode_2 hk).mpr q1
    have cc : ∀ q, q < 18 → (lg_cmp (N 50 31) (lN (cw q)) = 0 ↔ kK C l j = q) := fun q hq => by rw [lg_cmp_eq]; exact hN q1 q hq
    have c0 : (lg_cmp (N 50 31) 112628846519652 = 0) = (kK C l j = 0) := propext (cc 0 (by omega))
    have c1 : (lg_cmp (N 50 31) 444150998382 = 0) = (kK C l j = 1) := propext (cc 1 (by omega))
    have c2 : (lg_cmp (N 50 31) 482955846501 = 0) = (kK C l j = 2) := propext (cc 2 (by omega))
    have c3 : (lg_cmp (N 50 31) 512970880104 = 0) = (kK C l j = 3) := propext (cc 3 (by omega))
    have c4 : (lg_cmp (N 50 31) 2036687218 = 0) = (kK C l j = 4) := propext (cc 4 (by omega))
    have c5 : (lg_cmp (N 50 31) 1751477348 = 0) = (kK C l j = 5) := propext (cc 5 (by omega))
    have c6 : (lg_cmp (N 50 31) 448311223411 = 0) = (kK C l j = 6) := propext (cc 6 (by omega))
    have c7 : (lg_cmp (N 50 31) 465625834867 = 0) = (kK C l j = 7) := propext (cc 7 (by omega))
    have c8 : (lg_cmp (N 50 31) 1684365668 = 0) = (kK C l j = 8) := propext (cc 8 (by omega))
    have n0 : ¬ (0 : Int32) < 0 := by decide
    have n1 : ¬ (1 : Int32) < 0 := by decide
    have n2 : ¬ (2 : Int32) < 0 := by decide
    have n3 : ¬ (3 : Int32) < 0 := by decide
    have n4 : ¬ (4 : Int32) < 0 := by decide
    have nm : (-1 : Int32) < 0 := by decide
    simp only [shk_0, shk_1, shk_2, shk_3, shk_4, shk_5, shk_6, shk_7, shk_8, shk_9, shk_10, shk_11, shk_12, shk_13, shk_14, shk_15, shk_16, shk_17, shk_18, shk_19, shk_20, shk_21, shk_22, shk_23, shk_24, shk_25, shk_26, shk_27, shk_28, shk_29, shk_30, shk_31, shk_32, shk_33, shk_34, shk_35, shk_36, shk_37, shk_38, shk_39, shk_40, shk_41, shk_42, shk_43, shk_44, shk_45, shk_46, shk_47, shk_48, shk_49, shk_50, shk_51, shk_52, shk_53, shk_54, shk_55, shk_56, shk_57, shk_58, shk_59, shk_60, shk_61, shk_62, shk_63, shk_64, shk_65, shk_66, shk_67, shk_68, shk_69, shk_70, shk_71, shk_72, shk_73, shk_74, shk_75, shk_76, shk_77, shk_78, shk_79, shk_80, shk_81, shk_82, shk_83, shk_84, nl_i, nl_r, nl_f, cat_i, cat_r, sk_0, sk_1, sk_2, sk_3, sk_4, tl_some, tl_none, bit0, bit1, bit_b2, b2_eq0, isB_1, isB_2, isA_0, isA_1, pr_0_0, pr_0_1, pr_0_2, pr_0_3, pr_0_4, pr_0_5, pr_0_6, pr_0_7, pr_0_8, pr_0_9, pr_0_10, pr_0_11, pr_1_0, pr_1_1, pr_1_2, pr_2_0, pr_2_1, pr_2_2, pr_2_3, pr_3_0, pr_3_1, pr_4_0, pr_4_1, pr_4_2, pr_4_3, pr_4_4, pr_4_5, pr_4_6, pr_4_7, pr_4_8, pr_5_0, pr_5_1, pr_6_0, pr_6_1, pr_7_0, pr_8_0, pr_8_1, pr_8_2, pr_9_0, pr_9_1, pr_10_0, pr_10_1, pr_10_2, pr_11_0, pr_11_1, pr_11_2, pr_11_3, pr_11_4, pr_12_0, pr_12_1, pr_12_2, pr_12_3, pr_12_4, pr_50_0, pr_50_1, pr_50_2, pr_50_3, pr_50_4, pr_50_5, pr_50_9, pr_50_10, pr_50_11, pr_50_12, pr_50_13, pr_50_14, pr_50_15, pr_50_16, pr_50_17, pr_50_18, pr_50_21, pr_50_22, pr_50_32, pr_50_33, pr_50_34, pr_50_35, pr_50_36, pr_50_37, pr_50_38, pr_50_43, pr_50_46, pr_50_47, pr_50_48, pr_50_50, pr_50_51, pr_50_52, pr_50_53, pr_50_54, up2_at, Nat.reduceEqDiff, ↓reduceIte, if_true, if_false, sX12_termHere_0, sX12_termHere_1, sX12_termHere_4, sX12_termHere_5, sX12_termHere_8, sX12_termHere_9, sX12_termHere_10, sX12_termHere_11, sX12_termHere_14, sX12_termHere_17, sX12_termHere_18, sX12_termHere_21, sX12_termHere_22, sX12_termHere_25, sX12_termHere_26, sX12_termHere_29, sX12_termHere_32, sX12_termHere_33, sX12_termHere_36, sX12_termHere_37, sX12_termHere_40, sX12_termHere_41, sX12_termHere_44, sX12_termHere_47, sX12_termHere_48, sX12_termHere_51, sX12_termHere_52, sX12_termHere_55, sX12_termHere_56, sX12_termHere_59, sX12_termHere_62, sX12_termHere_63, sX12_termHere_66, sX12_termHere_67, sX12_termHere_70, sX12_termHere_71, sX12_termHere_74, sX12_termHere_77, sX12_termHere_78, sX12_termHere_81, sX12_termHere_82, sX12_termHere_85, sX12_termHere_86, sX12_termHere_87, sX12_termHere_88, sX12_termHere_91, sX12_termHere_92, sX12_termHere_95, sX12_termHere_96, sX12_termHere_99, sX12_termHere_102, sX12_termHere_103, sX12_termHere_106, sX12_termHere_107, sX12_termHere_110, sX12_termHere_111, sX12_termHere_114, sX12_termHere_117, sX12_termHere_118, sX12_termHere_121, sX12_termHere_123, sX12_termHere_126, sX12_termHere_127, sX12_termHere_130, sX12_termHere_133, sX12_termHere_134, sX12_termHere_137, sX12_termHere_139, sX12_termHere_142, sX12_termHere_143, sX12_termHere_146, sX12_termHere_149, sX12_termHere_150, sX12_termHere_153, sX12_termHere_155, sX12_termHere_158, sX12_termHere_159, ht, q', c0, c1, c2, c3, c4, c5, c6, c7, c8, n0, n1, n2, n3, n4, nm]
    generalize kK C l j = k at *
    by_cases z : k < 9
    · have zz : k = 0 ∨ k = 1 ∨ k = 2 ∨ k = 3 ∨ k = 4 ∨ k = 5 ∨ k = 6 ∨ k = 7 ∨ k = 8 := by omega
      rcases zz with rfl | rfl | rfl | rfl | rfl | rfl | rfl | rfl | rfl <;> rfl
    · rw [if_neg (show ¬ k = 0 by omega), if_neg (show ¬ k = 1 by omega), if_neg (show ¬ k = 2 by omega), if_neg (show ¬ k = 3 by omega), if_neg (show ¬ k = 4 by omega), if_neg (show ¬ k = 5 by omega), if_neg (show ¬ k = 6 by omega), if_neg (show ¬ k = 7 by omega), if_neg (show ¬ k = 8 by omega), if_neg z]
  · have q' : ¬ nI (tcode (kK C l j)) = 2 := fun e => q1 ((tcode_2 hk).mp e)
    simp only [shk_0, shk_1, shk_2, shk_3, shk_4, shk_5, shk_6, shk_7, shk_8, shk_9, shk_10, shk_11, shk_12, shk_13, shk_14, shk_15, shk_16, shk_17, shk_18, shk_19, shk_20, shk_21, shk_22, shk_23, shk_24, shk_25, shk_26, shk_27, shk_28, shk_29, shk_30, shk_31, shk_32, shk_33, shk_34, shk_35, shk_36, shk_37, shk_38, shk_39, shk_40, shk_41, shk_42, shk_43, shk_44, shk_45, shk_46, shk_47, shk_48, shk_49, shk_50, shk_51, shk_52, shk_53, shk_54, shk_55, shk_56, shk_57, shk_58, shk_59, shk_60, shk_61, shk_62, shk_63, shk_64, shk_65, shk_66, shk_67, shk_68, shk_69, shk_70, shk_71, shk_72, shk_73, shk_74, shk_75, shk_76, shk_77, shk_78, shk_79, shk_80, shk_81, shk_82, shk_83, shk_84, nl_i, nl_r, nl_f, cat_i, cat_r, sk_0, sk_1, sk_2, sk_3, sk_4, tl_some, tl_none, bit0, bit1, bit_b2, b2_eq0, isB_1, isB_2, isA_0, isA_1, pr_0_0, pr_0_1, pr_0_2, pr_0_3, pr_0_4, pr_0_5, pr_0_6, pr_0_7, pr_0_8, pr_0_9, pr_0_10, pr_0_11, pr_1_0, pr_1_1, pr_1_2, pr_2_0, pr_2_1, pr_2_2, pr_2_3, pr_3_0, pr_3_1, pr_4_0, pr_4_1, pr_4_2, pr_4_3, pr_4_4, pr_4_5, pr_4_6, pr_4_7, pr_4_8, pr_5_0, pr_5_1, pr_6_0, pr_6_1, pr_7_0, pr_8_0, pr_8_1, pr_8_2, pr_9_0, pr_9_1, pr_10_0, pr_10_1, pr_10_2, pr_11_0, pr_11_1, pr_11_2, pr_11_3, pr_11_4, pr_12_0, pr_12_1, pr_12_2, pr_12_3, pr_12_4, pr_50_0, pr_50_1, pr_50_2, pr_50_3, pr_50_4, pr_50_5, pr_50_9, pr_50_10, pr_50_11, pr_50_12, pr_50_13, pr_50_14, pr_50_15, pr_50_16, pr_50_17, pr_50_18, pr_50_21, pr_50_22, pr_50_32, pr_50_33, pr_50_34, pr_50_35, pr_50_36, pr_50_37, pr_50_38, pr_50_43, pr_50_46, pr_50_47, pr_50_48, pr_50_50, pr_50_51, pr_50_52, pr_50_53, pr_50_54, up2_at, Nat.reduceEqDiff, ↓reduceIte, if_true, if_false, sX12_termHere_0, sX12_termHere_1, sX12_termHere_4, sX12_termHere_5, sX12_termHere_8, sX12_termHere_9, ht, q']
    rw [if_neg (show ¬ kK C l j < 9 by omega)]
end K54
