section K65
variable {d : Nat} {x y z : Int32} {M M' M0 M1 M2 Mb : Mt} {N N' : Nt} {b b' : Bool} {Q : Qt} {C : Nat → Nat} {l m rb bk : Nat} {a : Value} {T : Nat → Int32}
theorem lCopy (hl : l ≤ 600) (hT : ∀ i, i < l → -128 ≤ (T i).toInt ∧ (T i).toInt ≤ 127) (h24 : Mb 50 24 = nI l) (h67 : ∀ i, i < l → Mb 67 i = T i)
    (hq : ∀ M', (∀ o, ¬ o = 68 → M' o = Mb o) → (∀ i, i < l → M' 68 i = T i) → Wp mX12_law d 46 [.ref (50 : Nat), .int (nI l)] [] M' N (pr b) Q) :
    ∀ (r k : Nat) (M : Mt), k + r = l → (∀ o, ¬ o = 68 → M o = Mb o) → (∀ i, i < k → M 68 i = T i) → Wp mX12_law d 20 [.ref (50 : Nat), .int (nI k)] [] M N (pr b) Q
  | 0, k, M, hk, hM, h68 => by
    have e : k = l := by omega
    subst e
    have g24 : M 50 24 = nI k := by rw [hM 50 (by decide)]; exact h24
    rw [sX12_law_20]
    simp only [shk_0, shk_1, shk_2, shk_3, shk_4, shk_5, shk_6, shk_7, shk_8, shk_9, shk_10, shk_11, shk_12, shk_13, shk_14, shk_15, shk_16, shk_17, shk_18, shk_19, shk_20, shk_21, shk_22, shk_23, shk_24, shk_25, shk_26, shk_27, shk_28, shk_29, shk_30, shk_31, shk_32, shk_33, shk_34, shk_35, shk_36, shk_37, shk_38, shk_39, shk_40, shk_41, shk_42, shk_43, shk_44, shk_45, shk_46, shk_47, shk_48, shk_49, shk_50, shk_51, shk_52, shk_53, shk_54, shk_55, shk_56, shk_57, shk_58, shk_59, shk_60, shk_61, shk_62, shk_63, shk_64, shk_65, shk_66, shk_67, shk_68, shk_69, shk_70, shk_71, shk_72, shk_73, shk_74, shk_75, shk_76, shk_77, shk_78, shk_79, shk_80, shk_81, shk_82, shk_83, shk_84, nl_i, nl_r, nl_f, cat_i, cat_r, sk_0, sk_1, sk_2, sk_3, sk_4, tl_some, tl_none, bit0, bit1, bit_b2, b2_eq0, isB_1, isB_2, isA_0, isA_1, pr_0_0, pr_0_1, pr_0_2, pr_0_3, pr_0_4, pr_0_5, pr_0_6, pr_0_7, pr_0_8, pr_0_9, pr_0_10, pr_0_11, pr_1_0, pr_1_1, pr_1_2, pr_2_0, pr_2_1, pr_2_2, pr_2_3, pr_3_0, pr_3_1, pr_4_0, pr_4_1, pr_4_2, pr_4_3, pr_4_4, pr_4_5, pr_4_6, pr_4_7, pr_4_8, pr_5_0, pr_5_1, pr_6_0, pr_6_1, pr_7_0, pr_8_0, pr_8_1, pr_8_2, pr_9_0, pr_9_1, pr_10_0, pr_10_1, pr_10_2, pr_11_0, pr_11_1, pr_11_2, pr_11_3, pr_11_4, pr_12_0, pr_12_1, pr_12_2, pr_12_3, pr_12_4, pr_50_0, pr_50_1, pr_50_2, pr_50_3, pr_50_4, pr_50_5, pr_50_9, pr_50_10, pr_50_11, pr_50_12, pr_50_13, pr_50_14, pr_50_15, pr_50_16, pr_50_17, pr_50_18, pr_50_21, pr_50_22, pr_50_32, pr_50_33, pr_50_34, pr_50_35, pr_50_36, pr_50_37, pr_50_38, pr_50_43, pr_50_46, pr_50_47, pr_50_48, pr_50_50, pr_50_51, pr_50_52, pr_50_53, pr_50_54, up2_at, Nat.reduceEqDiff, ↓reduceIte, if_true, if_false, sX12_law_21, sX12_law_22, sX12_law_25, g24, Int32.le_refl]
    exact hq M hM h68
  | r + 1, k, M, hk, hM, h68 => by
    have g24 : M 50 24 = nI l := by rw [hM 50 (by decide)]; exact h24
    have g67 : M 67 k = T k := by rw [hM 67 (by decide)]; exact h67 k (by omega)
    have c1 : ¬ nI l ≤ nI k := nI_ge (by omega) (by omega)
    have v1 : vp_in (nI k) 620 := vp_in_nI (by omega) (by omega)
    have v2 : vp_in (nI k) 600 := vp_in_nI (by omega) (by omega)
    have l1 := cl_nI (show k < 2 ^ 31 by omega)
    have hb := hT k (by omega)
    have e8 : (T k).toInt8.toInt32 = T k := lg_i2b_small (by omega) (by omega)
    rw [sX12_law_20]
    simp only [shk_0, shk_1, shk_2, shk_3, shk_4, shk_5, shk_6, shk_7, shk_8, shk_9, shk_10, shk_11, shk_12, shk_13, shk_14, shk_15, shk_16, shk_17, shk_18, shk_19, shk_20, shk_21, shk_22, shk_23, shk_24, shk_25, shk_26, shk_27, shk_28, shk_29, shk_30, shk_31, shk_32, shk_33, shk_34, shk_35, shk_36, shk_37, shk_38, shk_39, shk_40, shk_41, shk_42, shk_43, shk_44, shk_45, shk_46, shk_47, shk_48, shk_49, shk_50, shk_51, shk_52, shk_53, shk_54, shk_55, shk_56, shk_57, shk_58, shk_59, shk_60, shk_61, shk_62, shk_63, shk_64, shk_65, shk_66, shk_67, shk_68, shk_69, shk_70, shk_71, shk_72, shk_73, shk_74, shk_75, shk_76, shk_77, shk_78, shk_79, shk_80, shk_81, shk_82, shk_83, shk_84, nl_i, nl_r, nl_f, cat_i, cat_r, sk_0, sk_1, sk_2, sk_3, sk_4, tl_some, tl_none, bit0, bit1, bit_b2, b2_eq0, isB_1, isB_2, isA_0, isA_1, pr_0_0, pr_0_1, pr_0_2, pr_0_3, pr_0_4, pr_0_5, pr_0_6, pr_0_7, pr_0_8, pr_0_9, pr_0_10, pr_0_11, pr_1_0, pr_1_1, pr_1_2, pr_2_0, pr_2_1, pr_2_2, pr_2_3, pr_3_0, pr_3_1, pr_4_0, pr_4_1, pr_4_2, pr_4_3, pr_4_4, pr_4_5, pr_4_6, pr_4_7, pr_4_8, pr_5_0, pr_5_1, pr_6_0, pr_6_1, pr_7_0, pr_8_0, pr_8_1, pr_8_2, pr_9_0, pr_9_1, pr_10_0, pr_10_1, pr_10_2, pr_11_0, pr_11_1, pr_11_2, pr_11_3, pr_11_4, pr_12_0, pr_12_1, pr_12_2, pr_12_3, pr_12_4, pr_50_0, pr_50_1, pr_50_2, pr_50_3, pr_50_4, pr_50_5, pr_50_9, pr_50_10, pr_50_11, pr_50_12, pr_50_13, pr_50_14, pr_50_15, pr_50_16, pr_50_17, pr_50_18, pr_50_21, pr_50_22, pr_50_32, pr_50_33, pr_50_34, pr_50_35, pr_50_36, pr_50_37, pr_50_38, pr_50_43, pr_50_46, pr_50_47, pr_50_48, pr_50_50, pr_50_51, pr_50_52, pr_50_53, pr_50_54, up2_at, Nat.reduceEqDiff, ↓reduceIte, if_true, if_false, sX12_law_21, sX12_law_22, sX12_law_25, sX12_law_28, sX12_law_29, sX12_law_32, sX12_law_33, sX12_law_34, sX12_law_37, sX12_law_38, sX12_law_39, sX12_law_40, sX12_law_43, g24, c1, v1, v2, l1, true_and, g67, e8, nI_1]
    refine lCopy hl hT h24 h67 hq r (k + 1) _ (by omega) (fun o ho => by rw [up2_ne o ho]; exact hM o ho) (fun i hi => ?_)
    by_cases e : i = k
    · subst e; rw [upO]
    · rw [upM e]; exact h68 i (by omega)
def fRl (rb : Nat) (M M' : Mt) : Prop := (∀ o, ¬ o = 50 → ¬ o = 68 → ¬ (69 ≤ o ∧ o ≤ 76) → M' o = M o) ∧ (∀ k, ¬ wrk k → ¬ k = 23 → ¬ k = 24 → ¬ k = 25 → ¬ k = 26 → ¬ k = 40 → M' 50 k = M 50 k) ∧ M' 50 23 = 0 ∧ (∀ i, ¬ i = rb → M' 69 i = M 69 i) ∧ (∀ i, ¬ (16 * rb ≤ i ∧ i < 16 * rb + 16) → M' 70 i = M 70 i ∧ M' 71 i = M 71 i ∧ M' 72 i = M 72 i ∧ M' 73 i = M 73 i) ∧ ∀ i, ¬ (600 * rb ≤ i ∧ i < 600 * rb + 600) → M' 74 i = M 74 i ∧ M' 75 i = M 75 i
set_option maxHeartbeats 16000000 in
theorem k12_law (hC : CO C l) (hl : l ≤ 600) (h23 : M 50 23 = nI l) (h67 : ∀ i, i < l → bOf (C i) (M 67 i)) (h39 : M 50 39 = nI bk) (hbk : bk < 2) (hK : KOk (kK C l) (nvK C l) m) (hm : m ≤ 600)
    (hok : ∀ w M' N', lawP (kK C l) (nvK C l) 16 0 0 [] = .ok w → lawR (1 - bk) w M' → fRl (1 - bk) M M' → M' 50 25 = 0 → M' 50 26 = -1 → Q (some (.int (nI w.length))) (up2 M' 50 39 (nI (1 - bk))) N' (pr b))
    (hno : ∀ e M' N', lawP (kK C l) (nvK C l) 16 0 0 [] = .error e → fRl (1 - bk) M M' → FB C l M' e → Q (some (.int (-1))) M' N' (pr b)) : Wp mX12_law (d + 7) 0 [.ref (50 : Nat), .float 0] [] M N (pr b) Q := by
  have e1 : (1 : Int32) - nI bk = nI (1 - bk) := pk_sub (a := 1) (by omega)
  have v2 : vp_in (nI (1 - bk)) 2 := vp_in_nI (by omega) (by omega)
  have l2 := cl_nI (show 1 - bk < 2 ^ 31 by omega)
  rw [show d + 7 = (d + 6) + 1 by omega]
  simp only [shk_0, shk_1, shk_2, shk_3, shk_4, shk_5, shk_6, shk_7, shk_8, shk_9, shk_10, shk_11, shk_12, shk_13, shk_14, shk_15, shk_16, shk_17, shk_18, shk_19, shk_20, shk_21, shk_22, shk_23, shk_24, shk_25, shk_26, shk_27, shk_28, shk_29, shk_30, shk_31, shk_32, shk_33, shk_34, shk_35, shk_36, shk_37, shk_38, shk_39, shk_40, shk_41, shk_42, shk_43, shk_44, shk_45, shk_46, shk_47, shk_48, shk_49, shk_50, shk_51, shk_52, shk_53, shk_54, shk_55, shk_56, shk_57, shk_58, shk_59, shk_60, shk_61, shk_62, shk_63, shk_64, shk_65, shk_66, shk_67, shk_68, shk_69, shk_70, shk_71, shk_72, shk_73, shk_74, shk_75, shk_76, shk_77, shk_78, shk_79, shk_80, shk_81, shk_82, shk_83, shk_84, nl_i, nl_r, nl_f, cat_i, cat_r, sk_0, sk_1, sk_2, sk_3, sk_4, tl_some, tl_none, bit0, bit1, bit_b2, b2_eq0, isB_1, isB_2, isA_0, isA_1, pr_0_0, pr_0_1, pr_0_2, pr_0_3, pr_0_4, pr_0_5, pr_0_6, pr_0_7, pr_0_8, pr_0_9, pr_0_10, pr_0_11, pr_1_0, pr_1_1, pr_1_2, pr_2_0, pr_2_1, pr_2_2, pr_2_3, pr_3_0, pr_3_1, pr_4_0, pr_4_1, pr_4_2, pr_4_3, pr_4_4, pr_4_5, pr_4_6, pr_4_7, pr_4_8, pr_5_0, pr_5_1, pr_6_0, pr_6_1, pr_7_0, pr_8_0, pr_8_1, pr_8_2, pr_9_0, pr_9_1, pr_10_0, pr_10_1, pr_10_2, pr_11_0, pr_11_1, pr_11_2, pr_11_3, pr_11_4, pr_12_0, pr_12_1, pr_12_2, pr_12_3, pr_12_4, pr_50_0, pr_50_1, pr_50_2, pr_50_3, pr_50_4, pr_50_5, pr_50_9, pr_50_10, pr_50_11, pr_50_12, pr_50_13, pr_50_14, pr_50_15, pr_50_16, pr_50_17, pr_50_18, pr_50_21, pr_50_22, pr_50_32, pr_50_33, pr_50_34, pr_50_35, pr_50_36, pr_50_37, pr_50_38, pr_50_43, pr_50_46, pr_50_47, pr_50_48, pr_50_50, pr_50_51, pr_50_52, pr_50_53, pr_50_54, up2_at, Nat.reduceEqDiff, ↓reduceIte, if_true, if_false, sX12_law_0, sX12_law_1, sX12_law_2, sX12_law_5, sX12_law_6, sX12_law_7, sX12_law_10, sX12_law_11, sX12_law_12, sX12_law_15, sX12_law_18, sX12_law_19, h23]
  have hTb : ∀ i, i < l → -128 ≤ (M 67 i).toInt ∧ (M 67 i).toInt ≤ 127 := fun i hi => by
    obtain ⟨b1, b2'⟩ := h67 i hi
    split at b2' <;> omega
  refine lCopy (Mb := up2 (up2 (up2 M 50 25 0) 50 26 (-1)) 50 24 (nI l)) (T := M 67) hl hTb upS (fun i _ => by rw [up2_ne 67 (by decide), up2_ne 67 (by decide), up2_ne 67 (by decide)]) (fun M1 f1 f68 => ?_) l 0 _ (by omega) (fun _ _ => rfl) (fun i hi => absurd hi (Nat.not_lt_zero i))
  have g39 : M1 50 39 = nI bk := by rw [f1 50 (by decide), upN (by decide), upN (by decide), upN (by decide)]; exact h39
  simp only [shk_0, shk_1, shk_2, shk_3, shk_4, shk_5, shk_6, shk_7, shk_8, shk_9, shk_10, shk_11, shk_12, shk_13, shk_14, shk_15, shk_16, shk_17, shk_18, shk_19, shk_20, shk_21, shk_22, shk_23, shk_24, shk_25, shk_26, shk_27, shk_28, shk_29, shk_30, shk_31, shk_32, shk_33, shk_34, shk_35, shk_36, shk_37, shk_38, shk_39, shk_40, shk_41, shk_42, shk_43, shk_44, shk_45, shk_46, shk_47, shk_48, shk_49, shk_50, shk_51, shk_52, shk_53, shk_54, shk_55, shk_56, shk_57, shk_58, shk_59, shk_60, shk_61, shk_62, shk_63, shk_64, shk_65, shk_66, shk_67, shk_68, shk_69, shk_70, shk_71, shk_72, shk_73, shk_74, shk_75, shk_76, shk_77, shk_78, shk_79, shk_80, shk_81, shk_82, shk_83, shk_84, nl_i, nl_r, nl_f, cat_i, cat_r, sk_0, sk_1, sk_2, sk_3, sk_4, tl_some, tl_none, bit0, bit1, bit_b2, b2_eq0, isB_1, isB_2, isA_0, isA_1, pr_0_0, pr_0_1, pr_0_2, pr_0_3, pr_0_4, pr_0_5, pr_0_6, pr_0_7, pr_0_8, pr_0_9, pr_0_10, pr_0_11, pr_1_0, pr_1_1, pr_1_2, pr_2_0, pr_2_1, pr_2_2, pr_2_3, pr_3_0, pr_3_1, pr_4_0, pr_4_1, pr_4_2, pr_4_3, pr_4_4, pr_4_5, pr_4_6, pr_4_7, pr_4_8, pr_5_0, pr_5_1, pr_6_0, pr_6_1, pr_7_0, pr_8_0, pr_8_1, pr_8_2, pr_9_0, pr_9_1, pr_10_0, pr_10_1, pr_10_2, pr_11_0, pr_11_1, pr_11_2, pr_11_3, pr_11_4, pr_12_0, pr_12_1, pr_12_2, pr_12_3, pr_12_4, pr_50_0, pr_50_1, pr_50_2, pr_50_3, pr_50_4, pr_50_5, pr_50_9, pr_50_10, pr_50_11, pr_50_12, pr_50_13, pr_50_14, pr_50_15, pr_50_16, pr_50_17, pr_50_18, pr_50_21, pr_50_22, pr_50_32, pr_50_33, pr_50_34, pr_50_35, pr_50_36, pr_50_37, pr_50_38, pr_50_43, pr_50_46, pr_50_47, pr_50_48, pr_50_50, pr_50_51, pr_50_52, pr_50_53, pr_50_54, up2_at, Nat.reduceEqDiff, ↓reduceIte, if_true, if_false, sX12_law_46, sX12_law_47, sX12_law_48, sX12_law_51, sX12_law_52, sX12_law_53, sX12_law_56, sX12_law_57, sX12_law_58, sX12_law_59, sX12_law_62, sX12_law_63, sX12_law_66, sX12_law_67, sX12_law_70, sX12_law_71, sX12_law_74, sX12_law_75, sX12_law_76, sX12_law_77, sX12_law_78, sX12_law_81, sX12_law_82, sX12_law_83, sX12_law_86, sX12_law_87, g39, e1, v2, l2, true_and]
  have hM2 : ∃ M2, M2 = up2 (up2 (up2 (up2 (up2 (up2 M1 50 23 0) 50 28 0) 50 40 (nI (1 - bk))) 69 (1 - bk) 0) 50 41 0) 50 42 0 := ⟨_, rfl⟩
  obtain ⟨M2, eM2⟩ := hM2
  rw [← eM2]
  have o2 : ∀ o, ¬ o = 50 → ¬ o = 69 → M2 o = M1 o := fun o k1 k2 => by rw [eM2, up2_ne o k1, up2_ne o k1, up2_ne o k2, up2_ne o k1, up2_ne o k1, up2_ne o k1]
  have p2 : ∀ k, ¬ k = 23 → ¬ k = 28 → ¬ k = 40 → ¬ k = 41 → ¬ k = 42 → M2 50 k = M1 50 k := fun k k1 k2 k3 k4 k5 => by rw [eM2, upN k5, upN k4, up2_ne 50 (by decide), upN k3, upN k2, upN k1]
  have q23 : M2 50 23 = 0 := by rw [eM2, upN (by decide), upN (by decide), up2_ne 50 (by decide), upN (by decide), upN (by decide), upS]
  have q28 : M2 50 28 = nI 0 := by rw [eM2, upN (by decide), upN (by decide), up2_ne 50 (by decide), upN (by decide), upS]; rfl
  have q40 : M2 50 40 = nI (1 - bk) := by rw [eM2, upN (by decide), upN (by decide), up2_ne 50 (by decide), upS]
  have q41 : M2 50 41 = nI 0 := by rw [eM2, upN (by decide), upS]; rfl
  have q42 : M2 50 42 = nI 0 := by rw [eM2, upS]; rfl
  have q69 : M2 69 (1 - bk) = nI 0 := by rw [eM2, up2_ne 69 (by decide), up2_ne 69 (by decide), upO]; rfl
  have q69' : ∀ i, ¬ i = 1 - bk → M2 69 i = M 69 i := fun i hi => by rw [eM2, up2_ne 69 (by decide), up2_ne 69 (by decide), upM hi, up2_ne 69 (by decide), up2_ne 69 (by decide), up2_ne 69 (by decide), f1 69 (by decide), up2_ne 69 (by decide), up2_ne 69 (by decide), up2_ne 69 (by decide)]
  have m1 : ∀ o, ¬ o = 50 → ¬ o = 68 → ¬ o = 69 → M2 o = M o := fun o k1 k2 k3 => by rw [o2 o k1 k3, f1 o k2, up2_ne o k1, up2_ne o k1, up2_ne o k1]
  have m50 : ∀ k, ¬ k = 23 → ¬ k = 24 → ¬ k = 25 → ¬ k = 26 → ¬ k = 28 → ¬ k = 40 → ¬ k = 41 → ¬ k = 42 → M2 50 k = M 50 k := fun k k1 k2 k3 k4 k5 k6 k7 k8 => by rw [p2 k k1 k5 k6 k7 k8, f1 50 (by decide), upN k2, upN k4, upN k3]
  have q25 : M2 50 25 = 0 := by rw [p2 25 (by decide) (by decide) (by decide) (by decide) (by decide), f1 50 (by decide), upN (by decide), upN (by decide), upS]
  have q26 : M2 50 26 = -1 := by rw [p2 26 (by decide) (by decide) (by decide) (by decide) (by decide), f1 50 (by decide), upN (by decide), upS]
  have q24 : M2 50 24 = nI l := by rw [p2 24 (by decide) (by decide) (by decide) (by decide) (by decide), f1 50 (by decide), upS]
  have hX2 : RX C l M2 := ⟨q24, fun i hi => by rw [o2 68 (by decide) (by decide), f68 i hi]; exact h67 i hi⟩
  clear eM2
  refine wX12_next hX2 hC hl (Nat.zero_le _) q28 (fun M3 N3 g t => ?_)
  rw [tl_none]
  have hB3 : RB C l (1 - bk) M3 := ⟨g.rx hX2, by rw [g.2 25 (by decide) (by decide) (by decide) (by decide)]; exact q25, by rw [g.2 40 (by decide) (by decide) (by decide) (by decide)]; exact q40, by omega, hC, hl⟩
  obtain ⟨σ, dp, h3⟩ := RG.of (rb := 1 - bk) (j := 0) (cz := 0) (tc := 0) t (by rw [g.2 41 (by decide) (by decide) (by decide) (by decide)]; exact q41) (by rw [g.2 42 (by decide) (by decide) (by decide) (by decide)]; exact q42)
  have hW3 : LW (1 - bk) M2 M3 := ⟨fun o k1 _ => g.1 o k1, fun k hk _ _ => by have := wrk_nx hk; exact g.2 k this.1 this.2.1 this.2.2.1 this.2.2.2.1, fun i _ => by rw [g.1 69 (by decide)], fun i _ => by rw [g.1 70 (by decide), g.1 71 (by decide), g.1 72 (by decide), g.1 73 (by decide)]; exact ⟨rfl, rfl, rfl, rfl⟩, fun i _ => by rw [g.1 74 (by decide), g.1 75 (by decide)]; exact ⟨rfl, rfl⟩⟩
  have fin : ∀ M4, LW (1 - bk) M2 M4 → fRl (1 - bk) M M4 := fun M4 w => by
    obtain ⟨w1, w2, w3, w4, w5⟩ := w
    refine ⟨fun o k1 k2 k3 => by rw [w1 o k1 k3]; exact m1 o k1 k2 (by omega), fun k hk k1 k2 k3 k4 k5 => ?_, ?_, fun i hi => by rw [w3 i hi]; exact q69' i hi, fun i hi => ?_, fun i hi => ?_⟩
    · have := wrk_nx hk
      rw [w2 k hk k3 k4]; exact m50 k k1 k2 k3 k4 this.2.1 k5 this.2.2.2.2.1 this.2.2.2.2.2.1
    · rw [w2 23 (by unfold wrk; omega) (by decide) (by decide)]; exact q23
    · have := w4 i hi
      rw [this.1, this.2.1, this.2.2.1, this.2.2.2, m1 70 (by decide) (by decide) (by decide), m1 71 (by decide) (by decide) (by decide), m1 72 (by decide) (by decide) (by decide), m1 73 (by decide) (by decide) (by decide)]
      exact ⟨rfl, rfl, rfl, rfl⟩
    · have := w5 i hi
      rw [this.1, this.2, m1 74 (by decide) (by decide) (by decide), m1 75 (by decide) (by decide) (by decide)]
      exact ⟨rfl, rfl⟩
  refine lRLaw (d := d) (M0 := M2) hK hm (fun w M4 N4 e hR hW c25 c26 => hok w M4 N4 e hR (fin M4 hW) c25 c26) (fun e' M4 N4 e hW hF => hno e' M4 N4 e (fin M4 hW) hF) 16 0 0 [] M3 N3 σ dp rfl rfl hB3 h3 (Nat.zero_le _) (Nat.zero_le _) (Nat.le_refl _) hW3 ?_ ⟨?_, fun i hi => absurd hi (Nat.not_lt_zero i), fun i hi => absurd hi (Nat.not_lt_zero i)⟩
  · rw [g.2 26 (by decide) (by decide) (by decide) (by decide)]; exact q26
  · rw [g.1 69 (by decide)]; exact q69
theorem relLaw (hR : Rel b M) (kM : ∀ o, (o ≤ 6 ∨ o = 10 ∨ (13 ≤ o ∧ o ≤ 32) ∨ (37 ≤ o ∧ o ≤ 39) ∨ (51 ≤ o ∧ o ≤ 64) ∨ o = 79 ∨ o = 83) → M' o = M o) (k50 : ∀ k, k = 6 ∨ k = 7 ∨ k = 8 ∨ k = 19 ∨ k = 49 ∨ k = 55 → M' 50 k = M 50 k) (hta : Rta 0 M') (hfa : Rfa M') (hlaw : Rlaw b' M') : Rel b' M' := by
  obtain ⟨n, h, t, k, c, l, w, hpe, hho, hle, htd, hpa, hcl, -, -, hwa, hsw, -⟩ := hR
  refine ⟨n, h, t, k, c, 0, w, ?_, ?_, ?_, ?_, ?_, ?_, hta, hfa, ?_, ?_, hlaw⟩
  · simpa only [Rpe, kM 1 (by omega), k50 6 (by omega), kM 51 (by omega), kM 52 (by omega), kM 53 (by omega), kM 14 (by omega), kM 15 (by omega), kM 16 (by omega)] using hpe
  · simpa only [Rho, kM 3 (by omega), k50 7 (by omega), kM 10 (by omega), kM 54 (by omega), kM 55 (by omega), kM 20 (by omega), kM 21 (by omega)] using hho
  · simpa only [Rle, kM 56 (by omega), kM 13 (by omega)] using hle
  · simpa only [Rtd, kM 0 (by omega), k50 8 (by omega)] using htd
  · simpa only [Rpa, Rp1, Rby, kM 4 (by omega), k50 19 (by omega), kM 57 (by omega), kM 58 (by omega), kM 59 (by omega), kM 60 (by omega), kM 61 (by omega), kM 62 (by omega), kM 63 (by omega), kM 64 (by omega), kM 22 (by omega), kM 23 (by omega), kM 24 (by omega), kM 25 (by omega), kM 26 (by omega), kM 27 (by omega), kM 28 (by omega), kM 29 (by omega), kM 30 (by omega)] using hpa
  · simpa only [Rcl, kM 6 (by omega), k50 49 (by omega), kM 79 (by omega), kM 31 (by omega)] using hcl
  · simpa only [Rwa, kM 10 (by omega), k50 55 (by omega), kM 83 (by omega), kM 37 (by omega)] using hwa
  · exact hsw.ext (by rw [kM 10 (by omega)]) (kM 37 (by omega)) (kM 38 (by omega)) (kM 39 (by omega))
end K65
section K66
variable {d : Nat} {M : Mt} {N : Nt} {b : Bool}
theorem bOf_ex {x : Int32} (h1 : -128 ≤ x.toInt) (h2 : x.toInt ≤ 127) : bOf ((x.toInt % 256).toNat) x := by
  unfold bOf
  refine ⟨by omega, ?_⟩
  split <;> omega
theorem DL_ex : ∃ dl st le ru pe, DL b dl st le ru pe := by
  cases b
  · exact ⟨12, 45, 46, 47, 48, Or.inr ⟨rfl, rfl, rfl, rfl, rfl, rfl⟩⟩
  · exact ⟨11, 40, 41, 42, 43, Or.inl ⟨rfl, rfl, rfl, rfl, rfl, rfl⟩⟩
set_option maxHeartbeats 16000000 in
theorem pub_law (hR : Rel b M) : Both d mX11_law mX12_law [] b M N := by
  obtain ⟨n, h, t, k, c, l, w, hpe, hho, hle, htd, hpa, hcl, ⟨l1, l2, l3, l4⟩, hfa, hwa, hsw, law, bk, hlo, hbk, h39, hCl, hRl⟩ := id hR
  obtain ⟨dl, st, le, ru, pe, hD⟩ := DL_ex (b := b)
  have hex : ∃ C : Nat → Nat, CO C l ∧ ∀ i, i < l → bOf (C i) (M 33 i) := by
    refine ⟨fun i => if i < l then ((M 33 i).toInt % 256).toNat else 0, ⟨fun i => ?_, fun i hi => if_neg (by omega)⟩, fun i hi => ?_⟩
    · show (if i < l then ((M 33 i).toInt % 256).toNat else 0) < 256
      split <;> omega
    · show bOf (if i < l then ((M 33 i).toInt % 256).toNat else 0) (M 33 i)
      rw [if_pos hi]
      exact bOf_ex (l4 i hi).2.1 (l4 i hi).2.2
  obtain ⟨C, hC, hT⟩ := hex
  have dls : (∀ o, (o ≤ 6 ∨ o = 10 ∨ (13 ≤ o ∧ o ≤ 32) ∨ (37 ≤ o ∧ o ≤ 39) ∨ 50 ≤ o) → ¬ o = 7 ∧ ¬ o = 8 ∧ ¬ o = 34 ∧ ¬ o = 35 ∧ ¬ o = 36 ∧ ¬ o = 9 ∧ ¬ o = dl ∧ ¬ o = st ∧ ¬ o = le ∧ ¬ o = ru ∧ ¬ o = pe) := fun o ho => by
    rcases hD with ⟨-, rfl, rfl, rfl, rfl, rfl⟩ | ⟨-, rfl, rfl, rfl, rfl, rfl⟩ <;> omega
  show Wp mX11_law (d + 60) 0 [.ref (0 : Nat), .float 0] [] M N (pr b) (fun v M1 N1 P1 => Wp mX12_law (d + 60) 0 [.ref (50 : Nat), .float 0] [] M1 N1 P1 _)
  have cf : ∀ M1, fCl dl st le ru pe M M1 → ∀ o, (o ≤ 6 ∨ o = 10 ∨ (13 ≤ o ∧ o ≤ 32) ∨ (37 ≤ o ∧ o ≤ 39) ∨ 50 ≤ o) → M1 o = M o := fun M1 f o ho => by
    obtain ⟨a1, a2, a3, a4, a5, a6, a7, a8, a9, a10, a11⟩ := dls o ho
    exact f o a1 a2 a3 a4 a5 a6 a7 a8 a9 a10 a11
  refine k11_law (d := d + 30) hC hT l1 l2 hD (fun M1 m w' hK hm e f c7 c92 c93 hCw => ?_) (fun M1 m e' hK hm e f c7 c92 c93 => ?_)
  · have g := cf M1 f
    have g50 := g 50 (by omega)
    refine k12_law (d := d + 53) (m := m) hC l1 (by rw [g50]; exact l3) (fun i hi => by rw [g 67 (by omega), (l4 i hi).1]; exact hT i hi) (by rw [g50]; exact h39) hbk hK hm (fun w2 M2 N2 e2 hR2 f2 c25 c26 => ?_) (fun e3 M2 N2 e2 => by rw [e] at e2; cases e2)
    have ew : w2 = w' := by rw [e] at e2; injection e2 with e2; exact e2.symm
    subst ew
    refine ⟨rfl, !b, rfl, ?_⟩
    obtain ⟨z1, z2, z3, z4, z5, z6⟩ := f2
    have kz : ∀ o, ¬ o = 50 → ¬ o = 68 → ¬ (69 ≤ o ∧ o ≤ 76) → up2 M2 50 39 (nI (1 - bk)) o = M1 o := fun o k1 k2 k3 => by rw [up2_ne o k1]; exact z1 o k1 k2 k3
    refine relLaw hR (fun o ho => by rw [kz o (by omega) (by omega) (by omega)]; exact g o (by omega)) (fun k hk => by rw [upN (by omega), z2 k (by unfold wrk; omega) (by omega) (by omega) (by omega) (by omega) (by omega), g50]) ⟨Nat.zero_le _, ?_, ?_, fun i hi => absurd hi (Nat.not_lt_zero i)⟩ ⟨?_, ?_⟩ ⟨w2, 1 - bk, lawP_ok hK hm 16 0 0 [] (Nat.zero_le _) (Nat.le_refl _) (fun q hq => absurd hq (List.not_mem_nil)) rfl e, by omega, upS, ?_, ?_⟩
    · rw [kz 7 (by decide) (by decide) (by decide)]; exact c7
    · rw [upN (by decide)]; exact z3
    · rw [upN (by decide), kz 9 (by decide) (by decide) (by decide), c92]; exact c25
    · rw [upN (by decide), kz 9 (by decide) (by decide) (by decide), c93]; exact c26
    · rcases hD with ⟨rfl, rfl, rfl, rfl, rfl, rfl⟩ | ⟨rfl, rfl, rfl, rfl, rfl, rfl⟩
      · show lawC 11 40 41 42 43 w2 _
        simpa only [lawC, kz 11 (by decide) (by decide) (by decide), kz 40 (by decide) (by decide) (by decide), kz 41 (by decide) (by decide) (by decide), kz 42 (by decide) (by decide) (by decide), kz 43 (by decide) (by decide) (by decide)] using hCw
      · show lawC 12 45 46 47 48 w2 _
        simpa only [lawC, kz 12 (by decide) (by decide) (by decide), kz 45 (by decide) (by decide) (by decide), kz 46 (by decide) (by decide) (by decide), kz 47 (by decide) (by decide) (by decide), kz 48 (by decide) (by decide) (by decide)] using hCw
    · have u : ∀ o, ¬ o = 50 → up2 M2 50 39 (nI (1 - bk)) o = M2 o := fun o ho => up2_ne o ho
      simpa only [lawR, u 69 (by decide), u 70 (by decide), u 71 (by decide), u 72 (by decide), u 73 (by decide), u 74 (by decide), u 75 (by decide)] using hR2
  · have g := cf M1 f
    have g50 := g 50 (by omega)
    refine k12_law (d := d + 53) (m := m) hC l1 (by rw [g50]; exact l3) (fun i hi => by rw [g 67 (by omega), (l4 i hi).1]; exact hT i hi) (by rw [g50]; exact h39) hbk hK hm (fun w2 M2 N2 e2 => by rw [e] at e2; cases e2) (fun e3 M2 N2 e2 f2 hF => ?_)
    have ew : e3 = e' := by rw [e] at e2; injection e2 with e2; exact e2.symm
    subst ew
    refine ⟨rfl, b, rfl, ?_⟩
    obtain ⟨z1, z2, z3, z4, z5, z6⟩ := f2
    have kz : ∀ o, ¬ o = 50 → ¬ o = 68 → ¬ (69 ≤ o ∧ o ≤ 76) → M2 o = M1 o := fun o k1 k2 k3 => z1 o k1 k2 k3
    refine relLaw hR (fun o ho => by rw [kz o (by omega) (by omega) (by omega)]; exact g o (by omega)) (fun k hk => by rw [z2 k (by unfold wrk; omega) (by omega) (by omega) (by omega) (by omega) (by omega), g50]) ⟨Nat.zero_le _, ?_, z3, fun i hi => absurd hi (Nat.not_lt_zero i)⟩ ⟨?_, ?_⟩ ⟨law, bk, hlo, hbk, ?_, ?_, ?_, fun i hi => ?_, fun i hi => ?_⟩
    · rw [kz 7 (by decide) (by decide) (by decide)]; exact c7
    · rw [kz 9 (by decide) (by decide) (by decide), c92]; exact hF.1
    · rw [kz 9 (by decide) (by decide) (by decide), c93]; exact hF.2.1
    · rw [z2 39 (by unfold wrk; omega) (by decide) (by decide) (by decide) (by decide) (by decide), g50]; exact h39
    · rcases hD with ⟨rfl, rfl, rfl, rfl, rfl, rfl⟩ | ⟨rfl, rfl, rfl, rfl, rfl, rfl⟩
      · have u : ∀ o, o = 12 ∨ o = 45 ∨ o = 46 ∨ o = 47 ∨ o = 48 → M2 o = M o := fun o ho => by
          rw [kz o (by omega) (by omega) (by omega)]
          exact f o (by omega) (by omega) (by omega) (by omega) (by omega) (by omega) (by omega) (by omega) (by omega) (by omega) (by omega)
        have hCl' : lawC 12 45 46 47 48 law M := hCl
        show lawC 12 45 46 47 48 law _
        simpa only [lawC, u 12 (by omega), u 45 (by omega), u 46 (by omega), u 47 (by omega), u 48 (by omega)] using hCl'
      · have u : ∀ o, o = 11 ∨ o = 40 ∨ o = 41 ∨ o = 42 ∨ o = 43 → M2 o = M o := fun o ho => by
          rw [kz o (by omega) (by omega) (by omega)]
          exact f o (by omega) (by omega) (by omega) (by omega) (by omega) (by omega) (by omega) (by omega) (by omega) (by omega) (by omega)
        have hCl' : lawC 11 40 41 42 43 law M := hCl
        show lawC 11 40 41 42 43 law _
        simpa only [lawC, u 11 (by omega), u 40 (by omega), u 41 (by omega), u 42 (by omega), u 43 (by omega)] using hCl'
    · rw [z4 bk (by omega), g 69 (by omega)]; exact hRl.1
    · have hlen := hlo.1
      have := z5 (16 * bk + i) (by omega)
      rw [this.1, this.2.1, this.2.2.1, this.2.2.2, g 70 (by omega), g 71 (by omega), g 72 (by omega), g 73 (by omega)]
      exact hRl.2.1 i hi
    · have hlen := hlo.2.1
      have := z6 (600 * bk + i) (by omega)
      rw [this.1, this.2, g 74 (by omega), g 75 (by omega)]
      exact hRl.2.2 i hi
end K66
