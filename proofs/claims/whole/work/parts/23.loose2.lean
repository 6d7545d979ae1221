section K14
variable {d k m : Nat} {x y z u : Int32} {M M' : Mt} {N : Nt} {b : Bool} {Q : Qt} {lp : List Nat}
def PapC (k m : Nat) (lp : List Nat) (M : Mt) : Prop := k ≤ 60 ∧ m ≤ 8 ∧ M 4 9 = nI k ∧ M 3 2 = nI m ∧ lp.length = k ∧ (∀ x ∈ lp, x < k) ∧ (∀ i, i < k → M 30 i = nI (lp.getD i 0)) ∧ (∀ i, i < k → -1 ≤ (M 29 i).toInt) ∧ ∀ i, i < k → ∃ h, h < m ∧ M 22 i = nI h
def PapR (k m : Nat) (lp : List Nat) (M : Mt) : Prop := k ≤ 60 ∧ m ≤ 8 ∧ M 50 19 = nI k ∧ (∀ p, p ∈ lp ↔ p < k) ∧ lp.Pairwise (pOrd (M 60)) ∧ ∀ i, i < k → ∃ h, h < m ∧ M 57 i = nI h
theorem lnR_mem {p : Nat} {H F G : Nat → Int32} (hmem : ∀ p, p ∈ lp ↔ p < k) (hp : p < k) (hc : cntB F G y p = true) : ∃ j, j < (lp.filter (onR H F G (H p) y)).length ∧ (lp.filter (onR H F G (H p) y)).getD j 0 = p := by
  have h : p ∈ lp.filter (onR H F G (H p) y) := by
    rw [List.mem_filter, hmem]
    refine ⟨hp, ?_⟩
    unfold onR
    rw [hc]
    simp
  obtain ⟨j, hj, e⟩ := List.getElem_of_mem h
  refine ⟨j, hj, ?_⟩
  rw [List.getD_eq_getElem?_getD, List.getElem?_eq_getElem hj]
  exact e
set_option maxHeartbeats 4000000 in
theorem wX3_countsOn_no (hk : M 4 9 = nI k) (h60 : k ≤ 60) (hx : ¬ (0 ≤ x.toInt ∧ x.toInt < k)) : Wp mX3_countsOn (d + 1) 0 [.ref (4 : Nat), .int x, .int y] [] M N (pr b) Q = Q (some (.int 0)) M N (pr b) := by
  have e1 := nI_toI (show k < 2 ^ 31 by omega)
  have c1 : ¬ (0 ≤ x ∧ x < nI k) := by rw [toI_le, toI_lt, e1, ti_0]; exact hx
  simp only [shk_0, shk_1, shk_2, shk_3, shk_4, shk_5, shk_6, shk_7, shk_8, shk_9, shk_10, shk_11, shk_12, shk_13, shk_14, shk_15, shk_16, shk_17, shk_18, shk_19, shk_20, shk_21, shk_22, shk_23, shk_24, shk_25, shk_26, shk_27, shk_28, shk_29, shk_30, shk_31, shk_32, shk_33, shk_34, shk_35, shk_36, shk_37, shk_38, shk_39, shk_40, shk_41, shk_42, shk_43, shk_44, shk_45, shk_46, shk_47, shk_48, shk_49, shk_50, shk_51, shk_52, shk_53, shk_54, shk_55, shk_56, shk_57, shk_58, shk_59, shk_60, shk_61, shk_62, shk_63, shk_64, shk_65, shk_66, shk_67, shk_68, shk_69, shk_70, shk_71, shk_72, shk_73, shk_74, shk_75, shk_76, shk_77, shk_78, shk_79, shk_80, shk_81, shk_82, shk_83, shk_84, nl_i, nl_r, nl_f, cat_i, cat_r, sk_0, sk_1, sk_2, sk_3, sk_4, tl_some, tl_none, bit0, bit1, bit_b2, b2_eq0, isB_1, isB_2, isA_0, isA_1, pr_0_0, pr_0_1, pr_0_2, pr_0_3, pr_0_4, pr_0_5, pr_0_6, pr_0_7, pr_0_8, pr_0_9, pr_0_10, pr_0_11, pr_1_0, pr_1_1, pr_1_2, pr_2_0, pr_2_1, pr_2_2, pr_2_3, pr_3_0, pr_3_1, pr_4_0, pr_4_1, pr_4_2, pr_4_3, pr_4_4, pr_4_5, pr_4_6, pr_4_7, pr_4_8, pr_5_0, pr_5_1, pr_6_0, pr_6_1, pr_7_0, pr_8_0, pr_8_1, pr_8_2, pr_9_0, pr_9_1, pr_10_0, pr_10_1, pr_10_2, pr_11_0, pr_11_1, pr_11_2, pr_11_3, pr_11_4, pr_12_0, pr_12_1, pr_12_2, pr_12_3, pr_12_4, pr_50_0, pr_50_1, pr_50_2, pr_50_3, pr_50_4, pr_50_5, pr_50_9, pr_50_10, pr_50_11, pr_50_12, pr_50_13, pr_50_14, pr_50_15, pr_50_16, pr_50_17, pr_50_18, pr_50_21, pr_50_22, pr_50_32, pr_50_33, pr_50_34, pr_50_35, pr_50_36, pr_50_37, pr_50_38, pr_50_43, pr_50_46, pr_50_47, pr_50_48, pr_50_50, pr_50_51, pr_50_52, pr_50_53, pr_50_54, up2_at, Nat.reduceEqDiff, ↓reduceIte, if_true, if_false, sX3_countsOn_0, sX3_countsOn_1, sX3_countsOn_2, sX3_countsOn_5, sX3_countsOn_8, sX3_countsOn_9, sX3_countsOn_12, sX3_countsOn_13, sX3_countsOn_14, sX3_countsOn_15, sX3_countsOn_18, sX3_countsOn_19, sX3_countsOn_22, sX3_countsOn_23, sX3_countsOn_24, sX3_countsOn_25, sX3_countsOn_28, sX3_countsOn_29, sX3_countsOn_32, sX3_countsOn_33, sX3_countsOn_34, sX3_countsOn_35, sX3_countsOn_38, sX3_countsOn_39, sX3_countsOn_42, sX3_countsOn_43, wX3_has, hk, c1, not_false_iff]
set_option maxHeartbeats 8000000 in
theorem k11_loose (hC : PapC k m lp M)
    (hok : ∀ p M', p < k → x = nI p → cntB (M 28) (M 29) y p = true → (∀ o, ¬ o = 5 → M' o = M o) → M5 ((lp.filter (onB (M 22) (M 25) (M 28) (M 29) (M 22 p) 36499 y)).foldl (fstep (M 23) (M 24) (M 25) (nI p)) (M 20 (M 22 p).toNatClampNeg, 0, 0, 0, 0)) M' → Q (some (.int (if M' 5 3 = 0 then 1 else 0))) M' N (pr b))
    (hno : (∀ p, p < k → x = nI p → ¬ cntB (M 28) (M 29) y p = true) → Q (some (.int (-1))) M N (pr b)) : Wp mX11_loose (d + 9) 0 [.ref (0 : Nat), .int x, .int y] [] M N (pr b) Q := by
  obtain ⟨h60, h8, hk, hm, hl, hlt, h30, hG, hH⟩ := hC
  by_cases v : 0 ≤ x.toInt ∧ x.toInt < k
  · obtain ⟨p, hp, e⟩ : ∃ p : Nat, p < k ∧ x = nI p := ⟨x.toInt.toNat, by omega, (nat_of v.1).1⟩
    subst e
    have v1 : vp_in (nI p) 60 := vp_in_nI (by omega) (by omega)
    have l1 := cl_nI (show p < 2 ^ 31 by omega)
    simp only [shk_0, shk_1, shk_2, shk_3, shk_4, shk_5, shk_6, shk_7, shk_8, shk_9, shk_10, shk_11, shk_12, shk_13, shk_14, shk_15, shk_16, shk_17, shk_18, shk_19, shk_20, shk_21, shk_22, shk_23, shk_24, shk_25, shk_26, shk_27, shk_28, shk_29, shk_30, shk_31, shk_32, shk_33, shk_34, shk_35, shk_36, shk_37, shk_38, shk_39, shk_40, shk_41, shk_42, shk_43, shk_44, shk_45, shk_46, shk_47, shk_48, shk_49, shk_50, shk_51, shk_52, shk_53, shk_54, shk_55, shk_56, shk_57, shk_58, shk_59, shk_60, shk_61, shk_62, shk_63, shk_64, shk_65, shk_66, shk_67, shk_68, shk_69, shk_70, shk_71, shk_72, shk_73, shk_74, shk_75, shk_76, shk_77, shk_78, shk_79, shk_80, shk_81, shk_82, shk_83, shk_84, nl_i, nl_r, nl_f, cat_i, cat_r, sk_0, sk_1, sk_2, sk_3, sk_4, tl_some, tl_none, bit0, bit1, bit_b2, b2_eq0, isB_1, isB_2, isA_0, isA_1, pr_0_0, pr_0_1, pr_0_2, pr_0_3, pr_0_4, pr_0_5, pr_0_6, pr_0_7, pr_0_8, pr_0_9, pr_0_10, pr_0_11, pr_1_0, pr_1_1, pr_1_2, pr_2_0, pr_2_1, pr_2_2, pr_2_3, pr_3_0, pr_3_1, pr_4_0, pr_4_1, pr_4_2, pr_4_3, pr_4_4, pr_4_5, pr_4_6, pr_4_7, pr_4_8, pr_5_0, pr_5_1, pr_6_0, pr_6_1, pr_7_0, pr_8_0, pr_8_1, pr_8_2, pr_9_0, pr_9_1, pr_10_0, pr_10_1, pr_10_2, pr_11_0, pr_11_1, pr_11_2, pr_11_3, pr_11_4, pr_12_0, pr_12_1, pr_12_2, pr_12_3, pr_12_4, pr_50_0, pr_50_1, pr_50_2, pr_50_3, pr_50_4, pr_50_5, pr_50_9, pr_50_10, pr_50_11, pr_50_12, pr_50_13, pr_50_14, pr_50_15, pr_50_16, pr_50_17, pr_50_18, pr_50_21, pr_50_22, pr_50_32, pr_50_33, pr_50_34, pr_50_35, pr_50_36, pr_50_37, pr_50_38, pr_50_43, pr_50_46, pr_50_47, pr_50_48, pr_50_50, pr_50_51, pr_50_52, pr_50_53, pr_50_54, up2_at, Nat.reduceEqDiff, ↓reduceIte, if_true, if_false, sX11_loose_0, sX11_loose_1, sX11_loose_4, sX11_loose_5, sX11_loose_6, sX11_loose_9, sX11_loose_12, sX11_loose_13, sX11_loose_14, sX11_loose_15, sX11_loose_18, sX11_loose_19, sX11_loose_22, sX11_loose_25, sX11_loose_26, sX11_loose_27, sX11_loose_29, sX11_loose_30, sX11_loose_31, sX11_loose_34, sX11_loose_35, sX11_loose_38, sX11_loose_41, sX11_loose_44, sX11_loose_45, sX11_loose_48, sX11_loose_49, wX3_countsOn hk h60 hp (hG p hp), v1, l1, true_and]
    by_cases c : cntB (M 28) (M 29) y p = true
    · simp only [c, b2_t, not_true, if_false, show ¬ (1 : Int32) = 0 by decide, shk_0, shk_1, shk_2, shk_3, shk_4, shk_5, shk_6, shk_7, shk_8, shk_9, shk_10, shk_11, shk_12, shk_13, shk_14, shk_15, shk_16, shk_17, shk_18, shk_19, shk_20, shk_21, shk_22, shk_23, shk_24, shk_25, shk_26, shk_27, shk_28, shk_29, shk_30, shk_31, shk_32, shk_33, shk_34, shk_35, shk_36, shk_37, shk_38, shk_39, shk_40, shk_41, shk_42, shk_43, shk_44, shk_45, shk_46, shk_47, shk_48, shk_49, shk_50, shk_51, shk_52, shk_53, shk_54, shk_55, shk_56, shk_57, shk_58, shk_59, shk_60, shk_61, shk_62, shk_63, shk_64, shk_65, shk_66, shk_67, shk_68, shk_69, shk_70, shk_71, shk_72, shk_73, shk_74, shk_75, shk_76, shk_77, shk_78, shk_79, shk_80, shk_81, shk_82, shk_83, shk_84, nl_i, nl_r, nl_f, cat_i, cat_r, sk_0, sk_1, sk_2, sk_3, sk_4, tl_some, tl_none, bit0, bit1, bit_b2, b2_eq0, isB_1, isB_2, isA_0, isA_1, pr_0_0, pr_0_1, pr_0_2, pr_0_3, pr_0_4, pr_0_5, pr_0_6, pr_0_7, pr_0_8, pr_0_9, pr_0_10, pr_0_11, pr_1_0, pr_1_1, pr_1_2, pr_2_0, pr_2_1, pr_2_2, pr_2_3, pr_3_0, pr_3_1, pr_4_0, pr_4_1, pr_4_2, pr_4_3, pr_4_4, pr_4_5, pr_4_6, pr_4_7, pr_4_8, pr_5_0, pr_5_1, pr_6_0, pr_6_1, pr_7_0, pr_8_0, pr_8_1, pr_8_2, pr_9_0, pr_9_1, pr_10_0, pr_10_1, pr_10_2, pr_11_0, pr_11_1, pr_11_2, pr_11_3, pr_11_4, pr_12_0, pr_12_1, pr_12_2, pr_12_3, pr_12_4, pr_50_0, pr_50_1, pr_50_2, pr_50_3, pr_50_4, pr_50_5, pr_50_9, pr_50_10, pr_50_11, pr_50_12, pr_50_13, pr_50_14, pr_50_15, pr_50_16, pr_50_17, pr_50_18, pr_50_21, pr_50_22, pr_50_32, pr_50_33, pr_50_34, pr_50_35, pr_50_36, pr_50_37, pr_50_38, pr_50_43, pr_50_46, pr_50_47, pr_50_48, pr_50_50, pr_50_51, pr_50_52, pr_50_53, pr_50_54, up2_at, Nat.reduceEqDiff, ↓reduceIte, if_true, if_false]
      obtain ⟨h, hh, eh⟩ := hH p hp
      have lh := cl_nI (show h < 2 ^ 31 by omega)
      rw [eh]
      refine k11_follow (d := d + 5) hm h8 hh hk h60 hl hlt h30 hG (fun M' g1 g5 => ?_)
      simp only [shk_0, shk_1, shk_2, shk_3, shk_4, shk_5, shk_6, shk_7, shk_8, shk_9, shk_10, shk_11, shk_12, shk_13, shk_14, shk_15, shk_16, shk_17, shk_18, shk_19, shk_20, shk_21, shk_22, shk_23, shk_24, shk_25, shk_26, shk_27, shk_28, shk_29, shk_30, shk_31, shk_32, shk_33, shk_34, shk_35, shk_36, shk_37, shk_38, shk_39, shk_40, shk_41, shk_42, shk_43, shk_44, shk_45, shk_46, shk_47, shk_48, shk_49, shk_50, shk_51, shk_52, shk_53, shk_54, shk_55, shk_56, shk_57, shk_58, shk_59, shk_60, shk_61, shk_62, shk_63, shk_64, shk_65, shk_66, shk_67, shk_68, shk_69, shk_70, shk_71, shk_72, shk_73, shk_74, shk_75, shk_76, shk_77, shk_78, shk_79, shk_80, shk_81, shk_82, shk_83, shk_84, nl_i, nl_r, nl_f, cat_i, cat_r, sk_0, sk_1, sk_2, sk_3, sk_4, tl_some, tl_none, bit0, bit1, bit_b2, b2_eq0, isB_1, isB_2, isA_0, isA_1, pr_0_0, pr_0_1, pr_0_2, pr_0_3, pr_0_4, pr_0_5, pr_0_6, pr_0_7, pr_0_8, pr_0_9, pr_0_10, pr_0_11, pr_1_0, pr_1_1, pr_1_2, pr_2_0, pr_2_1, pr_2_2, pr_2_3, pr_3_0, pr_3_1, pr_4_0, pr_4_1, pr_4_2, pr_4_3, pr_4_4, pr_4_5, pr_4_6, pr_4_7, pr_4_8, pr_5_0, pr_5_1, pr_6_0, pr_6_1, pr_7_0, pr_8_0, pr_8_1, pr_8_2, pr_9_0, pr_9_1, pr_10_0, pr_10_1, pr_10_2, pr_11_0, pr_11_1, pr_11_2, pr_11_3, pr_11_4, pr_12_0, pr_12_1, pr_12_2, pr_12_3, pr_12_4, pr_50_0, pr_50_1, pr_50_2, pr_50_3, pr_50_4, pr_50_5, pr_50_9, pr_50_10, pr_50_11, pr_50_12, pr_50_13, pr_50_14, pr_50_15, pr_50_16, pr_50_17, pr_50_18, pr_50_21, pr_50_22, pr_50_32, pr_50_33, pr_50_34, pr_50_35, pr_50_36, pr_50_37, pr_50_38, pr_50_43, pr_50_46, pr_50_47, pr_50_48, pr_50_50, pr_50_51, pr_50_52, pr_50_53, pr_50_54, up2_at, Nat.reduceEqDiff, ↓reduceIte, if_true, if_false, sX11_loose_0, sX11_loose_1, sX11_loose_4, sX11_loose_5, sX11_loose_6, sX11_loose_9, sX11_loose_12, sX11_loose_13, sX11_loose_14, sX11_loose_15, sX11_loose_18, sX11_loose_19, sX11_loose_22, sX11_loose_25, sX11_loose_26, sX11_loose_27, sX11_loose_29, sX11_loose_30, sX11_loose_31, sX11_loose_34, sX11_loose_35, sX11_loose_38, sX11_loose_41, sX11_loose_44, sX11_loose_45, sX11_loose_48, sX11_loose_49]
      have := hok p M' hp rfl c g1 (by rw [eh, lh]; exact g5)
      split <;> rename_i q <;> simp only [q, if_true, if_false] at this <;> exact this
    · simp only [c, b2_f, not_false_iff, if_true, if_false, shk_0, shk_1, shk_2, shk_3, shk_4, shk_5, shk_6, shk_7, shk_8, shk_9, shk_10, shk_11, shk_12, shk_13, shk_14, shk_15, shk_16, shk_17, shk_18, shk_19, shk_20, shk_21, shk_22, shk_23, shk_24, shk_25, shk_26, shk_27, shk_28, shk_29, shk_30, shk_31, shk_32, shk_33, shk_34, shk_35, shk_36, shk_37, shk_38, shk_39, shk_40, shk_41, shk_42, shk_43, shk_44, shk_45, shk_46, shk_47, shk_48, shk_49, shk_50, shk_51, shk_52, shk_53, shk_54, shk_55, shk_56, shk_57, shk_58, shk_59, shk_60, shk_61, shk_62, shk_63, shk_64, shk_65, shk_66, shk_67, shk_68, shk_69, shk_70, shk_71, shk_72, shk_73, shk_74, shk_75, shk_76, shk_77, shk_78, shk_79, shk_80, shk_81, shk_82, shk_83, shk_84, nl_i, nl_r, nl_f, cat_i, cat_r, sk_0, sk_1, sk_2, sk_3, sk_4, tl_some, tl_none, bit0, bit1, bit_b2, b2_eq0, isB_1, isB_2, isA_0, isA_1, pr_0_0, pr_0_1, pr_0_2, pr_0_3, pr_0_4, pr_0_5, pr_0_6, pr_0_7, pr_0_8, pr_0_9, pr_0_10, pr_0_11, pr_1_0, pr_1_1, pr_1_2, pr_2_0, pr_2_1, pr_2_2, pr_2_3, pr_3_0, pr_3_1, pr_4_0, pr_4_1, pr_4_2, pr_4_3, pr_4_4, pr_4_5, pr_4_6, pr_4_7, pr_4_8, pr_5_0, pr_5_1, pr_6_0, pr_6_1, pr_7_0, pr_8_0, pr_8_1, pr_8_2, pr_9_0, pr_9_1, pr_10_0, pr_10_1, pr_10_2, pr_11_0, pr_11_1, pr_11_2, pr_11_3, pr_11_4, pr_12_0, pr_12_1, pr_12_2, pr_12_3, pr_12_4, pr_50_0, pr_50_1, pr_50_2, pr_50_3, pr_50_4, pr_50_5, pr_50_9, pr_50_10, pr_50_11, pr_50_12, pr_50_13, pr_50_14, pr_50_15, pr_50_16, pr_50_17, pr_50_18, pr_50_21, pr_50_22, pr_50_32, pr_50_33, pr_50_34, pr_50_35, pr_50_36, pr_50_37, pr_50_38, pr_50_43, pr_50_46, pr_50_47, pr_50_48, pr_50_50, pr_50_51, pr_50_52, pr_50_53, pr_50_54, up2_at, Nat.reduceEqDiff, ↓reduceIte, if_true, if_false]
      refine hno (fun p' hp' e => ?_)
      rw [nI_eq (by omega) (by omega)] at e
      subst e
      exact c
  · simp only [shk_0, shk_1, shk_2, shk_3, shk_4, shk_5, shk_6, shk_7, shk_8, shk_9, shk_10, shk_11, shk_12, shk_13, shk_14, shk_15, shk_16, shk_17, shk_18, shk_19, shk_20, shk_21, shk_22, shk_23, shk_24, shk_25, shk_26, shk_27, shk_28, shk_29, shk_30, shk_31, shk_32, shk_33, shk_34, shk_35, shk_36, shk_37, shk_38, shk_39, shk_40, shk_41, shk_42, shk_43, shk_44, shk_45, shk_46, shk_47, shk_48, shk_49, shk_50, shk_51, shk_52, shk_53, shk_54, shk_55, shk_56, shk_57, shk_58, shk_59, shk_60, shk_61, shk_62, shk_63, shk_64, shk_65, shk_66, shk_67, shk_68, shk_69, shk_70, shk_71, shk_72, shk_73, shk_74, shk_75, shk_76, shk_77, shk_78, shk_79, shk_80, shk_81, shk_82, shk_83, shk_84, nl_i, nl_r, nl_f, cat_i, cat_r, sk_0, sk_1, sk_2, sk_3, sk_4, tl_some, tl_none, bit0, bit1, bit_b2, b2_eq0, isB_1, isB_2, isA_0, isA_1, pr_0_0, pr_0_1, pr_0_2, pr_0_3, pr_0_4, pr_0_5, pr_0_6, pr_0_7, pr_0_8, pr_0_9, pr_0_10, pr_0_11, pr_1_0, pr_1_1, pr_1_2, pr_2_0, pr_2_1, pr_2_2, pr_2_3, pr_3_0, pr_3_1, pr_4_0, pr_4_1, pr_4_2, pr_4_3, pr_4_4, pr_4_5, pr_4_6, pr_4_7, pr_4_8, pr_5_0, pr_5_1, pr_6_0, pr_6_1, pr_7_0, pr_8_0, pr_8_1, pr_8_2, pr_9_0, pr_9_1, pr_10_0, pr_10_1, pr_10_2, pr_11_0, pr_11_1, pr_11_2, pr_11_3, pr_11_4, pr_12_0, pr_12_1, pr_12_2, pr_12_3, pr_12_4, pr_50_0, pr_50_1, pr_50_2, pr_50_3, pr_50_4, pr_50_5, pr_50_9, pr_50_10, pr_50_11, pr_50_12, pr_50_13, pr_50_14, pr_50_15, pr_50_16, pr_50_17, pr_50_18, pr_50_21, pr_50_22, pr_50_32, pr_50_33, pr_50_34, pr_50_35, pr_50_36, pr_50_37, pr_50_38, pr_50_43, pr_50_46, pr_50_47, pr_50_48, pr_50_50, pr_50_51, pr_50_52, pr_50_53, pr_50_54, up2_at, Nat.reduceEqDiff, ↓reduceIte, if_true, if_false, sX11_loose_0, sX11_loose_1, sX11_loose_4, sX11_loose_5, sX11_loose_6, sX11_loose_9, sX11_loose_12, sX11_loose_13, sX11_loose_14, sX11_loose_15, sX11_loose_18, sX11_loose_19, sX11_loose_22, sX11_loose_25, sX11_loose_26, sX11_loose_27, sX11_loose_29, sX11_loose_30, sX11_loose_31, sX11_loose_34, sX11_loose_35, sX11_loose_38, sX11_loose_41, sX11_loose_44, sX11_loose_45, sX11_loose_48, sX11_loose_49, wX3_countsOn_no hk h60 v]
    refine hno (fun p hp e => absurd ?_ v)
    rw [e, nI_toI (by omega)]
    omega
set_option maxHeartbeats 8000000 in
theorem k12_loose (hC : PapR k m lp M)
    (hok : ∀ p j ln M', p < k → x = nI p → cntB (M 63) (M 64) y p = true → ln = lp.filter (onR (M 57) (M 63) (M 64) (M 57 p) y) → j < ln.length → ln.getD j 0 = p → (∀ o, ¬ o = 50 → ¬ o = 65 → ¬ o = 66 → M' o = M o) → (∀ j, ¬ j = 20 → M' 50 j = M 50 j) → Q (some (.int (b2 (¬ M 58 p = hAt (M 58) (M 59) (M 54 (M 57 p).toNatClampNeg) (ln.take j))))) M' N (pr b))
    (hno : (∀ p, p < k → x = nI p → ¬ cntB (M 63) (M 64) y p = true) → Q (some (.int (-1))) M N (pr b)) : Wp mX12_loose (d + 9) 0 [.ref (50 : Nat), .int x, .int y] [] M N (pr b) Q := by
  obtain ⟨h60, h8, hk, hmem, hpw, hH⟩ := hC
  have e1 := nI_toI (show k < 2 ^ 31 by omega)
  by_cases v : 0 ≤ x ∧ x < nI k
  · have v' : 0 ≤ x.toInt ∧ x.toInt < k := by rw [toI_le, toI_lt, e1, ti_0] at v; exact v
    obtain ⟨p, hp, e⟩ : ∃ p : Nat, p < k ∧ x = nI p := ⟨x.toInt.toNat, by omega, (nat_of v'.1).1⟩
    subst e
    have v1 : vp_in (nI p) 60 := vp_in_nI (by omega) (by omega)
    have l1 := cl_nI (show p < 2 ^ 31 by omega)
    simp only [shk_0, shk_1, shk_2, shk_3, shk_4, shk_5, shk_6, shk_7, shk_8, shk_9, shk_10, shk_11, shk_12, shk_13, shk_14, shk_15, shk_16, shk_17, shk_18, shk_19, shk_20, shk_21, shk_22, shk_23, shk_24, shk_25, shk_26, shk_27, shk_28, shk_29, shk_30, shk_31, shk_32, shk_33, shk_34, shk_35, shk_36, shk_37, shk_38, shk_39, shk_40, shk_41, shk_42, shk_43, shk_44, shk_45, shk_46, shk_47, shk_48, shk_49, shk_50, shk_51, shk_52, shk_53, shk_54, shk_55, shk_56, shk_57, shk_58, shk_59, shk_60, shk_61, shk_62, shk_63, shk_64, shk_65, shk_66, shk_67, shk_68, shk_69, shk_70, shk_71, shk_72, shk_73, shk_74, shk_75, shk_76, shk_77, shk_78, shk_79, shk_80, shk_81, shk_82, shk_83, shk_84, nl_i, nl_r, nl_f, cat_i, cat_r, sk_0, sk_1, sk_2, sk_3, sk_4, tl_some, tl_none, bit0, bit1, bit_b2, b2_eq0, isB_1, isB_2, isA_0, isA_1, pr_0_0, pr_0_1, pr_0_2, pr_0_3, pr_0_4, pr_0_5, pr_0_6, pr_0_7, pr_0_8, pr_0_9, pr_0_10, pr_0_11, pr_1_0, pr_1_1, pr_1_2, pr_2_0, pr_2_1, pr_2_2, pr_2_3, pr_3_0, pr_3_1, pr_4_0, pr_4_1, pr_4_2, pr_4_3, pr_4_4, pr_4_5, pr_4_6, pr_4_7, pr_4_8, pr_5_0, pr_5_1, pr_6_0, pr_6_1, pr_7_0, pr_8_0, pr_8_1, pr_8_2, pr_9_0, pr_9_1, pr_10_0, pr_10_1, pr_10_2, pr_11_0, pr_11_1, pr_11_2, pr_11_3, pr_11_4, pr_12_0, pr_12_1, pr_12_2, pr_12_3, pr_12_4, pr_50_0, pr_50_1, pr_50_2, pr_50_3, pr_50_4, pr_50_5, pr_50_9, pr_50_10, pr_50_11, pr_50_12, pr_50_13, pr_50_14, pr_50_15, pr_50_16, pr_50_17, pr_50_18, pr_50_21, pr_50_22, pr_50_32, pr_50_33, pr_50_34, pr_50_35, pr_50_36, pr_50_37, pr_50_38, pr_50_43, pr_50_46, pr_50_47, pr_50_48, pr_50_50, pr_50_51, pr_50_52, pr_50_53, pr_50_54, up2_at, Nat.reduceEqDiff, ↓reduceIte, if_true, if_false, sX12_loose_0, sX12_loose_1, sX12_loose_2, sX12_loose_5, sX12_loose_8, sX12_loose_9, sX12_loose_10, sX12_loose_11, sX12_loose_14, sX12_loose_17, sX12_loose_18, sX12_loose_19, sX12_loose_20, sX12_loose_21, sX12_loose_24, sX12_loose_25, sX12_loose_26, sX12_loose_27, sX12_loose_28, sX12_loose_31, sX12_loose_32, sX12_loose_33, sX12_loose_36, sX12_loose_37, sX12_loose_38, sX12_loose_41, sX12_loose_42, sX12_loose_45, sX12_loose_46, wX12_isPaper, hk, v, wX12_counts (p := p) (show p < 60 by omega), v1, l1, not_true, and_self, true_and]
    by_cases c : cntB (M 63) (M 64) y p = true
    · simp only [c, b2_t, not_true, if_false, show ¬ (1 : Int32) = 0 by decide, shk_0, shk_1, shk_2, shk_3, shk_4, shk_5, shk_6, shk_7, shk_8, shk_9, shk_10, shk_11, shk_12, shk_13, shk_14, shk_15, shk_16, shk_17, shk_18, shk_19, shk_20, shk_21, shk_22, shk_23, shk_24, shk_25, shk_26, shk_27, shk_28, shk_29, shk_30, shk_31, shk_32, shk_33, shk_34, shk_35, shk_36, shk_37, shk_38, shk_39, shk_40, shk_41, shk_42, shk_43, shk_44, shk_45, shk_46, shk_47, shk_48, shk_49, shk_50, shk_51, shk_52, shk_53, shk_54, shk_55, shk_56, shk_57, shk_58, shk_59, shk_60, shk_61, shk_62, shk_63, shk_64, shk_65, shk_66, shk_67, shk_68, shk_69, shk_70, shk_71, shk_72, shk_73, shk_74, shk_75, shk_76, shk_77, shk_78, shk_79, shk_80, shk_81, shk_82, shk_83, shk_84, nl_i, nl_r, nl_f, cat_i, cat_r, sk_0, sk_1, sk_2, sk_3, sk_4, tl_some, tl_none, bit0, bit1, bit_b2, b2_eq0, isB_1, isB_2, isA_0, isA_1, pr_0_0, pr_0_1, pr_0_2, pr_0_3, pr_0_4, pr_0_5, pr_0_6, pr_0_7, pr_0_8, pr_0_9, pr_0_10, pr_0_11, pr_1_0, pr_1_1, pr_1_2, pr_2_0, pr_2_1, pr_2_2, pr_2_3, pr_3_0, pr_3_1, pr_4_0, pr_4_1, pr_4_2, pr_4_3, pr_4_4, pr_4_5, pr_4_6, pr_4_7, pr_4_8, pr_5_0, pr_5_1, pr_6_0, pr_6_1, pr_7_0, pr_8_0, pr_8_1, pr_8_2, pr_9_0, pr_9_1, pr_10_0, pr_10_1, pr_10_2, pr_11_0, pr_11_1, pr_11_2, pr_11_3, pr_11_4, pr_12_0, pr_12_1, pr_12_2, pr_12_3, pr_12_4, pr_50_0, pr_50_1, pr_50_2, pr_50_3, pr_50_4, pr_50_5, pr_50_9, pr_50_10, pr_50_11, pr_50_12, pr_50_13, pr_50_14, pr_50_15, pr_50_16, pr_50_17, pr_50_18, pr_50_21, pr_50_22, pr_50_32, pr_50_33, pr_50_34, pr_50_35, pr_50_36, pr_50_37, pr_50_38, pr_50_43, pr_50_46, pr_50_47, pr_50_48, pr_50_50, pr_50_51, pr_50_52, pr_50_53, pr_50_54, up2_at, Nat.reduceEqDiff, ↓reduceIte, if_true, if_false]
      obtain ⟨h, hh, eh⟩ := hH p hp
      have lh := cl_nI (show h < 2 ^ 31 by omega)
      rw [eh]
      refine k12_follow (d := d + 7) (l := lp) (by omega) hk h60 hmem hpw (fun ln M' eln f1 f50 f20 f65 f66 => ?_)
      obtain ⟨j, hj, ej⟩ := lnR_mem (H := M 57) hmem hp c
      rw [eh, ← eln] at hj ej
      have e66 := f66 j hj
      rw [ej] at e66
      simp only [shk_0, shk_1, shk_2, shk_3, shk_4, shk_5, shk_6, shk_7, shk_8, shk_9, shk_10, shk_11, shk_12, shk_13, shk_14, shk_15, shk_16, shk_17, shk_18, shk_19, shk_20, shk_21, shk_22, shk_23, shk_24, shk_25, shk_26, shk_27, shk_28, shk_29, shk_30, shk_31, shk_32, shk_33, shk_34, shk_35, shk_36, shk_37, shk_38, shk_39, shk_40, shk_41, shk_42, shk_43, shk_44, shk_45, shk_46, shk_47, shk_48, shk_49, shk_50, shk_51, shk_52, shk_53, shk_54, shk_55, shk_56, shk_57, shk_58, shk_59, shk_60, shk_61, shk_62, shk_63, shk_64, shk_65, shk_66, shk_67, shk_68, shk_69, shk_70, shk_71, shk_72, shk_73, shk_74, shk_75, shk_76, shk_77, shk_78, shk_79, shk_80, shk_81, shk_82, shk_83, shk_84, nl_i, nl_r, nl_f, cat_i, cat_r, sk_0, sk_1, sk_2, sk_3, sk_4, tl_some, tl_none, bit0, bit1, bit_b2, b2_eq0, isB_1, isB_2, isA_0, isA_1, pr_0_0, pr_0_1, pr_0_2, pr_0_3, pr_0_4, pr_0_5, pr_0_6, pr_0_7, pr_0_8, pr_0_9, pr_0_10, pr_0_11, pr_1_0, pr_1_1, pr_1_2, pr_2_0, pr_2_1, pr_2_2, pr_2_3, pr_3_0, pr_3_1, pr_4_0, pr_4_1, pr_4_2, pr_4_3, pr_4_4, pr_4_5, pr_4_6, pr_4_7, pr_4_8, pr_5_0, pr_5_1, pr_6_0, pr_6_1, pr_7_0, pr_8_0, pr_8_1, pr_8_2, pr_9_0, pr_9_1, pr_10_0, pr_10_1, pr_10_2, pr_11_0, pr_11_1, pr_11_2, pr_11_3, pr_11_4, pr_12_0, pr_12_1, pr_12_2, pr_12_3, pr_12_4, pr_50_0, pr_50_1, pr_50_2, pr_50_3, pr_50_4, pr_50_5, pr_50_9, pr_50_10, pr_50_11, pr_50_12, pr_50_13, pr_50_14, pr_50_15, pr_50_16, pr_50_17, pr_50_18, pr_50_21, pr_50_22, pr_50_32, pr_50_33, pr_50_34, pr_50_35, pr_50_36, pr_50_37, pr_50_38, pr_50_43, pr_50_46, pr_50_47, pr_50_48, pr_50_50, pr_50_51, pr_50_52, pr_50_53, pr_50_54, up2_at, Nat.reduceEqDiff, ↓reduceIte, if_true, if_false, sX12_loose_0, sX12_loose_1, sX12_loose_2, sX12_loose_5, sX12_loose_8, sX12_loose_9, sX12_loose_10, sX12_loose_11, sX12_loose_14, sX12_loose_17, sX12_loose_18, sX12_loose_19, sX12_loose_20, sX12_loose_21, sX12_loose_24, sX12_loose_25, sX12_loose_26, sX12_loose_27, sX12_loose_28, sX12_loose_31, sX12_loose_32, sX12_loose_33, sX12_loose_36, sX12_loose_37, sX12_loose_38, sX12_loose_41, sX12_loose_42, sX12_loose_45, sX12_loose_46, v1, l1, e66, true_and]
      have := hok p j ln M' hp rfl c (by rw [eh]; exact eln) hj ej f1 f50
      rw [eh, lh] at this
      by_cases q : M 58 p = hAt (M 58) (M 59) (M 54 h) (ln.take j)
      · simp only [q, not_true, b2_f, not_false_iff, if_true] at this ⊢
        exact this
      · simp only [q, not_false_iff, b2_t, if_false, show ¬ (1 : Int32) = 0 by decide] at this ⊢
        simpa only [q, not_false_iff, not_true, b2_t, if_false] using this
    · simp only [c, b2_f, not_false_iff, if_true, if_false, shk_0, shk_1, shk_2, shk_3, shk_4, shk_5, shk_6, shk_7, shk_8, shk_9, shk_10, shk_11, shk_12, shk_13, shk_14, shk_15, shk_16, shk_17, shk_18, shk_19, shk_20, shk_21, shk_22, shk_23, shk_24, shk_25, shk_26, shk_27, shk_28, shk_29, shk_30, shk_31, shk_32, shk_33, shk_34, shk_35, shk_36, shk_37, shk_38, shk_39, shk_40, shk_41, shk_42, shk_43, shk_44, shk_45, shk_46, shk_47, shk_48, shk_49, shk_50, shk_51, shk_52, shk_53, shk_54, shk_55, shk_56, shk_57, shk_58, shk_59, shk_60, shk_61, shk_62, shk_63, shk_64, shk_65, shk_66, shk_67, shk_68, shk_69, shk_70, shk_71, shk_72, shk_73, shk_74, shk_75, shk_76, shk_77, shk_78, shk_79, shk_80, shk_81, shk_82, shk_83, shk_84, nl_i, nl_r, nl_f, cat_i, cat_r, sk_0, sk_1, sk_2, sk_3, sk_4, tl_some, tl_none, bit0, bit1, bit_b2, b2_eq0, isB_1, isB_2, isA_0, isA_1, pr_0_0, pr_0_1, pr_0_2, pr_0_3, pr_0_4, pr_0_5, pr_0_6, pr_0_7, pr_0_8, pr_0_9, pr_0_10, pr_0_11, pr_1_0, pr_1_1, pr_1_2, pr_2_0, pr_2_1, pr_2_2, pr_2_3, pr_3_0, pr_3_1, pr_4_0, pr_4_1, pr_4_2, pr_4_3, pr_4_4, pr_4_5, pr_4_6, pr_4_7, pr_4_8, pr_5_0, pr_5_1, pr_6_0, pr_6_1, pr_7_0, pr_8_0, pr_8_1, pr_8_2, pr_9_0, pr_9_1, pr_10_0, pr_10_1, pr_10_2, pr_11_0, pr_11_1, pr_11_2, pr_11_3, pr_11_4, pr_12_0, pr_12_1, pr_12_2, pr_12_3, pr_12_4, pr_50_0, pr_50_1, pr_50_2, pr_50_3, pr_50_4, pr_50_5, pr_50_9, pr_50_10, pr_50_11, pr_50_12, pr_50_13, pr_50_14, pr_50_15, pr_50_16, pr_50_17, pr_50_18, pr_50_21, pr_50_22, pr_50_32, pr_50_33, pr_50_34, pr_50_35, pr_50_36, pr_50_37, pr_50_38, pr_50_43, pr_50_46, pr_50_47, pr_50_48, pr_50_50, pr_50_51, pr_50_52, pr_50_53, pr_50_54, up2_at, Nat.reduceEqDiff, ↓reduceIte, if_true, if_false]
      refine hno (fun p' hp' e => ?_)
      rw [nI_eq (by omega) (by omega)] at e
      subst e
      exact c
  · simp only [shk_0, shk_1, shk_2, shk_3, shk_4, shk_5, shk_6, shk_7, shk_8, shk_9, shk_10, shk_11, shk_12, shk_13, shk_14, shk_15, shk_16, shk_17, shk_18, shk_19, shk_20, shk_21, shk_22, shk_23, shk_24, shk_25, shk_26, shk_27, shk_28, shk_29, shk_30, shk_31, shk_32, shk_33, shk_34, shk_35, shk_36, shk_37, shk_38, shk_39, shk_40, shk_41, shk_42, shk_43, shk_44, shk_45, shk_46, shk_47, shk_48, shk_49, shk_50, shk_51, shk_52, shk_53, shk_54, shk_55, shk_56, shk_57, shk_58, shk_59, shk_60, shk_61, shk_62, shk_63, shk_64, shk_65, shk_66, shk_67, shk_68, shk_69, shk_70, shk_71, shk_72, shk_73, shk_74, shk_75, shk_76, shk_77, shk_78, shk_79, shk_80, shk_81, shk_82, shk_83, shk_84, nl_i, nl_r, nl_f, cat_i, cat_r, sk_0, sk_1, sk_2, sk_3, sk_4, tl_some, tl_none, bit0, bit1, bit_b2, b2_eq0, isB_1, isB_2, isA_0, isA_1, pr_0_0, pr_0_1, pr_0_2, pr_0_3, pr_0_4, pr_0_5, pr_0_6, pr_0_7, pr_0_8, pr_0_9, pr_0_10, pr_0_11, pr_1_0, pr_1_1, pr_1_2, pr_2_0, pr_2_1, pr_2_2, pr_2_3, pr_3_0, pr_3_1, pr_4_0, pr_4_1, pr_4_2, pr_4_3, pr_4_4, pr_4_5, pr_4_6, pr_4_7, pr_4_8, pr_5_0, pr_5_1, pr_6_0, pr_6_1, pr_7_0, pr_8_0, pr_8_1, pr_8_2, pr_9_0, pr_9_1, pr_10_0, pr_10_1, pr_10_2, pr_11_0, pr_11_1, pr_11_2, pr_11_3, pr_11_4, pr_12_0, pr_12_1, pr_12_2, pr_12_3, pr_12_4, pr_50_0, pr_50_1, pr_50_2, pr_50_3, pr_50_4, pr_50_5, pr_50_9, pr_50_10, pr_50_11, pr_50_12, pr_50_13, pr_50_14, pr_50_15, pr_50_16, pr_50_17, pr_50_18, pr_50_21, pr_50_22, pr_50_32, pr_50_33, pr_50_34, pr_50_35, pr_50_36, pr_50_37, pr_50_38, pr_50_43, pr_50_46, pr_50_47, pr_50_48, pr_50_50, pr_50_51, pr_50_52, pr_50_53, pr_50_54, up2_at, Nat.reduceEqDiff, ↓reduceIte, if_true, if_false, sX12_loose_0, sX12_loose_1, sX12_loose_2, sX12_loose_5, sX12_loose_8, sX12_loose_9, sX12_loose_10, sX12_loose_11, sX12_loose_14, sX12_loose_17, sX12_loose_18, sX12_loose_19, sX12_loose_20, sX12_loose_21, sX12_loose_24, sX12_loose_25, sX12_loose_26, sX12_loose_27, sX12_loose_28, sX12_loose_31, sX12_loose_32, sX12_loose_33, sX12_loose_36, sX12_loose_37, sX12_loose_38, sX12_loose_41, sX12_loose_42, sX12_loose_45, sX12_loose_46, wX12_isPaper, hk, v, not_false_iff]
    refine hno (fun p hp e => absurd ?_ v)
    rw [e, toI_le, toI_lt, e1, nI_toI (by omega), ti_0]
    omega
/-- what the relation gives for the walks of papers -/
theorem Rel.pap {n t : Nat} (hh : m ≤ 8) (hm : M 3 2 = nI m) (hp : Rpa n m t k M) : ∃ lp, PapC k m lp M ∧ PapR k m lp M ∧ ∀ i, i < k → Rp1 n m t i M := by
  obtain ⟨r1, r2, r3, r4, ⟨lp, hl, hnd, hlt, hpw, h30⟩⟩ := hp
  have hH : ∀ i, i < k → ∃ h, h < m ∧ M 22 i = nI h := fun i hi => by
    obtain ⟨a1, a2, a3, a4, a5, a6, a7, a8, a9, a10, -⟩ := r4 i hi
    exact ⟨(M 22 i).toInt.toNat, by omega, (nat_of a9).1⟩
  refine ⟨lp, ⟨r1, hh, r2, hm, hl, hlt, h30, fun i hi => (r4 i hi).2.2.2.2.2.2.2.2.2.2.2.2.2.2.2.2.2.2.2.2.2.1, hH⟩, ⟨r1, hh, r3, fun p => ⟨hlt p, fun h => mem_of_len hnd hlt (by omega) p h⟩, ?_, fun i hi => ?_⟩, r4⟩
  · refine List.Pairwise.imp_of_mem ?_ hpw
    intro a c ha hc h
    unfold pOrd at h ⊢
    rw [(r4 a (hlt a ha)).2.2.2.1, (r4 c (hlt c hc)).2.2.2.1]
    exact h
  · rw [(r4 i hi).1]; exact hH i hi
theorem PapR.ext (h : PapR k m lp M) (h19 : M' 50 19 = M 50 19) (h60 : M' 60 = M 60) (h57 : M' 57 = M 57) : PapR k m lp M' := by
  simpa only [PapR, h19, h60, h57] using h
theorem cnt_eq {n t p : Nat} (h : Rp1 n m t p M) : cntB (M 63) (M 64) y p = cntB (M 28) (M 29) y p := by
  unfold cntB
  rw [h.2.2.2.2.2.2.1, h.2.2.2.2.2.2.2.1]
theorem ln_eq {n t : Nat} (ht : t ≤ 36499) (hlt : ∀ p ∈ lp, p < k) (h : ∀ i, i < k → Rp1 n m t i M) : lp.filter (onB (M 22) (M 25) (M 28) (M 29) x 36499 y) = lp.filter (onR (M 57) (M 63) (M 64) x y) := by
  refine List.filter_congr (fun p hp => ?_)
  obtain ⟨a1, a2, a3, a4, a5, a6, a7, a8, a9, a10, a11, a12, a13, a14, a15, a16, a17, a18, a19, a20, a21, -⟩ := h p (hlt p hp)
  rw [onB_R (D := M 25) a1 a7 a8]
  have : (M 25 p).toInt ≤ (36499 : Int32).toInt := by rw [ti_36499]; omega
  rw [decide_eq_true this, Bool.true_and]
set_option maxHeartbeats 8000000 in
theorem pub_loose (hR : Rel b M) : Both d mX11_loose mX12_loose [.int x, .int y] b M N := by
  obtain ⟨n, m, t, k, c, l, w, hpe, ⟨q1, q2, q3, q4, q5⟩, hle, ⟨t1, t2, t3⟩, hpa, hcl, hta, hfa, hwa, hsw, hlaw⟩ := id hR
  obtain ⟨lp, hC, hRR, hrow⟩ := Rel.pap q1 q2 hpa
  have hlt := hC.2.2.2.2.2.1
  refine k11_loose (d := d + 51) hC (fun p M' hp e hc g1 g5 => ?_) (fun hn => ?_)
  · subst e
    have hRR' : PapR k m lp M' := hRR.ext (congrFun (g1 50 (by decide)) 19) (g1 60 (by decide)) (g1 57 (by decide))
    have r1 := hrow p hp
    refine k12_loose (d := d + 51) hRR' (fun p2 j ln M2 hp2 e2 hc2 eln hj ej f1 f50 => ?_) (fun hn => absurd ?_ (hn p hp rfl))
    · rw [nI_eq (by have := hC.1; omega) (by have := hC.1; omega)] at e2
      subst e2
      rw [g1 57 (by decide), g1 63 (by decide), g1 64 (by decide), r1.1] at eln
      have elnC : lp.filter (onB (M 22) (M 25) (M 28) (M 29) (M 22 p) 36499 y) = ln := by rw [ln_eq t1 hlt hrow, eln]
      rw [elnC] at g5
      obtain ⟨hx, hxm, ehx⟩ := hC.2.2.2.2.2.2.2.2 p hp
      have lh := cl_nI (show hx < 2 ^ 31 by omega)
      have hlnm : ∀ q ∈ ln, q < k := fun q hq => by rw [eln] at hq; exact hlt q (List.mem_filter.mp hq).1
      have hlt60 : ∀ q ∈ ln, q < 60 := fun q hq => by have := hlnm q hq; have := hC.1; omega
      have hnd : ln.Nodup := by rw [eln]; exact nodup_of_pOrd (hRR.2.2.2.2.1.filter _)
      refine ⟨?_, b, rfl, ?_⟩
      · rw [g1 58 (by decide), g1 59 (by decide), g1 54 (by decide), g1 57 (by decide), r1.1, r1.2.1, ehx, lh, (q5 hx hxm).1]
        rw [ehx, lh] at g5
        have hcg : hAt (M 58) (M 59) (M 20 hx) (ln.take j) = hAt (M 23) (M 24) (M 20 hx) (ln.take j) := hAt_congr _ _ (fun q hq => by
          have := hrow q (hlnm q (List.mem_of_mem_take hq))
          exact ⟨this.2.1, this.2.2.1⟩)
        rw [hcg]
        have g53 := g5.2.1
        by_cases q : M 23 p = hAt (M 23) (M 24) (M 20 hx) (ln.take j)
        · have := (fold_mark (dy := M 25) (h0 := M 20 hx) hnd hlt60 hj (by rw [ej]; exact q)).1
          rw [ej] at this
          rw [g53, this]
          simp [b2, q]
        · have := fold_nomark (dy := M 25) (h0 := M 20 hx) hnd hlt60 hj (by rw [ej]; exact q)
          rw [ej] at this
          rw [g53, this]
          simp [b2, q]
      · refine hR.ext (fun o ho => ?_) (fun j hj => ?_)
        · rw [f1 o (fun e => by subst e; revert ho; decide) (fun e => by subst e; revert ho; decide) (fun e => by subst e; revert ho; decide), g1 o (fun e => by subst e; revert ho; decide)]
        · rw [f50 j (fun e => by subst e; revert hj; decide), g1 50 (by decide)]
    · rw [g1 63 (by decide), g1 64 (by decide), cnt_eq r1]; exact hc
  · refine k12_loose (d := d + 51) hRR (fun p2 j ln M2 hp2 e2 hc2 _ _ _ _ _ => absurd ?_ (hn p2 hp2 e2)) (fun _ => ⟨rfl, b, rfl, hR⟩)
    rw [← cnt_eq (hrow p2 hp2)]; exact hc2
end K14
