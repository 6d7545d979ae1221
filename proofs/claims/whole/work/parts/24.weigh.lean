section K15
variable {d k m n c t : Nat} {x y z u : Int32} {M M' : Mt} {N : Nt} {b : Bool} {Q : Qt} {lp : List Nat}
/-- the nine terms of a claim by paper p, as known on y -/
def termV (M : Mt) (y : Int32) (ln : List Nat) (j p hx : Nat) (i : Nat) : Int32 := match i with
  | 0 => b2 (M 26 p = 1)
  | 1 => b2 (M 26 p = 2)
  | 2 => (if (2147483647 : Int64) < (M 27 p).toInt64 * (M 13 99).toInt64 / (M 13 (M 25 p / 365).toNatClampNeg).toInt64 then (2147483647 : Int64) else (M 27 p).toInt64 * (M 13 99).toInt64 / (M 13 (M 25 p / 365).toNatClampNeg).toInt64).toInt32
  | 3 => M 21 hx
  | 4 => M 25 p / 365
  | 5 => (M 25 p - (snAt (M 23) (M 24) (M 25) (M 20 hx, 0) (ln.take j)).2) / 365
  | 6 => nI (cntP (M 23) (M 24) (M 24 p) (ln.drop (j + 1)))
  | 7 => b2 (hAt (M 23) (M 24) (M 20 hx) ln = M 24 p)
  | _ => b2 (0 ≤ (M 16 (M 23 p).toNatClampNeg).toInt ∧ (M 16 (M 23 p).toNatClampNeg).toInt ≤ y.toInt)
theorem div365 {a : Int32} (h0 : 0 ≤ a.toInt) (h1 : a.toInt ≤ 36499) : 0 ≤ (a / 365).toInt ∧ (a / 365).toInt < 100 := by
  rw [Int32.toInt_div, ti_365]
  have e : a.toInt.tdiv 365 = a.toInt / 365 := Int.tdiv_eq_ediv_of_nonneg h0
  rw [e, Int.bmod_eq_of_le (by omega) (by omega)]
  omega
set_option maxHeartbeats 4000000 in
theorem wX5_isDeadOn {g : Nat} (hn : M 1 3 = nI n) (h24 : n ≤ 24) (hg : g < n) (h16 : -1 ≤ (M 16 g).toInt) : Wp mX5_isDeadOn (d + 1) 0 [.ref (1 : Nat), .int (nI g), .int y] [] M N (pr b) Q = Q (some (.int (b2 (0 ≤ (M 16 g).toInt ∧ (M 16 g).toInt ≤ y.toInt)))) M N (pr b) := by
  have e1 := nI_toI (show n < 2 ^ 31 by omega)
  have e2 := nI_toI (show g < 2 ^ 31 by omega)
  have cl := cl_nI (show g < 2 ^ 31 by omega)
  have v : vp_in (nI g) 24 := vp_in_nI (by omega) (by omega)
  have c1 : 0 ≤ nI g ∧ nI g < nI n := by rw [toI_le, toI_lt, e1, e2, ti_0]; omega
  simp only [shk_0, shk_1, shk_2, shk_3, shk_4, shk_5, shk_6, shk_7, shk_8, shk_9, shk_10, shk_11, shk_12, shk_13, shk_14, shk_15, shk_16, shk_17, shk_18, shk_19, shk_20, shk_21, shk_22, shk_23, shk_24, shk_25, shk_26, shk_27, shk_28, shk_29, shk_30, shk_31, shk_32, shk_33, shk_34, shk_35, shk_36, shk_37, shk_38, shk_39, shk_40, shk_41, shk_42, shk_43, shk_44, shk_45, shk_46, shk_47, shk_48, shk_49, shk_50, shk_51, shk_52, shk_53, shk_54, shk_55, shk_56, shk_57, shk_58, shk_59, shk_60, shk_61, shk_62, shk_63, shk_64, shk_65, shk_66, shk_67, shk_68, shk_69, shk_70, shk_71, shk_72, shk_73, shk_74, shk_75, shk_76, shk_77, shk_78, shk_79, shk_80, shk_81, shk_82, shk_83, shk_84, nl_i, nl_r, nl_f, cat_i, cat_r, sk_0, sk_1, sk_2, sk_3, sk_4, tl_some, tl_none, bit0, bit1, bit_b2, b2_eq0, isB_1, isB_2, isA_0, isA_1, pr_0_0, pr_0_1, pr_0_2, pr_0_3, pr_0_4, pr_0_5, pr_0_6, pr_0_7, pr_0_8, pr_0_9, pr_0_10, pr_0_11, pr_1_0, pr_1_1, pr_1_2, pr_2_0, pr_2_1, pr_2_2, pr_2_3, pr_3_0, pr_3_1, pr_4_0, pr_4_1, pr_4_2, pr_4_3, pr_4_4, pr_4_5, pr_4_6, pr_4_7, pr_4_8, pr_5_0, pr_5_1, pr_6_0, pr_6_1, pr_7_0, pr_8_0, pr_8_1, pr_8_2, pr_9_0, pr_9_1, pr_10_0, pr_10_1, pr_10_2, pr_11_0, pr_11_1, pr_11_2, pr_11_3, pr_11_4, pr_12_0, pr_12_1, pr_12_2, pr_12_3, pr_12_4, pr_50_0, pr_50_1, pr_50_2, pr_50_3, pr_50_4, pr_50_5, pr_50_9, pr_50_10, pr_50_11, pr_50_12, pr_50_13, pr_50_14, pr_50_15, pr_50_16, pr_50_17, pr_50_18, pr_50_21, pr_50_22, pr_50_32, pr_50_33, pr_50_34, pr_50_35, pr_50_36, pr_50_37, pr_50_38, pr_50_43, pr_50_46, pr_50_47, pr_50_48, pr_50_50, pr_50_51, pr_50_52, pr_50_53, pr_50_54, up2_at, Nat.reduceEqDiff, ↓reduceIte, if_true, if_false, sX5_isDeadOn_0, sX5_isDeadOn_1, sX5_isDeadOn_2, sX5_isDeadOn_5, sX5_isDeadOn_8, sX5_isDeadOn_9, sX5_isDeadOn_12, sX5_isDeadOn_13, sX5_isDeadOn_14, sX5_isDeadOn_15, sX5_isDeadOn_18, sX5_isDeadOn_19, sX5_isDeadOn_22, sX5_isDeadOn_23, sX5_isDeadOn_24, sX5_isDeadOn_25, sX5_isDeadOn_28, sX5_isDeadOn_29, sX5_isDeadOn_32, sX5_isDeadOn_33, wX5_has, hn, c1, v, cl, not_true, and_self, true_and]
  have g2 : (M 16 g = -1) = ¬ (0 ≤ (M 16 g).toInt) := by rw [toI_eq, ti_m1]; apply propext; omega
  have g3 : (y < M 16 g) = ¬ ((M 16 g).toInt ≤ y.toInt) := by rw [toI_lt]; simp
  simp only [g2, g3, b2]
  by_cases a1 : 0 ≤ (M 16 g).toInt <;> by_cases a3 : (M 16 g).toInt ≤ y.toInt <;> simp [a1, a3]
set_option maxHeartbeats 4000000 in
theorem wX12_isDead {g : Nat} (hg : g < 24) : Wp mX12_isDead d 0 [.ref (50 : Nat), .int (nI g), .int y] [] M N (pr b) Q = Q (some (.int (b2 (0 ≤ (M 53 g).toInt ∧ (M 53 g).toInt ≤ y.toInt)))) M N (pr b) := by
  have cl := cl_nI (show g < 2 ^ 31 by omega)
  have v : vp_in (nI g) 24 := vp_in_nI (by omega) (by omega)
  simp only [shk_0, shk_1, shk_2, shk_3, shk_4, shk_5, shk_6, shk_7, shk_8, shk_9, shk_10, shk_11, shk_12, shk_13, shk_14, shk_15, shk_16, shk_17, shk_18, shk_19, shk_20, shk_21, shk_22, shk_23, shk_24, shk_25, shk_26, shk_27, shk_28, shk_29, shk_30, shk_31, shk_32, shk_33, shk_34, shk_35, shk_36, shk_37, shk_38, shk_39, shk_40, shk_41, shk_42, shk_43, shk_44, shk_45, shk_46, shk_47, shk_48, shk_49, shk_50, shk_51, shk_52, shk_53, shk_54, shk_55, shk_56, shk_57, shk_58, shk_59, shk_60, shk_61, shk_62, shk_63, shk_64, shk_65, shk_66, shk_67, shk_68, shk_69, shk_70, shk_71, shk_72, shk_73, shk_74, shk_75, shk_76, shk_77, shk_78, shk_79, shk_80, shk_81, shk_82, shk_83, shk_84, nl_i, nl_r, nl_f, cat_i, cat_r, sk_0, sk_1, sk_2, sk_3, sk_4, tl_some, tl_none, bit0, bit1, bit_b2, b2_eq0, isB_1, isB_2, isA_0, isA_1, pr_0_0, pr_0_1, pr_0_2, pr_0_3, pr_0_4, pr_0_5, pr_0_6, pr_0_7, pr_0_8, pr_0_9, pr_0_10, pr_0_11, pr_1_0, pr_1_1, pr_1_2, pr_2_0, pr_2_1, pr_2_2, pr_2_3, pr_3_0, pr_3_1, pr_4_0, pr_4_1, pr_4_2, pr_4_3, pr_4_4, pr_4_5, pr_4_6, pr_4_7, pr_4_8, pr_5_0, pr_5_1, pr_6_0, pr_6_1, pr_7_0, pr_8_0, pr_8_1, pr_8_2, pr_9_0, pr_9_1, pr_10_0, pr_10_1, pr_10_2, pr_11_0, pr_11_1, pr_11_2, pr_11_3, pr_11_4, pr_12_0, pr_12_1, pr_12_2, pr_12_3, pr_12_4, pr_50_0, pr_50_1, pr_50_2, pr_50_3, pr_50_4, pr_50_5, pr_50_9, pr_50_10, pr_50_11, pr_50_12, pr_50_13, pr_50_14, pr_50_15, pr_50_16, pr_50_17, pr_50_18, pr_50_21, pr_50_22, pr_50_32, pr_50_33, pr_50_34, pr_50_35, pr_50_36, pr_50_37, pr_50_38, pr_50_43, pr_50_46, pr_50_47, pr_50_48, pr_50_50, pr_50_51, pr_50_52, pr_50_53, pr_50_54, up2_at, Nat.reduceEqDiff, ↓reduceIte, if_true, if_false, sX12_isDead_0, sX12_isDead_1, sX12_isDead_4, sX12_isDead_5, sX12_isDead_6, sX12_isDead_9, sX12_isDead_10, sX12_isDead_13, sX12_isDead_14, sX12_isDead_15, sX12_isDead_16, sX12_isDead_19, sX12_isDead_20, sX12_isDead_23, sX12_isDead_24, v, cl, true_and]
  have g2 : (M 53 g < 0) = ¬ (0 ≤ (M 53 g).toInt) := by rw [toI_lt, ti_0]; simp
  have g3 : (y < M 53 g) = ¬ ((M 53 g).toInt ≤ y.toInt) := by rw [toI_lt]; simp
  simp only [g2, g3, b2]
  by_cases a1 : 0 ≤ (M 53 g).toInt <;> by_cases a3 : (M 53 g).toInt ≤ y.toInt <;> simp [a1, a3]
set_option maxHeartbeats 4000000 in
theorem wX11_price {p : Nat} (hp : p < 60) (h25 : 0 ≤ (M 25 p).toInt) (h25' : (M 25 p).toInt ≤ 36499) (h13 : ∀ i, i < 100 → 1 ≤ (M 13 i).toInt) : Wp mX11_priceOfLastYear (d + 3) 0 [.ref (0 : Nat), .int (nI p), .float 0] [] M N (pr b) Q = Q (some (.int (termV M y [] 0 p 0 2))) M N (pr b) := by
  have cl := cl_nI (show p < 2 ^ 31 by omega)
  have v : vp_in (nI p) 60 := vp_in_nI (by omega) (by omega)
  obtain ⟨c1, c2⟩ := div365 h25 h25'
  have n0 : ¬ (365 : Int32) = 0 := by decide
  have a1 : 0 ≤ M 25 p / 365 ∧ M 25 p / 365 < 100 := by rw [toI_le, toI_lt, ti_0, ti_100]; exact ⟨c1, c2⟩
  have a2 : 0 ≤ (99 : Int32) ∧ (99 : Int32) < 100 := by decide
  have v2 : vp_in (M 25 p / 365) 100 := by rw [vp_in_iff]; omega
  have v3 : vp_in (99 : Int32) 100 := by rw [vp_in_iff, ti_99]; omega
  have e := h13 (M 25 p / 365).toNatClampNeg (by rw [clI]; omega)
  have a3 : ¬ M 13 (M 25 p / 365).toNatClampNeg < 1 := by rw [toI_lt, ti_1]; omega
  have a4 : 1 ≤ M 13 (M 25 p / 365).toNatClampNeg := by rw [toI_le, ti_1]; omega
  have n99 : (99 : Int32).toNatClampNeg = 99 := by decide
  simp only [shk_0, shk_1, shk_2, shk_3, shk_4, shk_5, shk_6, shk_7, shk_8, shk_9, shk_10, shk_11, shk_12, shk_13, shk_14, shk_15, shk_16, shk_17, shk_18, shk_19, shk_20, shk_21, shk_22, shk_23, shk_24, shk_25, shk_26, shk_27, shk_28, shk_29, shk_30, shk_31, shk_32, shk_33, shk_34, shk_35, shk_36, shk_37, shk_38, shk_39, shk_40, shk_41, shk_42, shk_43, shk_44, shk_45, shk_46, shk_47, shk_48, shk_49, shk_50, shk_51, shk_52, shk_53, shk_54, shk_55, shk_56, shk_57, shk_58, shk_59, shk_60, shk_61, shk_62, shk_63, shk_64, shk_65, shk_66, shk_67, shk_68, shk_69, shk_70, shk_71, shk_72, shk_73, shk_74, shk_75, shk_76, shk_77, shk_78, shk_79, shk_80, shk_81, shk_82, shk_83, shk_84, nl_i, nl_r, nl_f, cat_i, cat_r, sk_0, sk_1, sk_2, sk_3, sk_4, tl_some, tl_none, bit0, bit1, bit_b2, b2_eq0, isB_1, isB_2, isA_0, isA_1, pr_0_0, pr_0_1, pr_0_2, pr_0_3, pr_0_4, pr_0_5, pr_0_6, pr_0_7, pr_0_8, pr_0_9, pr_0_10, pr_0_11, pr_1_0, pr_1_1, pr_1_2, pr_2_0, pr_2_1, pr_2_2, pr_2_3, pr_3_0, pr_3_1, pr_4_0, pr_4_1, pr_4_2, pr_4_3, pr_4_4, pr_4_5, pr_4_6, pr_4_7, pr_4_8, pr_5_0, pr_5_1, pr_6_0, pr_6_1, pr_7_0, pr_8_0, pr_8_1, pr_8_2, pr_9_0, pr_9_1, pr_10_0, pr_10_1, pr_10_2, pr_11_0, pr_11_1, pr_11_2, pr_11_3, pr_11_4, pr_12_0, pr_12_1, pr_12_2, pr_12_3, pr_12_4, pr_50_0, pr_50_1, pr_50_2, pr_50_3, pr_50_4, pr_50_5, pr_50_9, pr_50_10, pr_50_11, pr_50_12, pr_50_13, pr_50_14, pr_50_15, pr_50_16, pr_50_17, pr_50_18, pr_50_21, pr_50_22, pr_50_32, pr_50_33, pr_50_34, pr_50_35, pr_50_36, pr_50_37, pr_50_38, pr_50_43, pr_50_46, pr_50_47, pr_50_48, pr_50_50, pr_50_51, pr_50_52, pr_50_53, pr_50_54, up2_at, Nat.reduceEqDiff, ↓reduceIte, if_true, if_false, sX11_priceOfLastYear_0, sX11_priceOfLastYear_1, sX11_priceOfLastYear_4, sX11_priceOfLastYear_7, sX11_priceOfLastYear_8, sX11_priceOfLastYear_9, sX11_priceOfLastYear_12, sX11_priceOfLastYear_13, sX11_priceOfLastYear_14, sX11_priceOfLastYear_15, sX11_priceOfLastYear_16, sX11_priceOfLastYear_19, sX11_priceOfLastYear_22, sX11_priceOfLastYear_23, sX11_priceOfLastYear_24, sX11_priceOfLastYear_25, sX11_priceOfLastYear_27, sX11_priceOfLastYear_30, sX11_priceOfLastYear_33, sX11_priceOfLastYear_36, sX11_priceOfLastYear_37, sX11_convert_0, sX11_convert_1, sX11_convert_4, sX11_convert_7, sX11_convert_8, sX11_convert_11, sX11_convert_14, sX11_convert_15, sX11_convert_18, sX11_convert_19, sX11_convert_20, sX11_convert_21, sX11_convert_24, sX11_convert_27, sX11_convert_28, sX11_convert_29, sX11_convert_30, sX11_convert_31, sX11_convert_34, sX11_convert_35, sX11_convert_36, sX11_convert_37, sX11_convert_38, sX11_convert_39, sX11_convert_42, sX11_convert_43, sX11_convert_44, sX11_convert_45, sX11_convert_46, wX11_isYear, v, cl, n0, a1, a2, a3, a4, v2, v3, n99, toI64_ne0 e, not_true, not_false_iff, and_self, true_and, termV]
end K15
