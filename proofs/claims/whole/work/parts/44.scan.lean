section K35
variable {d : Nat} {x y z : Int32} {M M' : Mt} {N N' : Nt} {b : Bool} {Q : Qt} {C : Nat → Nat} {l : Nat}
/-- the bytes as the class has them -/
def bOf (c : Nat) (x : Int32) : Prop := c < 256 ∧ x.toInt = if c < 128 then (c : Int) else (c : Int) - 256
def TX (C : Nat → Nat) (l : Nat) (M : Mt) : Prop := ∀ i, i < l → bOf (C i) (M 33 i)
theorem ti_48 : (48 : Int32).toInt = 48 := by decide
theorem ti_57 : (57 : Int32).toInt = 57 := by decide
theorem ti_97 : (97 : Int32).toInt = 97 := by decide
theorem ti_122 : (122 : Int32).toInt = 122 := by decide
theorem wX9_isLetter {c : Nat} (h : bOf c x) : Wp mX9_isLetter d 0 [.int x] [] M N (pr b) Q = Q (some (.int (b2 (isLn c = true)))) M N (pr b) := by
  obtain ⟨h1, h2⟩ := h
  simp only [shk_0, shk_1, shk_2, shk_3, shk_4, shk_5, shk_6, shk_7, shk_8, shk_9, shk_10, shk_11, shk_12, shk_13, shk_14, shk_15, shk_16, shk_17, shk_18, shk_19, shk_20, shk_21, shk_22, shk_23, shk_24, shk_25, shk_26, shk_27, shk_28, shk_29, shk_30, shk_31, shk_32, shk_33, shk_34, shk_35, shk_36, shk_37, shk_38, shk_39, shk_40, shk_41, shk_42, shk_43, shk_44, shk_45, shk_46, shk_47, shk_48, shk_49, shk_50, shk_51, shk_52, shk_53, shk_54, shk_55, shk_56, shk_57, shk_58, shk_59, shk_60, shk_61, shk_62, shk_63, shk_64, shk_65, shk_66, shk_67, shk_68, shk_69, shk_70, shk_71, shk_72, shk_73, shk_74, shk_75, shk_76, shk_77, shk_78, shk_79, shk_80, shk_81, shk_82, shk_83, shk_84, nl_i, nl_r, nl_f, cat_i, cat_r, sk_0, sk_1, sk_2, sk_3, sk_4, tl_some, tl_none, bit0, bit1, bit_b2, b2_eq0, isB_1, isB_2, isA_0, isA_1, pr_0_0, pr_0_1, pr_0_2, pr_0_3, pr_0_4, pr_0_5, pr_0_6, pr_0_7, pr_0_8, pr_0_9, pr_0_10, pr_0_11, pr_1_0, pr_1_1, pr_1_2, pr_2_0, pr_2_1, pr_2_2, pr_2_3, pr_3_0, pr_3_1, pr_4_0, pr_4_1, pr_4_2, pr_4_3, pr_4_4, pr_4_5, pr_4_6, pr_4_7, pr_4_8, pr_5_0, pr_5_1, pr_6_0, pr_6_1, pr_7_0, pr_8_0, pr_8_1, pr_8_2, pr_9_0, pr_9_1, pr_10_0, pr_10_1, pr_10_2, pr_11_0, pr_11_1, pr_11_2, pr_11_3, pr_11_4, pr_12_0, pr_12_1, pr_12_2, pr_12_3, pr_12_4, pr_50_0, pr_50_1, pr_50_2, pr_50_3, pr_50_4, pr_50_5, pr_50_9, pr_50_10, pr_50_11, pr_50_12, pr_50_13, pr_50_14, pr_50_15, pr_50_16, pr_50_17, pr_50_18, pr_50_21, pr_50_22, pr_50_32, pr_50_33, pr_50_34, pr_50_35, pr_50_36, pr_50_37, pr_50_38, pr_50_43, pr_50_46, pr_50_47, pr_50_48, pr_50_50, pr_50_51, pr_50_52, pr_50_53, pr_50_54, up2_at, Nat.reduceEqDiff, ↓reduceIte, if_true, if_false, sX9_isLetter_0, sX9_isLetter_1, sX9_isLetter_3, sX9_isLetter_6, sX9_isLetter_7, sX9_isLetter_9, sX9_isLetter_12, sX9_isLetter_13, sX9_isLetter_16, sX9_isLetter_17]
  unfold isLn
  by_cases q1 : x < 97
  · rw [if_pos q1, b2_f]
    rw [toI_lt, ti_97] at q1
    simp only [decide_eq_true_eq]
    split at h2 <;> omega
  · rw [if_neg q1]
    by_cases q2 : 122 < x
    · rw [if_pos q2, b2_f]
      rw [toI_lt, ti_122] at q2
      simp only [decide_eq_true_eq]
      split at h2 <;> omega
    · rw [if_neg q2, b2_t]
      rw [toI_lt, ti_122] at q2
      rw [toI_lt, ti_97] at q1
      simp only [decide_eq_true_eq]
      split at h2 <;> omega
theorem wX9_isDigit {c : Nat} (h : bOf c x) : Wp mX9_isDigit d 0 [.int x] [] M N (pr b) Q = Q (some (.int (b2 (isDn c = true)))) M N (pr b) := by
  obtain ⟨h1, h2⟩ := h
  simp only [shk_0, shk_1, shk_2, shk_3, shk_4, shk_5, shk_6, shk_7, shk_8, shk_9, shk_10, shk_11, shk_12, shk_13, shk_14, shk_15, shk_16, shk_17, shk_18, shk_19, shk_20, shk_21, shk_22, shk_23, shk_24, shk_25, shk_26, shk_27, shk_28, shk_29, shk_30, shk_31, shk_32, shk_33, shk_34, shk_35, shk_36, shk_37, shk_38, shk_39, shk_40, shk_41, shk_42, shk_43, shk_44, shk_45, shk_46, shk_47, shk_48, shk_49, shk_50, shk_51, shk_52, shk_53, shk_54, shk_55, shk_56, shk_57, shk_58, shk_59, shk_60, shk_61, shk_62, shk_63, shk_64, shk_65, shk_66, shk_67, shk_68, shk_69, shk_70, shk_71, shk_72, shk_73, shk_74, shk_75, shk_76, shk_77, shk_78, shk_79, shk_80, shk_81, shk_82, shk_83, shk_84, nl_i, nl_r, nl_f, cat_i, cat_r, sk_0, sk_1, sk_2, sk_3, sk_4, tl_some, tl_none, bit0, bit1, bit_b2, b2_eq0, isB_1, isB_2, isA_0, isA_1, pr_0_0, pr_0_1, pr_0_2, pr_0_3, pr_0_4, pr_0_5, pr_0_6, pr_0_7, pr_0_8, pr_0_9, pr_0_10, pr_0_11, pr_1_0, pr_1_1, pr_1_2, pr_2_0, pr_2_1, pr_2_2, pr_2_3, pr_3_0, pr_3_1, pr_4_0, pr_4_1, pr_4_2, pr_4_3, pr_4_4, pr_4_5, pr_4_6, pr_4_7, pr_4_8, pr_5_0, pr_5_1, pr_6_0, pr_6_1, pr_7_0, pr_8_0, pr_8_1, pr_8_2, pr_9_0, pr_9_1, pr_10_0, pr_10_1, pr_10_2, pr_11_0, pr_11_1, pr_11_2, pr_11_3, pr_11_4, pr_12_0, pr_12_1, pr_12_2, pr_12_3, pr_12_4, pr_50_0, pr_50_1, pr_50_2, pr_50_3, pr_50_4, pr_50_5, pr_50_9, pr_50_10, pr_50_11, pr_50_12, pr_50_13, pr_50_14, pr_50_15, pr_50_16, pr_50_17, pr_50_18, pr_50_21, pr_50_22, pr_50_32, pr_50_33, pr_50_34, pr_50_35, pr_50_36, pr_50_37, pr_50_38, pr_50_43, pr_50_46, pr_50_47, pr_50_48, pr_50_50, pr_50_51, pr_50_52, pr_50_53, pr_50_54, up2_at, Nat.reduceEqDiff, ↓reduceIte, if_true, if_false, sX9_isDigit_0, sX9_isDigit_1, sX9_isDigit_3, sX9_isDigit_6, sX9_isDigit_7, sX9_isDigit_9, sX9_isDigit_12, sX9_isDigit_13, sX9_isDigit_16, sX9_isDigit_17]
  unfold isDn
  by_cases q1 : x < 48
  · rw [if_pos q1, b2_f]
    rw [toI_lt, ti_48] at q1
    simp only [decide_eq_true_eq]
    split at h2 <;> omega
  · rw [if_neg q1]
    by_cases q2 : 57 < x
    · rw [if_pos q2, b2_f]
      rw [toI_lt, ti_57] at q2
      simp only [decide_eq_true_eq]
      split at h2 <;> omega
    · rw [if_neg q2, b2_t]
      rw [toI_lt, ti_57] at q2
      rw [toI_lt, ti_48] at q1
      simp only [decide_eq_true_eq]
      split at h2 <;> omega
theorem wX9_isBlank {c : Nat} (h : bOf c x) : Wp mX9_isBlank d 0 [.int x] [] M N (pr b) Q = Q (some (.int (b2 (isBn c = true)))) M N (pr b) := by
  obtain ⟨h1, h2⟩ := h
  simp only [shk_0, shk_1, shk_2, shk_3, shk_4, shk_5, shk_6, shk_7, shk_8, shk_9, shk_10, shk_11, shk_12, shk_13, shk_14, shk_15, shk_16, shk_17, shk_18, shk_19, shk_20, shk_21, shk_22, shk_23, shk_24, shk_25, shk_26, shk_27, shk_28, shk_29, shk_30, shk_31, shk_32, shk_33, shk_34, shk_35, shk_36, shk_37, shk_38, shk_39, shk_40, shk_41, shk_42, shk_43, shk_44, shk_45, shk_46, shk_47, shk_48, shk_49, shk_50, shk_51, shk_52, shk_53, shk_54, shk_55, shk_56, shk_57, shk_58, shk_59, shk_60, shk_61, shk_62, shk_63, shk_64, shk_65, shk_66, shk_67, shk_68, shk_69, shk_70, shk_71, shk_72, shk_73, shk_74, shk_75, shk_76, shk_77, shk_78, shk_79, shk_80, shk_81, shk_82, shk_83, shk_84, nl_i, nl_r, nl_f, cat_i, cat_r, sk_0, sk_1, sk_2, sk_3, sk_4, tl_some, tl_none, bit0, bit1, bit_b2, b2_eq0, isB_1, isB_2, isA_0, isA_1, pr_0_0, pr_0_1, pr_0_2, pr_0_3, pr_0_4, pr_0_5, pr_0_6, pr_0_7, pr_0_8, pr_0_9, pr_0_10, pr_0_11, pr_1_0, pr_1_1, pr_1_2, pr_2_0, pr_2_1, pr_2_2, pr_2_3, pr_3_0, pr_3_1, pr_4_0, pr_4_1, pr_4_2, pr_4_3, pr_4_4, pr_4_5, pr_4_6, pr_4_7, pr_4_8, pr_5_0, pr_5_1, pr_6_0, pr_6_1, pr_7_0, pr_8_0, pr_8_1, pr_8_2, pr_9_0, pr_9_1, pr_10_0, pr_10_1, pr_10_2, pr_11_0, pr_11_1, pr_11_2, pr_11_3, pr_11_4, pr_12_0, pr_12_1, pr_12_2, pr_12_3, pr_12_4, pr_50_0, pr_50_1, pr_50_2, pr_50_3, pr_50_4, pr_50_5, pr_50_9, pr_50_10, pr_50_11, pr_50_12, pr_50_13, pr_50_14, pr_50_15, pr_50_16, pr_50_17, pr_50_18, pr_50_21, pr_50_22, pr_50_32, pr_50_33, pr_50_34, pr_50_35, pr_50_36, pr_50_37, pr_50_38, pr_50_43, pr_50_46, pr_50_47, pr_50_48, pr_50_50, pr_50_51, pr_50_52, pr_50_53, pr_50_54, up2_at, Nat.reduceEqDiff, ↓reduceIte, if_true, if_false, sX9_isBlank_0, sX9_isBlank_1, sX9_isBlank_3, sX9_isBlank_6, sX9_isBlank_7, sX9_isBlank_9, sX9_isBlank_12, sX9_isBlank_13, sX9_isBlank_16, sX9_isBlank_17]
  unfold isBn
  by_cases q1 : x = 32
  · rw [if_pos q1, b2_t]
    rw [q1, ti_32] at h2
    simp only [decide_eq_true_eq]
    split at h2 <;> omega
  · rw [if_neg q1]
    by_cases q2 : x = 10
    · rw [if_pos q2, b2_t]
      rw [q2, ti_10] at h2
      simp only [decide_eq_true_eq]
      split at h2 <;> omega
    · rw [if_neg q2, b2_f]
      rw [toI_eq, ti_10] at q2
      rw [toI_eq, ti_32] at q1
      simp only [decide_eq_true_eq]
      split at h2 <;> omega
theorem bOf_nI {c : Nat} (h : bOf c x) (h1 : c < 128) : x = nI c := by
  rw [toI_eq, h.2, if_pos h1, nI_toI (by omega)]
theorem i2b_nI {k : Nat} (h : k < 128) : (nI k).toInt8.toInt32 = nI k := lg_i2b_small (by rw [nI_toI (by omega)]; omega) (by rw [nI_toI (by omega)]; omega)
theorem i2s_nI {k : Nat} (h : k < 32768) : (nI k).toInt16.toInt32 = nI k := lg_i2s_small (by rw [nI_toI (by omega)]; omega) (by rw [nI_toI (by omega)]; omega)
/-- the heap behind one token more -/
def addT (M : Mt) (j k p : Nat) (v : Int32) : Mt := up2 (up2 (up2 (up2 M 34 j (nI k)) 35 j (nI p)) 36 j v) 8 3 (nI (j + 1))
theorem wX9_add {j k p : Nat} (hj : M 8 3 = nI j) (h6 : j < 601) (hk : k < 128) (hp : p ≤ 600) (hq : Q none (addT M j k p x) N (pr b)) : Wp mX9_add d 0 [.ref (8 : Nat), .int (nI k), .int (nI p), .int x] [] M N (pr b) Q := by
  have c1 : ¬ nI 601 ≤ nI j := nI_ge (by omega) (by omega)
  have v1 : vp_in (nI j) 601 := vp_in_nI (by omega) (by omega)
  have l1 := cl_nI (show j < 2 ^ 31 by omega)
  simp only [shk_0, shk_1, shk_2, shk_3, shk_4, shk_5, shk_6, shk_7, shk_8, shk_9, shk_10, shk_11, shk_12, shk_13, shk_14, shk_15, shk_16, shk_17, shk_18, shk_19, shk_20, shk_21, shk_22, shk_23, shk_24, shk_25, shk_26, shk_27, shk_28, shk_29, shk_30, shk_31, shk_32, shk_33, shk_34, shk_35, shk_36, shk_37, shk_38, shk_39, shk_40, shk_41, shk_42, shk_43, shk_44, shk_45, shk_46, shk_47, shk_48, shk_49, shk_50, shk_51, shk_52, shk_53, shk_54, shk_55, shk_56, shk_57, shk_58, shk_59, shk_60, shk_61, shk_62, shk_63, shk_64, shk_65, shk_66, shk_67, shk_68, shk_69, shk_70, shk_71, shk_72, shk_73, shk_74, shk_75, shk_76, shk_77, shk_78, shk_79, shk_80, shk_81, shk_82, shk_83, shk_84, nl_i, nl_r, nl_f, cat_i, cat_r, sk_0, sk_1, sk_2, sk_3, sk_4, tl_some, tl_none, bit0, bit1, bit_b2, b2_eq0, isB_1, isB_2, isA_0, isA_1, pr_0_0, pr_0_1, pr_0_2, pr_0_3, pr_0_4, pr_0_5, pr_0_6, pr_0_7, pr_0_8, pr_0_9, pr_0_10, pr_0_11, pr_1_0, pr_1_1, pr_1_2, pr_2_0, pr_2_1, pr_2_2, pr_2_3, pr_3_0, pr_3_1, pr_4_0, pr_4_1, pr_4_2, pr_4_3, pr_4_4, pr_4_5, pr_4_6, pr_4_7, pr_4_8, pr_5_0, pr_5_1, pr_6_0, pr_6_1, pr_7_0, pr_8_0, pr_8_1, pr_8_2, pr_9_0, pr_9_1, pr_10_0, pr_10_1, pr_10_2, pr_11_0, pr_11_1, pr_11_2, pr_11_3, pr_11_4, pr_12_0, pr_12_1, pr_12_2, pr_12_3, pr_12_4, pr_50_0, pr_50_1, pr_50_2, pr_50_3, pr_50_4, pr_50_5, pr_50_9, pr_50_10, pr_50_11, pr_50_12, pr_50_13, pr_50_14, pr_50_15, pr_50_16, pr_50_17, pr_50_18, pr_50_21, pr_50_22, pr_50_32, pr_50_33, pr_50_34, pr_50_35, pr_50_36, pr_50_37, pr_50_38, pr_50_43, pr_50_46, pr_50_47, pr_50_48, pr_50_50, pr_50_51, pr_50_52, pr_50_53, pr_50_54, up2_at, Nat.reduceEqDiff, ↓reduceIte, if_true, if_false, sX9_add_0, sX9_add_1, sX9_add_4, sX9_add_5, sX9_add_8, sX9_add_9, sX9_add_12, sX9_add_13, sX9_add_16, sX9_add_17, sX9_add_20, sX9_add_21, sX9_add_22, sX9_add_23, sX9_add_24, sX9_add_27, sX9_add_28, sX9_add_31, sX9_add_32, sX9_add_33, sX9_add_34, sX9_add_35, sX9_add_38, sX9_add_39, sX9_add_42, sX9_add_43, sX9_add_44, sX9_add_45, sX9_add_46, sX9_add_49, sX9_add_50, sX9_add_51, sX9_add_54, hj, c1, show Int32.ofNat 601 = nI 601 from rfl, v1, l1, true_and, i2b_nI hk, i2s_nI (show p < 32768 by omega), nI_1]
  exact hq
/-! words and numbers -/
theorem lX9_isWord {i r a e : Nat} {ct : Nat} (hi : i < 3) (hlen : 8 * r + 8 ≤ (strB i).length) (hT : TX C l M) (he : e ≤ l) (hl : l ≤ 600) (h128 : ∀ k, a ≤ k → k < e → C k < 128) (hb : ∀ k, (strB i).getD k 0 < 128)
    (hd : 5 ≤ d)
    (hok : (∀ k, k < 8 → padW C a e k = (strB i).getD (8 * r + k) 0) → Q (some (.int 1)) M N (pr b)) (hno : (∃ k, k < 8 ∧ ¬ padW C a e k = (strB i).getD (8 * r + k) 0) → Q (some (.int 0)) M N (pr b)) (hct : ct = 8) (ha : a ≤ 600) :
    ∀ (s k : Nat) (a6 : Value), k + s = 8 → (∀ k', k' < k → padW C a e k' = (strB i).getD (8 * r + k') 0) → Wp mX9_isWord (d + 1) 3 [.ref (200 + i), .int (nI (8 * r)), .ref (33 : Nat), .int (nI a), .int (nI e), .int (nI k), a6] [] M N (pr b) Q := by
  intro s
  induction s with
  | zero =>
    intro k a6 hk hI
    have e8 : k = 8 := by omega
    subst e8
    rw [sX9_isWord_3]
    simp only [shk_0, shk_1, shk_2, shk_3, shk_4, shk_5, shk_6, shk_7, shk_8, shk_9, shk_10, shk_11, shk_12, shk_13, shk_14, shk_15, shk_16, shk_17, shk_18, shk_19, shk_20, shk_21, shk_22, shk_23, shk_24, shk_25, shk_26, shk_27, shk_28, shk_29, shk_30, shk_31, shk_32, shk_33, shk_34, shk_35, shk_36, shk_37, shk_38, shk_39, shk_40, shk_41, shk_42, shk_43, shk_44, shk_45, shk_46, shk_47, shk_48, shk_49, shk_50, shk_51, shk_52, shk_53, shk_54, shk_55, shk_56, shk_57, shk_58, shk_59, shk_60, shk_61, shk_62, shk_63, shk_64, shk_65, shk_66, shk_67, shk_68, shk_69, shk_70, shk_71, shk_72, shk_73, shk_74, shk_75, shk_76, shk_77, shk_78, shk_79, shk_80, shk_81, shk_82, shk_83, shk_84, nl_i, nl_r, nl_f, cat_i, cat_r, sk_0, sk_1, sk_2, sk_3, sk_4, tl_some, tl_none, bit0, bit1, bit_b2, b2_eq0, isB_1, isB_2, isA_0, isA_1, pr_0_0, pr_0_1, pr_0_2, pr_0_3, pr_0_4, pr_0_5, pr_0_6, pr_0_7, pr_0_8, pr_0_9, pr_0_10, pr_0_11, pr_1_0, pr_1_1, pr_1_2, pr_2_0, pr_2_1, pr_2_2, pr_2_3, pr_3_0, pr_3_1, pr_4_0, pr_4_1, pr_4_2, pr_4_3, pr_4_4, pr_4_5, pr_4_6, pr_4_7, pr_4_8, pr_5_0, pr_5_1, pr_6_0, pr_6_1, pr_7_0, pr_8_0, pr_8_1, pr_8_2, pr_9_0, pr_9_1, pr_10_0, pr_10_1, pr_10_2, pr_11_0, pr_11_1, pr_11_2, pr_11_3, pr_11_4, pr_12_0, pr_12_1, pr_12_2, pr_12_3, pr_12_4, pr_50_0, pr_50_1, pr_50_2, pr_50_3, pr_50_4, pr_50_5, pr_50_9, pr_50_10, pr_50_11, pr_50_12, pr_50_13, pr_50_14, pr_50_15, pr_50_16, pr_50_17, pr_50_18, pr_50_21, pr_50_22, pr_50_32, pr_50_33, pr_50_34, pr_50_35, pr_50_36, pr_50_37, pr_50_38, pr_50_43, pr_50_46, pr_50_47, pr_50_48, pr_50_50, pr_50_51, pr_50_52, pr_50_53, pr_50_54, up2_at, Nat.reduceEqDiff, ↓reduceIte, if_true, if_false, sX9_isWord_5, sX9_isWord_7, sX9_isWord_53, sX9_isWord_54, show (8 : Int32) ≤ nI 8 by decide]
    exact hok hI
  | succ s ih =>
    intro k a6 hk hI
    have c1 : ¬ (8 : Int32) ≤ nI k := by rw [toI_le, nI_toI (by omega), ti_8]; omega
    have hbb := hb (8 * r + k)
    have hr600 : 8 * r + 8 ≤ 100 := by
      have : ∀ i, i < 3 → (strB i).length ≤ 100 := by decide
      have := this i hi
      omega
    have gt : (strB i)[8 * r + k]? = some ((strB i).getD (8 * r + k) 0) := by
      rw [List.getD_eq_getElem?_getD, List.getElem?_eq_getElem (by omega)]; rfl
    have fin : ∀ (w : Nat), w < 128 → w = padW C a e k → Wp mX9_isWord (d + 1) 30 [.ref (200 + i), .int (nI (8 * r)), .ref (33 : Nat), .int (nI a), .int (nI e), .int (nI k), a6] [.int (nI w)] M N (pr b) Q := by
      intro w hw ew
      simp only [shk_0, shk_1, shk_2, shk_3, shk_4, shk_5, shk_6, shk_7, shk_8, shk_9, shk_10, shk_11, shk_12, shk_13, shk_14, shk_15, shk_16, shk_17, shk_18, shk_19, shk_20, shk_21, shk_22, shk_23, shk_24, shk_25, shk_26, shk_27, shk_28, shk_29, shk_30, shk_31, shk_32, shk_33, shk_34, shk_35, shk_36, shk_37, shk_38, shk_39, shk_40, shk_41, shk_42, shk_43, shk_44, shk_45, shk_46, shk_47, shk_48, shk_49, shk_50, shk_51, shk_52, shk_53, shk_54, shk_55, shk_56, shk_57, shk_58, shk_59, shk_60, shk_61, shk_62, shk_63, shk_64, shk_65, shk_66, shk_67, shk_68, shk_69, shk_70, shk_71, shk_72, shk_73, shk_74, shk_75, shk_76, shk_77, shk_78, shk_79, shk_80, shk_81, shk_82, shk_83, shk_84, nl_i, nl_r, nl_f, cat_i, cat_r, sk_0, sk_1, sk_2, sk_3, sk_4, tl_some, tl_none, bit0, bit1, bit_b2, b2_eq0, isB_1, isB_2, isA_0, isA_1, pr_0_0, pr_0_1, pr_0_2, pr_0_3, pr_0_4, pr_0_5, pr_0_6, pr_0_7, pr_0_8, pr_0_9, pr_0_10, pr_0_11, pr_1_0, pr_1_1, pr_1_2, pr_2_0, pr_2_1, pr_2_2, pr_2_3, pr_3_0, pr_3_1, pr_4_0, pr_4_1, pr_4_2, pr_4_3, pr_4_4, pr_4_5, pr_4_6, pr_4_7, pr_4_8, pr_5_0, pr_5_1, pr_6_0, pr_6_1, pr_7_0, pr_8_0, pr_8_1, pr_8_2, pr_9_0, pr_9_1, pr_10_0, pr_10_1, pr_10_2, pr_11_0, pr_11_1, pr_11_2, pr_11_3, pr_11_4, pr_12_0, pr_12_1, pr_12_2, pr_12_3, pr_12_4, pr_50_0, pr_50_1, pr_50_2, pr_50_3, pr_50_4, pr_50_5, pr_50_9, pr_50_10, pr_50_11, pr_50_12, pr_50_13, pr_50_14, pr_50_15, pr_50_16, pr_50_17, pr_50_18, pr_50_21, pr_50_22, pr_50_32, pr_50_33, pr_50_34, pr_50_35, pr_50_36, pr_50_37, pr_50_38, pr_50_43, pr_50_46, pr_50_47, pr_50_48, pr_50_50, pr_50_51, pr_50_52, pr_50_53, pr_50_54, up2_at, Nat.reduceEqDiff, ↓reduceIte, if_true, if_false, sX9_isWord_30, sX9_isWord_32, sX9_isWord_34, sX9_isWord_35, sX9_isWord_36, sX9_isWord_38, nI_add]
      rw [sX9_isWord_39 hi rfl sk_1]
      refine Wp.prim hd (Or.inl ⟨rfl, i, 8 * r + k, (strB i).getD (8 * r + k) 0, rfl, hi, gt, rfl⟩) ?_
      by_cases q : w = (strB i).getD (8 * r + k) 0
      · have q' : nI w = nI ((strB i).getD (8 * r + k) 0) := by rw [← q]
        simp only [shk_0, shk_1, shk_2, shk_3, shk_4, shk_5, shk_6, shk_7, shk_8, shk_9, shk_10, shk_11, shk_12, shk_13, shk_14, shk_15, shk_16, shk_17, shk_18, shk_19, shk_20, shk_21, shk_22, shk_23, shk_24, shk_25, shk_26, shk_27, shk_28, shk_29, shk_30, shk_31, shk_32, shk_33, shk_34, shk_35, shk_36, shk_37, shk_38, shk_39, shk_40, shk_41, shk_42, shk_43, shk_44, shk_45, shk_46, shk_47, shk_48, shk_49, shk_50, shk_51, shk_52, shk_53, shk_54, shk_55, shk_56, shk_57, shk_58, shk_59, shk_60, shk_61, shk_62, shk_63, shk_64, shk_65, shk_66, shk_67, shk_68, shk_69, shk_70, shk_71, shk_72, shk_73, shk_74, shk_75, shk_76, shk_77, shk_78, shk_79, shk_80, shk_81, shk_82, shk_83, shk_84, nl_i, nl_r, nl_f, cat_i, cat_r, sk_0, sk_1, sk_2, sk_3, sk_4, tl_some, tl_none, bit0, bit1, bit_b2, b2_eq0, isB_1, isB_2, isA_0, isA_1, pr_0_0, pr_0_1, pr_0_2, pr_0_3, pr_0_4, pr_0_5, pr_0_6, pr_0_7, pr_0_8, pr_0_9, pr_0_10, pr_0_11, pr_1_0, pr_1_1, pr_1_2, pr_2_0, pr_2_1, pr_2_2, pr_2_3, pr_3_0, pr_3_1, pr_4_0, pr_4_1, pr_4_2, pr_4_3, pr_4_4, pr_4_5, pr_4_6, pr_4_7, pr_4_8, pr_5_0, pr_5_1, pr_6_0, pr_6_1, pr_7_0, pr_8_0, pr_8_1, pr_8_2, pr_9_0, pr_9_1, pr_10_0, pr_10_1, pr_10_2, pr_11_0, pr_11_1, pr_11_2, pr_11_3, pr_11_4, pr_12_0, pr_12_1, pr_12_2, pr_12_3, pr_12_4, pr_50_0, pr_50_1, pr_50_2, pr_50_3, pr_50_4, pr_50_5, pr_50_9, pr_50_10, pr_50_11, pr_50_12, pr_50_13, pr_50_14, pr_50_15, pr_50_16, pr_50_17, pr_50_18, pr_50_21, pr_50_22, pr_50_32, pr_50_33, pr_50_34, pr_50_35, pr_50_36, pr_50_37, pr_50_38, pr_50_43, pr_50_46, pr_50_47, pr_50_48, pr_50_50, pr_50_51, pr_50_52, pr_50_53, pr_50_54, up2_at, Nat.reduceEqDiff, ↓reduceIte, if_true, if_false, sX9_isWord_42, sX9_isWord_47, sX9_isWord_50, q', nI_1]
        refine ih (k + 1) _ (by omega) (fun k' hk' => ?_)
        by_cases ek : k' = k
        · rw [ek, ← ew]; exact q
        · exact hI k' (by omega)
      · have q' : ¬ nI w = nI ((strB i).getD (8 * r + k) 0) := fun e => q ((nI_eq (by omega) (by omega)).mp e)
        simp only [shk_0, shk_1, shk_2, shk_3, shk_4, shk_5, shk_6, shk_7, shk_8, shk_9, shk_10, shk_11, shk_12, shk_13, shk_14, shk_15, shk_16, shk_17, shk_18, shk_19, shk_20, shk_21, shk_22, shk_23, shk_24, shk_25, shk_26, shk_27, shk_28, shk_29, shk_30, shk_31, shk_32, shk_33, shk_34, shk_35, shk_36, shk_37, shk_38, shk_39, shk_40, shk_41, shk_42, shk_43, shk_44, shk_45, shk_46, shk_47, shk_48, shk_49, shk_50, shk_51, shk_52, shk_53, shk_54, shk_55, shk_56, shk_57, shk_58, shk_59, shk_60, shk_61, shk_62, shk_63, shk_64, shk_65, shk_66, shk_67, shk_68, shk_69, shk_70, shk_71, shk_72, shk_73, shk_74, shk_75, shk_76, shk_77, shk_78, shk_79, shk_80, shk_81, shk_82, shk_83, shk_84, nl_i, nl_r, nl_f, cat_i, cat_r, sk_0, sk_1, sk_2, sk_3, sk_4, tl_some, tl_none, bit0, bit1, bit_b2, b2_eq0, isB_1, isB_2, isA_0, isA_1, pr_0_0, pr_0_1, pr_0_2, pr_0_3, pr_0_4, pr_0_5, pr_0_6, pr_0_7, pr_0_8, pr_0_9, pr_0_10, pr_0_11, pr_1_0, pr_1_1, pr_1_2, pr_2_0, pr_2_1, pr_2_2, pr_2_3, pr_3_0, pr_3_1, pr_4_0, pr_4_1, pr_4_2, pr_4_3, pr_4_4, pr_4_5, pr_4_6, pr_4_7, pr_4_8, pr_5_0, pr_5_1, pr_6_0, pr_6_1, pr_7_0, pr_8_0, pr_8_1, pr_8_2, pr_9_0, pr_9_1, pr_10_0, pr_10_1, pr_10_2, pr_11_0, pr_11_1, pr_11_2, pr_11_3, pr_11_4, pr_12_0, pr_12_1, pr_12_2, pr_12_3, pr_12_4, pr_50_0, pr_50_1, pr_50_2, pr_50_3, pr_50_4, pr_50_5, pr_50_9, pr_50_10, pr_50_11, pr_50_12, pr_50_13, pr_50_14, pr_50_15, pr_50_16, pr_50_17, pr_50_18, pr_50_21, pr_50_22, pr_50_32, pr_50_33, pr_50_34, pr_50_35, pr_50_36, pr_50_37, pr_50_38, pr_50_43, pr_50_46, pr_50_47, pr_50_48, pr_50_50, pr_50_51, pr_50_52, pr_50_53, pr_50_54, up2_at, Nat.reduceEqDiff, ↓reduceIte, if_true, if_false, sX9_isWord_42, sX9_isWord_45, sX9_isWord_46, q']
        exact hno ⟨k, by omega, by rw [← ew]; exact q⟩
    rw [sX9_isWord_3]
    by_cases q : a + k < e
    · have q' : ¬ nI e ≤ nI (a + k) := nI_ge q (by omega)
      have v1 : vp_in (nI (a + k)) 600 := vp_in_nI (by omega) (by omega)
      have l1 := cl_nI (show a + k < 2 ^ 31 by omega)
      have ex := bOf_nI (hT (a + k) (by omega)) (h128 (a + k) (by omega) q)
      simp only [shk_0, shk_1, shk_2, shk_3, shk_4, shk_5, shk_6, shk_7, shk_8, shk_9, shk_10, shk_11, shk_12, shk_13, shk_14, shk_15, shk_16, shk_17, shk_18, shk_19, shk_20, shk_21, shk_22, shk_23, shk_24, shk_25, shk_26, shk_27, shk_28, shk_29, shk_30, shk_31, shk_32, shk_33, shk_34, shk_35, shk_36, shk_37, shk_38, shk_39, shk_40, shk_41, shk_42, shk_43, shk_44, shk_45, shk_46, shk_47, shk_48, shk_49, shk_50, shk_51, shk_52, shk_53, shk_54, shk_55, shk_56, shk_57, shk_58, shk_59, shk_60, shk_61, shk_62, shk_63, shk_64, shk_65, shk_66, shk_67, shk_68, shk_69, shk_70, shk_71, shk_72, shk_73, shk_74, shk_75, shk_76, shk_77, shk_78, shk_79, shk_80, shk_81, shk_82, shk_83, shk_84, nl_i, nl_r, nl_f, cat_i, cat_r, sk_0, sk_1, sk_2, sk_3, sk_4, tl_some, tl_none, bit0, bit1, bit_b2, b2_eq0, isB_1, isB_2, isA_0, isA_1, pr_0_0, pr_0_1, pr_0_2, pr_0_3, pr_0_4, pr_0_5, pr_0_6, pr_0_7, pr_0_8, pr_0_9, pr_0_10, pr_0_11, pr_1_0, pr_1_1, pr_1_2, pr_2_0, pr_2_1, pr_2_2, pr_2_3, pr_3_0, pr_3_1, pr_4_0, pr_4_1, pr_4_2, pr_4_3, pr_4_4, pr_4_5, pr_4_6, pr_4_7, pr_4_8, pr_5_0, pr_5_1, pr_6_0, pr_6_1, pr_7_0, pr_8_0, pr_8_1, pr_8_2, pr_9_0, pr_9_1, pr_10_0, pr_10_1, pr_10_2, pr_11_0, pr_11_1, pr_11_2, pr_11_3, pr_11_4, pr_12_0, pr_12_1, pr_12_2, pr_12_3, pr_12_4, pr_50_0, pr_50_1, pr_50_2, pr_50_3, pr_50_4, pr_50_5, pr_50_9, pr_50_10, pr_50_11, pr_50_12, pr_50_13, pr_50_14, pr_50_15, pr_50_16, pr_50_17, pr_50_18, pr_50_21, pr_50_22, pr_50_32, pr_50_33, pr_50_34, pr_50_35, pr_50_36, pr_50_37, pr_50_38, pr_50_43, pr_50_46, pr_50_47, pr_50_48, pr_50_50, pr_50_51, pr_50_52, pr_50_53, pr_50_54, up2_at, Nat.reduceEqDiff, ↓reduceIte, if_true, if_false, sX9_isWord_5, sX9_isWord_7, sX9_isWord_10, sX9_isWord_11, sX9_isWord_13, sX9_isWord_14, sX9_isWord_16, sX9_isWord_19, sX9_isWord_20, sX9_isWord_21, sX9_isWord_23, sX9_isWord_24, sX9_isWord_25, c1, nI_add, q', v1, l1, ex, true_and]
      exact fin (C (a + k)) (h128 (a + k) (by omega) q) (by unfold padW; rw [if_pos q])
    · have q' : nI e ≤ nI (a + k) := nI_le (by omega) (by omega)
      simp only [shk_0, shk_1, shk_2, shk_3, shk_4, shk_5, shk_6, shk_7, shk_8, shk_9, shk_10, shk_11, shk_12, shk_13, shk_14, shk_15, shk_16, shk_17, shk_18, shk_19, shk_20, shk_21, shk_22, shk_23, shk_24, shk_25, shk_26, shk_27, shk_28, shk_29, shk_30, shk_31, shk_32, shk_33, shk_34, shk_35, shk_36, shk_37, shk_38, shk_39, shk_40, shk_41, shk_42, shk_43, shk_44, shk_45, shk_46, shk_47, shk_48, shk_49, shk_50, shk_51, shk_52, shk_53, shk_54, shk_55, shk_56, shk_57, shk_58, shk_59, shk_60, shk_61, shk_62, shk_63, shk_64, shk_65, shk_66, shk_67, shk_68, shk_69, shk_70, shk_71, shk_72, shk_73, shk_74, shk_75, shk_76, shk_77, shk_78, shk_79, shk_80, shk_81, shk_82, shk_83, shk_84, nl_i, nl_r, nl_f, cat_i, cat_r, sk_0, sk_1, sk_2, sk_3, sk_4, tl_some, tl_none, bit0, bit1, bit_b2, b2_eq0, isB_1, isB_2, isA_0, isA_1, pr_0_0, pr_0_1, pr_0_2, pr_0_3, pr_0_4, pr_0_5, pr_0_6, pr_0_7, pr_0_8, pr_0_9, pr_0_10, pr_0_11, pr_1_0, pr_1_1, pr_1_2, pr_2_0, pr_2_1, pr_2_2, pr_2_3, pr_3_0, pr_3_1, pr_4_0, pr_4_1, pr_4_2, pr_4_3, pr_4_4, pr_4_5, pr_4_6, pr_4_7, pr_4_8, pr_5_0, pr_5_1, pr_6_0, pr_6_1, pr_7_0, pr_8_0, pr_8_1, pr_8_2, pr_9_0, pr_9_1, pr_10_0, pr_10_1, pr_10_2, pr_11_0, pr_11_1, pr_11_2, pr_11_3, pr_11_4, pr_12_0, pr_12_1, pr_12_2, pr_12_3, pr_12_4, pr_50_0, pr_50_1, pr_50_2, pr_50_3, pr_50_4, pr_50_5, pr_50_9, pr_50_10, pr_50_11, pr_50_12, pr_50_13, pr_50_14, pr_50_15, pr_50_16, pr_50_17, pr_50_18, pr_50_21, pr_50_22, pr_50_32, pr_50_33, pr_50_34, pr_50_35, pr_50_36, pr_50_37, pr_50_38, pr_50_43, pr_50_46, pr_50_47, pr_50_48, pr_50_50, pr_50_51, pr_50_52, pr_50_53, pr_50_54, up2_at, Nat.reduceEqDiff, ↓reduceIte, if_true, if_false, sX9_isWord_5, sX9_isWord_7, sX9_isWord_10, sX9_isWord_11, sX9_isWord_13, sX9_isWord_14, sX9_isWord_16, sX9_isWord_28, c1, nI_add, q']
      exact fin 32 (by omega) (by unfold padW; rw [if_neg q])
end K35
