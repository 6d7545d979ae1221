section K17
variable {d k m n c t : Nat} {x y z u : Int32} {M M' : Mt} {N : Nt} {b : Bool} {Q : Qt} {lp : List Nat}
theorem snAt_snoc {fr to dy : Nat → Int32} {s : Int32 × Int32} {l : List Nat} {p : Nat} : snAt fr to dy s (l ++ [p]) = if fr p = (snAt fr to dy s l).1 then (to p, dy p) else snAt fr to dy s l := by
  unfold snAt
  rw [List.foldl_append]
  rfl
theorem hAt_snoc {fr to : Nat → Int32} {h : Int32} {l : List Nat} {p : Nat} : hAt fr to h (l ++ [p]) = if fr p = hAt fr to h l then to p else hAt fr to h l := by
  unfold hAt
  rw [List.foldl_append]
  rfl
/-- what the reference's look needs of its line -/
def LineOk (M : Mt) (ln : List Nat) (y : Int32) (h0 : Int32) : Prop := ln.length ≤ 60 ∧ ln.Nodup ∧ (∀ q ∈ ln, q < 60) ∧ M 50 20 = nI ln.length ∧ (∀ j, j < ln.length → M 65 j = nI (ln.getD j 0)) ∧ (∀ j, j < ln.length → M 66 (ln.getD j 0) = b2 (¬ M 58 (ln.getD j 0) = hAt (M 58) (M 59) h0 (ln.take j))) ∧ ∀ q ∈ ln, (M 60 q).toInt ≤ y.toInt
set_option maxHeartbeats 8000000 in
theorem lX12_lookB {ln : List Nat} {h0 came now : Int32} {a4 : Value} {j T p : Nat} (hL : LineOk M ln y h0) (hj : j < ln.length) (ej : ln.getD j 0 = p)
    (hq : ∀ a10, Wp mX12_look d 173 [.ref (50 : Nat), .int x, .int y, .int (nI p), a4, .int now, .int came, .int (nI T), .int 1, .int (nI ln.length), a10] [] M N (pr b) Q) :
    ∀ (r i a : Nat) (a10 : Value), i + r = ln.length → j < i → a + cntP (M 58) (M 59) (hAt (M 58) (M 59) h0 (ln.take i)) (ln.drop i) = T →
      Wp mX12_look d 65 [.ref (50 : Nat), .int x, .int y, .int (nI p), a4, .int now, .int came, .int (nI a), .int 1, .int (nI i), a10] [] M N (pr b) Q := by
  obtain ⟨h60, hnd, hlt, h20, h65, h66, hday⟩ := hL
  intro r
  induction r with
  | zero =>
    intro i a a10 hi hji ha
    have e : i = ln.length := by omega
    rw [e, List.drop_of_length_le (Nat.le_refl _)] at ha
    have ha' : a = T := by simpa [cntP] using ha
    subst ha'
    subst e
    rw [sX12_look_65]
    simp only [shk_0, shk_1, shk_2, shk_3, shk_4, shk_5, shk_6, shk_7, shk_8, shk_9, shk_10, shk_11, shk_12, shk_13, shk_14, shk_15, shk_16, shk_17, shk_18, shk_19, shk_20, shk_21, shk_22, shk_23, shk_24, shk_25, shk_26, shk_27, shk_28, shk_29, shk_30, shk_31, shk_32, shk_33, shk_34, shk_35, shk_36, shk_37, shk_38, shk_39, shk_40, shk_41, shk_42, shk_43, shk_44, shk_45, shk_46, shk_47, shk_48, shk_49, shk_50, shk_51, shk_52, shk_53, shk_54, shk_55, shk_56, shk_57, shk_58, shk_59, shk_60, shk_61, shk_62, shk_63, shk_64, shk_65, shk_66, shk_67, shk_68, shk_69, shk_70, shk_71, shk_72, shk_73, shk_74, shk_75, shk_76, shk_77, shk_78, shk_79, shk_80, shk_81, shk_82, shk_83, shk_84, nl_i, nl_r, nl_f, cat_i, cat_r, sk_0, sk_1, sk_2, sk_3, sk_4, tl_some, tl_none, bit0, bit1, bit_b2, b2_eq0, isB_1, isB_2, isA_0, isA_1, pr_0_0, pr_0_1, pr_0_2, pr_0_3, pr_0_4, pr_0_5, pr_0_6, pr_0_7, pr_0_8, pr_0_9, pr_0_10, pr_0_11, pr_1_0, pr_1_1, pr_1_2, pr_2_0, pr_2_1, pr_2_2, pr_2_3, pr_3_0, pr_3_1, pr_4_0, pr_4_1, pr_4_2, pr_4_3, pr_4_4, pr_4_5, pr_4_6, pr_4_7, pr_4_8, pr_5_0, pr_5_1, pr_6_0, pr_6_1, pr_7_0, pr_8_0, pr_8_1, pr_8_2, pr_9_0, pr_9_1, pr_10_0, pr_10_1, pr_10_2, pr_11_0, pr_11_1, pr_11_2, pr_11_3, pr_11_4, pr_12_0, pr_12_1, pr_12_2, pr_12_3, pr_12_4, pr_50_0, pr_50_1, pr_50_2, pr_50_3, pr_50_4, pr_50_5, pr_50_9, pr_50_10, pr_50_11, pr_50_12, pr_50_13, pr_50_14, pr_50_15, pr_50_16, pr_50_17, pr_50_18, pr_50_21, pr_50_22, pr_50_32, pr_50_33, pr_50_34, pr_50_35, pr_50_36, pr_50_37, pr_50_38, pr_50_43, pr_50_46, pr_50_47, pr_50_48, pr_50_50, pr_50_51, pr_50_52, pr_50_53, pr_50_54, up2_at, Nat.reduceEqDiff, ↓reduceIte, if_true, if_false, sX12_look_67, sX12_look_68, sX12_look_71, h20, Int32.le_refl]
    exact hq a10
  | succ r ih =>
    intro i a a10 hi hji ha
    have c1 : ¬ nI ln.length ≤ nI i := nI_ge (by omega) (by omega)
    have v1 : vp_in (nI i) 60 := vp_in_nI (by omega) (by omega)
    have l1 := cl_nI (show i < 2 ^ 31 by omega)
    have e65 := h65 i (by omega)
    have e66 := h66 i (by omega)
    have hp := hlt _ (getD_mem (l := ln) (j := i) (by omega))
    have hdy := hday _ (getD_mem (l := ln) (j := i) (by omega))
    have hd : ln.drop i = ln.getD i 0 :: ln.drop (i + 1) := by
      rw [List.drop_eq_getElem_cons (by omega), List.getD_eq_getElem?_getD, List.getElem?_eq_getElem (by omega)]; rfl
    have ht := take_snoc (l := ln) (i := i) (by omega)
    have hne : ¬ ln.getD i 0 = p := fun e => by
      have := getD_inj hnd (show i < ln.length by omega) hj (e.trans ej.symm)
      omega
    have hpp := hlt _ (getD_mem hj)
    rw [ej] at hpp
    have hne' : ¬ nI (ln.getD i 0) = nI p := fun e => hne ((nI_eq (by omega) (by omega)).mp e)
    rw [hd, cntP] at ha
    have v2 : vp_in (nI (ln.getD i 0)) 60 := vp_in_nI (by omega) (by omega)
    have l2 := cl_nI (show ln.getD i 0 < 2 ^ 31 by omega)
    have g1 : ¬ y < M 60 (ln.getD i 0) := by rw [toI_lt]; omega
    rw [sX12_look_65]
    simp only [shk_0, shk_1, shk_2, shk_3, shk_4, shk_5, shk_6, shk_7, shk_8, shk_9, shk_10, shk_11, shk_12, shk_13, shk_14, shk_15, shk_16, shk_17, shk_18, shk_19, shk_20, shk_21, shk_22, shk_23, shk_24, shk_25, shk_26, shk_27, shk_28, shk_29, shk_30, shk_31, shk_32, shk_33, shk_34, shk_35, shk_36, shk_37, shk_38, shk_39, shk_40, shk_41, shk_42, shk_43, shk_44, shk_45, shk_46, shk_47, shk_48, shk_49, shk_50, shk_51, shk_52, shk_53, shk_54, shk_55, shk_56, shk_57, shk_58, shk_59, shk_60, shk_61, shk_62, shk_63, shk_64, shk_65, shk_66, shk_67, shk_68, shk_69, shk_70, shk_71, shk_72, shk_73, shk_74, shk_75, shk_76, shk_77, shk_78, shk_79, shk_80, shk_81, shk_82, shk_83, shk_84, nl_i, nl_r, nl_f, cat_i, cat_r, sk_0, sk_1, sk_2, sk_3, sk_4, tl_some, tl_none, bit0, bit1, bit_b2, b2_eq0, isB_1, isB_2, isA_0, isA_1, pr_0_0, pr_0_1, pr_0_2, pr_0_3, pr_0_4, pr_0_5, pr_0_6, pr_0_7, pr_0_8, pr_0_9, pr_0_10, pr_0_11, pr_1_0, pr_1_1, pr_1_2, pr_2_0, pr_2_1, pr_2_2, pr_2_3, pr_3_0, pr_3_1, pr_4_0, pr_4_1, pr_4_2, pr_4_3, pr_4_4, pr_4_5, pr_4_6, pr_4_7, pr_4_8, pr_5_0, pr_5_1, pr_6_0, pr_6_1, pr_7_0, pr_8_0, pr_8_1, pr_8_2, pr_9_0, pr_9_1, pr_10_0, pr_10_1, pr_10_2, pr_11_0, pr_11_1, pr_11_2, pr_11_3, pr_11_4, pr_12_0, pr_12_1, pr_12_2, pr_12_3, pr_12_4, pr_50_0, pr_50_1, pr_50_2, pr_50_3, pr_50_4, pr_50_5, pr_50_9, pr_50_10, pr_50_11, pr_50_12, pr_50_13, pr_50_14, pr_50_15, pr_50_16, pr_50_17, pr_50_18, pr_50_21, pr_50_22, pr_50_32, pr_50_33, pr_50_34, pr_50_35, pr_50_36, pr_50_37, pr_50_38, pr_50_43, pr_50_46, pr_50_47, pr_50_48, pr_50_50, pr_50_51, pr_50_52, pr_50_53, pr_50_54, up2_at, Nat.reduceEqDiff, ↓reduceIte, if_true, if_false, sX12_look_67, sX12_look_68, sX12_look_71, sX12_look_74, sX12_look_75, sX12_look_78, sX12_look_80, sX12_look_81, sX12_look_83, sX12_look_85, sX12_look_86, sX12_look_95, sX12_look_97, sX12_look_138, sX12_look_140, sX12_look_143, sX12_look_144, sX12_look_147, sX12_look_149, sX12_look_150, sX12_look_153, sX12_look_154, sX12_look_157, sX12_look_159, sX12_look_160, sX12_look_161, sX12_look_164, sX12_look_167, sX12_look_170, h20, c1, v1, l1, e65, e66, v2, l2, hne', g1, true_and, nI_1, show ¬ (1 : Int32) = 0 by decide]
    by_cases q : M 58 (ln.getD i 0) = hAt (M 58) (M 59) h0 (ln.take i)
    · simp only [q, not_true, not_false_iff, b2_f, if_true, shk_0, shk_1, shk_2, shk_3, shk_4, shk_5, shk_6, shk_7, shk_8, shk_9, shk_10, shk_11, shk_12, shk_13, shk_14, shk_15, shk_16, shk_17, shk_18, shk_19, shk_20, shk_21, shk_22, shk_23, shk_24, shk_25, shk_26, shk_27, shk_28, shk_29, shk_30, shk_31, shk_32, shk_33, shk_34, shk_35, shk_36, shk_37, shk_38, shk_39, shk_40, shk_41, shk_42, shk_43, shk_44, shk_45, shk_46, shk_47, shk_48, shk_49, shk_50, shk_51, shk_52, shk_53, shk_54, shk_55, shk_56, shk_57, shk_58, shk_59, shk_60, shk_61, shk_62, shk_63, shk_64, shk_65, shk_66, shk_67, shk_68, shk_69, shk_70, shk_71, shk_72, shk_73, shk_74, shk_75, shk_76, shk_77, shk_78, shk_79, shk_80, shk_81, shk_82, shk_83, shk_84, nl_i, nl_r, nl_f, cat_i, cat_r, sk_0, sk_1, sk_2, sk_3, sk_4, tl_some, tl_none, bit0, bit1, bit_b2, b2_eq0, isB_1, isB_2, isA_0, isA_1, pr_0_0, pr_0_1, pr_0_2, pr_0_3, pr_0_4, pr_0_5, pr_0_6, pr_0_7, pr_0_8, pr_0_9, pr_0_10, pr_0_11, pr_1_0, pr_1_1, pr_1_2, pr_2_0, pr_2_1, pr_2_2, pr_2_3, pr_3_0, pr_3_1, pr_4_0, pr_4_1, pr_4_2, pr_4_3, pr_4_4, pr_4_5, pr_4_6, pr_4_7, pr_4_8, pr_5_0, pr_5_1, pr_6_0, pr_6_1, pr_7_0, pr_8_0, pr_8_1, pr_8_2, pr_9_0, pr_9_1, pr_10_0, pr_10_1, pr_10_2, pr_11_0, pr_11_1, pr_11_2, pr_11_3, pr_11_4, pr_12_0, pr_12_1, pr_12_2, pr_12_3, pr_12_4, pr_50_0, pr_50_1, pr_50_2, pr_50_3, pr_50_4, pr_50_5, pr_50_9, pr_50_10, pr_50_11, pr_50_12, pr_50_13, pr_50_14, pr_50_15, pr_50_16, pr_50_17, pr_50_18, pr_50_21, pr_50_22, pr_50_32, pr_50_33, pr_50_34, pr_50_35, pr_50_36, pr_50_37, pr_50_38, pr_50_43, pr_50_46, pr_50_47, pr_50_48, pr_50_50, pr_50_51, pr_50_52, pr_50_53, pr_50_54, up2_at, Nat.reduceEqDiff, ↓reduceIte, if_true, if_false, sX12_look_153, sX12_look_154, sX12_look_157, sX12_look_159, sX12_look_160, sX12_look_161, sX12_look_164, sX12_look_167, sX12_look_170, nI_1]
      refine ih (i + 1) (a + 1) _ (by omega) (by omega) ?_
      rw [ht, hAt_snoc, if_pos q]
      rw [if_pos q] at ha
      omega
    · simp only [q, not_false_iff, not_true, b2_t, if_false, shk_0, shk_1, shk_2, shk_3, shk_4, shk_5, shk_6, shk_7, shk_8, shk_9, shk_10, shk_11, shk_12, shk_13, shk_14, shk_15, shk_16, shk_17, shk_18, shk_19, shk_20, shk_21, shk_22, shk_23, shk_24, shk_25, shk_26, shk_27, shk_28, shk_29, shk_30, shk_31, shk_32, shk_33, shk_34, shk_35, shk_36, shk_37, shk_38, shk_39, shk_40, shk_41, shk_42, shk_43, shk_44, shk_45, shk_46, shk_47, shk_48, shk_49, shk_50, shk_51, shk_52, shk_53, shk_54, shk_55, shk_56, shk_57, shk_58, shk_59, shk_60, shk_61, shk_62, shk_63, shk_64, shk_65, shk_66, shk_67, shk_68, shk_69, shk_70, shk_71, shk_72, shk_73, shk_74, shk_75, shk_76, shk_77, shk_78, shk_79, shk_80, shk_81, shk_82, shk_83, shk_84, nl_i, nl_r, nl_f, cat_i, cat_r, sk_0, sk_1, sk_2, sk_3, sk_4, tl_some, tl_none, bit0, bit1, bit_b2, b2_eq0, isB_1, isB_2, isA_0, isA_1, pr_0_0, pr_0_1, pr_0_2, pr_0_3, pr_0_4, pr_0_5, pr_0_6, pr_0_7, pr_0_8, pr_0_9, pr_0_10, pr_0_11, pr_1_0, pr_1_1, pr_1_2, pr_2_0, pr_2_1, pr_2_2, pr_2_3, pr_3_0, pr_3_1, pr_4_0, pr_4_1, pr_4_2, pr_4_3, pr_4_4, pr_4_5, pr_4_6, pr_4_7, pr_4_8, pr_5_0, pr_5_1, pr_6_0, pr_6_1, pr_7_0, pr_8_0, pr_8_1, pr_8_2, pr_9_0, pr_9_1, pr_10_0, pr_10_1, pr_10_2, pr_11_0, pr_11_1, pr_11_2, pr_11_3, pr_11_4, pr_12_0, pr_12_1, pr_12_2, pr_12_3, pr_12_4, pr_50_0, pr_50_1, pr_50_2, pr_50_3, pr_50_4, pr_50_5, pr_50_9, pr_50_10, pr_50_11, pr_50_12, pr_50_13, pr_50_14, pr_50_15, pr_50_16, pr_50_17, pr_50_18, pr_50_21, pr_50_22, pr_50_32, pr_50_33, pr_50_34, pr_50_35, pr_50_36, pr_50_37, pr_50_38, pr_50_43, pr_50_46, pr_50_47, pr_50_48, pr_50_50, pr_50_51, pr_50_52, pr_50_53, pr_50_54, up2_at, Nat.reduceEqDiff, ↓reduceIte, if_true, if_false, sX12_look_167, sX12_look_170, nI_1, show ¬ (1 : Int32) = 0 by decide]
      refine ih (i + 1) a _ (by omega) (by omega) ?_
      rw [ht, hAt_snoc, if_neg q]
      rw [if_neg q] at ha
      exact ha
set_option maxHeartbeats 8000000 in
theorem lX12_lookA {ln : List Nat} {h0 now : Int32} {a4 : Value} {j p : Nat} (hL : LineOk M ln y h0) (hj : j < ln.length) (ej : ln.getD j 0 = p) (hf : M 58 p = hAt (M 58) (M 59) h0 (ln.take j))
    (hq : ∀ a10, Wp mX12_look d 173 [.ref (50 : Nat), .int x, .int y, .int (nI p), a4, .int now, .int (snAt (M 58) (M 59) (M 60) (h0, 0) (ln.take j)).2, .int (nI (cntP (M 58) (M 59) (M 59 p) (ln.drop (j + 1)))), .int 1, .int (nI ln.length), a10] [] M N (pr b) Q) :
    ∀ (r i : Nat) (came : Int32) (a10 : Value), i + r = j → (hAt (M 58) (M 59) h0 (ln.take i) = M 58 p → came = (snAt (M 58) (M 59) (M 60) (h0, 0) (ln.take i)).2) →
      Wp mX12_look d 65 [.ref (50 : Nat), .int x, .int y, .int (nI p), a4, .int now, .int came, .int 0, .int 0, .int (nI i), a10] [] M N (pr b) Q := by
  obtain ⟨h60, hnd, hlt, h20, h65, h66, hday⟩ := id hL
  have hpp := hlt _ (getD_mem hj)
  rw [ej] at hpp
  intro r
  induction r with
  | zero =>
    intro i came a10 hi hcame
    have e : i = j := by omega
    subst e
    have hc := hcame hf.symm
    have c1 : ¬ nI ln.length ≤ nI i := nI_ge (by omega) (by omega)
    have v1 : vp_in (nI i) 60 := vp_in_nI (by omega) (by omega)
    have l1 := cl_nI (show i < 2 ^ 31 by omega)
    have e65 := h65 i (by omega)
    rw [ej] at e65
    rw [sX12_look_65]
    simp only [shk_0, shk_1, shk_2, shk_3, shk_4, shk_5, shk_6, shk_7, shk_8, shk_9, shk_10, shk_11, shk_12, shk_13, shk_14, shk_15, shk_16, shk_17, shk_18, shk_19, shk_20, shk_21, shk_22, shk_23, shk_24, shk_25, shk_26, shk_27, shk_28, shk_29, shk_30, shk_31, shk_32, shk_33, shk_34, shk_35, shk_36, shk_37, shk_38, shk_39, shk_40, shk_41, shk_42, shk_43, shk_44, shk_45, shk_46, shk_47, shk_48, shk_49, shk_50, shk_51, shk_52, shk_53, shk_54, shk_55, shk_56, shk_57, shk_58, shk_59, shk_60, shk_61, shk_62, shk_63, shk_64, shk_65, shk_66, shk_67, shk_68, shk_69, shk_70, shk_71, shk_72, shk_73, shk_74, shk_75, shk_76, shk_77, shk_78, shk_79, shk_80, shk_81, shk_82, shk_83, shk_84, nl_i, nl_r, nl_f, cat_i, cat_r, sk_0, sk_1, sk_2, sk_3, sk_4, tl_some, tl_none, bit0, bit1, bit_b2, b2_eq0, isB_1, isB_2, isA_0, isA_1, pr_0_0, pr_0_1, pr_0_2, pr_0_3, pr_0_4, pr_0_5, pr_0_6, pr_0_7, pr_0_8, pr_0_9, pr_0_10, pr_0_11, pr_1_0, pr_1_1, pr_1_2, pr_2_0, pr_2_1, pr_2_2, pr_2_3, pr_3_0, pr_3_1, pr_4_0, pr_4_1, pr_4_2, pr_4_3, pr_4_4, pr_4_5, pr_4_6, pr_4_7, pr_4_8, pr_5_0, pr_5_1, pr_6_0, pr_6_1, pr_7_0, pr_8_0, pr_8_1, pr_8_2, pr_9_0, pr_9_1, pr_10_0, pr_10_1, pr_10_2, pr_11_0, pr_11_1, pr_11_2, pr_11_3, pr_11_4, pr_12_0, pr_12_1, pr_12_2, pr_12_3, pr_12_4, pr_50_0, pr_50_1, pr_50_2, pr_50_3, pr_50_4, pr_50_5, pr_50_9, pr_50_10, pr_50_11, pr_50_12, pr_50_13, pr_50_14, pr_50_15, pr_50_16, pr_50_17, pr_50_18, pr_50_21, pr_50_22, pr_50_32, pr_50_33, pr_50_34, pr_50_35, pr_50_36, pr_50_37, pr_50_38, pr_50_43, pr_50_46, pr_50_47, pr_50_48, pr_50_50, pr_50_51, pr_50_52, pr_50_53, pr_50_54, up2_at, Nat.reduceEqDiff, ↓reduceIte, if_true, if_false, sX12_look_67, sX12_look_68, sX12_look_71, sX12_look_74, sX12_look_75, sX12_look_78, sX12_look_80, sX12_look_81, sX12_look_83, sX12_look_85, sX12_look_86, sX12_look_89, sX12_look_90, sX12_look_92, sX12_look_167, sX12_look_170, h20, c1, v1, l1, e65, true_and, nI_1]
    have ht := take_snoc (l := ln) (i := i) (by omega)
    have hh : hAt (M 58) (M 59) h0 (ln.take (i + 1)) = M 59 p := by rw [ht, hAt_snoc, ej, if_pos hf]
    refine lX12_lookB (T := cntP (M 58) (M 59) (M 59 p) (ln.drop (i + 1))) (came := came) hL hj ej (fun a10 => by rw [hc]; exact hq a10) (ln.length - (i + 1)) (i + 1) 0 _ (by omega) (by omega) (by rw [hh]; omega)
  | succ r ih =>
    intro i came a10 hi hcame
    have c1 : ¬ nI ln.length ≤ nI i := nI_ge (by omega) (by omega)
    have v1 : vp_in (nI i) 60 := vp_in_nI (by omega) (by omega)
    have l1 := cl_nI (show i < 2 ^ 31 by omega)
    have e65 := h65 i (by omega)
    have e66 := h66 i (by omega)
    have hp := hlt _ (getD_mem (l := ln) (j := i) (by omega))
    have ht := take_snoc (l := ln) (i := i) (by omega)
    have hne : ¬ ln.getD i 0 = p := fun e => by
      have := getD_inj hnd (show i < ln.length by omega) hj (e.trans ej.symm)
      omega
    have hne' : ¬ nI (ln.getD i 0) = nI p := fun e => hne ((nI_eq (by omega) (by omega)).mp e)
    have v2 : vp_in (nI (ln.getD i 0)) 60 := vp_in_nI (by omega) (by omega)
    have l2 := cl_nI (show ln.getD i 0 < 2 ^ 31 by omega)
    have v3 : vp_in (nI p) 60 := vp_in_nI (by omega) (by omega)
    have l3 := cl_nI (show p < 2 ^ 31 by omega)
    rw [sX12_look_65]
    simp only [shk_0, shk_1, shk_2, shk_3, shk_4, shk_5, shk_6, shk_7, shk_8, shk_9, shk_10, shk_11, shk_12, shk_13, shk_14, shk_15, shk_16, shk_17, shk_18, shk_19, shk_20, shk_21, shk_22, shk_23, shk_24, shk_25, shk_26, shk_27, shk_28, shk_29, shk_30, shk_31, shk_32, shk_33, shk_34, shk_35, shk_36, shk_37, shk_38, shk_39, shk_40, shk_41, shk_42, shk_43, shk_44, shk_45, shk_46, shk_47, shk_48, shk_49, shk_50, shk_51, shk_52, shk_53, shk_54, shk_55, shk_56, shk_57, shk_58, shk_59, shk_60, shk_61, shk_62, shk_63, shk_64, shk_65, shk_66, shk_67, shk_68, shk_69, shk_70, shk_71, shk_72, shk_73, shk_74, shk_75, shk_76, shk_77, shk_78, shk_79, shk_80, shk_81, shk_82, shk_83, shk_84, nl_i, nl_r, nl_f, cat_i, cat_r, sk_0, sk_1, sk_2, sk_3, sk_4, tl_some, tl_none, bit0, bit1, bit_b2, b2_eq0, isB_1, isB_2, isA_0, isA_1, pr_0_0, pr_0_1, pr_0_2, pr_0_3, pr_0_4, pr_0_5, pr_0_6, pr_0_7, pr_0_8, pr_0_9, pr_0_10, pr_0_11, pr_1_0, pr_1_1, pr_1_2, pr_2_0, pr_2_1, pr_2_2, pr_2_3, pr_3_0, pr_3_1, pr_4_0, pr_4_1, pr_4_2, pr_4_3, pr_4_4, pr_4_5, pr_4_6, pr_4_7, pr_4_8, pr_5_0, pr_5_1, pr_6_0, pr_6_1, pr_7_0, pr_8_0, pr_8_1, pr_8_2, pr_9_0, pr_9_1, pr_10_0, pr_10_1, pr_10_2, pr_11_0, pr_11_1, pr_11_2, pr_11_3, pr_11_4, pr_12_0, pr_12_1, pr_12_2, pr_12_3, pr_12_4, pr_50_0, pr_50_1, pr_50_2, pr_50_3, pr_50_4, pr_50_5, pr_50_9, pr_50_10, pr_50_11, pr_50_12, pr_50_13, pr_50_14, pr_50_15, pr_50_16, pr_50_17, pr_50_18, pr_50_21, pr_50_22, pr_50_32, pr_50_33, pr_50_34, pr_50_35, pr_50_36, pr_50_37, pr_50_38, pr_50_43, pr_50_46, pr_50_47, pr_50_48, pr_50_50, pr_50_51, pr_50_52, pr_50_53, pr_50_54, up2_at, Nat.reduceEqDiff, ↓reduceIte, if_true, if_false, sX12_look_67, sX12_look_68, sX12_look_71, sX12_look_74, sX12_look_75, sX12_look_78, sX12_look_80, sX12_look_81, sX12_look_83, sX12_look_85, sX12_look_86, sX12_look_95, sX12_look_97, sX12_look_100, sX12_look_101, sX12_look_104, sX12_look_106, sX12_look_107, sX12_look_110, sX12_look_111, sX12_look_114, sX12_look_116, sX12_look_117, sX12_look_118, sX12_look_121, sX12_look_122, sX12_look_123, sX12_look_126, sX12_look_127, sX12_look_130, sX12_look_132, sX12_look_133, sX12_look_135, sX12_look_138, sX12_look_140, sX12_look_167, sX12_look_170, h20, c1, v1, l1, e65, e66, v2, l2, v3, l3, hne', true_and, nI_1]
    by_cases q : M 58 (ln.getD i 0) = hAt (M 58) (M 59) h0 (ln.take i)
    · by_cases q2 : M 59 (ln.getD i 0) = M 58 p
      · simp only [q, q2, not_true, not_false_iff, b2_f, if_true, shk_0, shk_1, shk_2, shk_3, shk_4, shk_5, shk_6, shk_7, shk_8, shk_9, shk_10, shk_11, shk_12, shk_13, shk_14, shk_15, shk_16, shk_17, shk_18, shk_19, shk_20, shk_21, shk_22, shk_23, shk_24, shk_25, shk_26, shk_27, shk_28, shk_29, shk_30, shk_31, shk_32, shk_33, shk_34, shk_35, shk_36, shk_37, shk_38, shk_39, shk_40, shk_41, shk_42, shk_43, shk_44, shk_45, shk_46, shk_47, shk_48, shk_49, shk_50, shk_51, shk_52, shk_53, shk_54, shk_55, shk_56, shk_57, shk_58, shk_59, shk_60, shk_61, shk_62, shk_63, shk_64, shk_65, shk_66, shk_67, shk_68, shk_69, shk_70, shk_71, shk_72, shk_73, shk_74, shk_75, shk_76, shk_77, shk_78, shk_79, shk_80, shk_81, shk_82, shk_83, shk_84, nl_i, nl_r, nl_f, cat_i, cat_r, sk_0, sk_1, sk_2, sk_3, sk_4, tl_some, tl_none, bit0, bit1, bit_b2, b2_eq0, isB_1, isB_2, isA_0, isA_1, pr_0_0, pr_0_1, pr_0_2, pr_0_3, pr_0_4, pr_0_5, pr_0_6, pr_0_7, pr_0_8, pr_0_9, pr_0_10, pr_0_11, pr_1_0, pr_1_1, pr_1_2, pr_2_0, pr_2_1, pr_2_2, pr_2_3, pr_3_0, pr_3_1, pr_4_0, pr_4_1, pr_4_2, pr_4_3, pr_4_4, pr_4_5, pr_4_6, pr_4_7, pr_4_8, pr_5_0, pr_5_1, pr_6_0, pr_6_1, pr_7_0, pr_8_0, pr_8_1, pr_8_2, pr_9_0, pr_9_1, pr_10_0, pr_10_1, pr_10_2, pr_11_0, pr_11_1, pr_11_2, pr_11_3, pr_11_4, pr_12_0, pr_12_1, pr_12_2, pr_12_3, pr_12_4, pr_50_0, pr_50_1, pr_50_2, pr_50_3, pr_50_4, pr_50_5, pr_50_9, pr_50_10, pr_50_11, pr_50_12, pr_50_13, pr_50_14, pr_50_15, pr_50_16, pr_50_17, pr_50_18, pr_50_21, pr_50_22, pr_50_32, pr_50_33, pr_50_34, pr_50_35, pr_50_36, pr_50_37, pr_50_38, pr_50_43, pr_50_46, pr_50_47, pr_50_48, pr_50_50, pr_50_51, pr_50_52, pr_50_53, pr_50_54, up2_at, Nat.reduceEqDiff, ↓reduceIte, if_true, if_false]
        refine ih (i + 1) _ _ (by omega) (fun _ => ?_)
        rw [ht, snAt_snoc, if_pos (by rw [snAt_1]; exact q)]
      · simp only [q, q2, not_true, not_false_iff, b2_f, if_true, if_false, shk_0, shk_1, shk_2, shk_3, shk_4, shk_5, shk_6, shk_7, shk_8, shk_9, shk_10, shk_11, shk_12, shk_13, shk_14, shk_15, shk_16, shk_17, shk_18, shk_19, shk_20, shk_21, shk_22, shk_23, shk_24, shk_25, shk_26, shk_27, shk_28, shk_29, shk_30, shk_31, shk_32, shk_33, shk_34, shk_35, shk_36, shk_37, shk_38, shk_39, shk_40, shk_41, shk_42, shk_43, shk_44, shk_45, shk_46, shk_47, shk_48, shk_49, shk_50, shk_51, shk_52, shk_53, shk_54, shk_55, shk_56, shk_57, shk_58, shk_59, shk_60, shk_61, shk_62, shk_63, shk_64, shk_65, shk_66, shk_67, shk_68, shk_69, shk_70, shk_71, shk_72, shk_73, shk_74, shk_75, shk_76, shk_77, shk_78, shk_79, shk_80, shk_81, shk_82, shk_83, shk_84, nl_i, nl_r, nl_f, cat_i, cat_r, sk_0, sk_1, sk_2, sk_3, sk_4, tl_some, tl_none, bit0, bit1, bit_b2, b2_eq0, isB_1, isB_2, isA_0, isA_1, pr_0_0, pr_0_1, pr_0_2, pr_0_3, pr_0_4, pr_0_5, pr_0_6, pr_0_7, pr_0_8, pr_0_9, pr_0_10, pr_0_11, pr_1_0, pr_1_1, pr_1_2, pr_2_0, pr_2_1, pr_2_2, pr_2_3, pr_3_0, pr_3_1, pr_4_0, pr_4_1, pr_4_2, pr_4_3, pr_4_4, pr_4_5, pr_4_6, pr_4_7, pr_4_8, pr_5_0, pr_5_1, pr_6_0, pr_6_1, pr_7_0, pr_8_0, pr_8_1, pr_8_2, pr_9_0, pr_9_1, pr_10_0, pr_10_1, pr_10_2, pr_11_0, pr_11_1, pr_11_2, pr_11_3, pr_11_4, pr_12_0, pr_12_1, pr_12_2, pr_12_3, pr_12_4, pr_50_0, pr_50_1, pr_50_2, pr_50_3, pr_50_4, pr_50_5, pr_50_9, pr_50_10, pr_50_11, pr_50_12, pr_50_13, pr_50_14, pr_50_15, pr_50_16, pr_50_17, pr_50_18, pr_50_21, pr_50_22, pr_50_32, pr_50_33, pr_50_34, pr_50_35, pr_50_36, pr_50_37, pr_50_38, pr_50_43, pr_50_46, pr_50_47, pr_50_48, pr_50_50, pr_50_51, pr_50_52, pr_50_53, pr_50_54, up2_at, Nat.reduceEqDiff, ↓reduceIte, if_true, if_false]
        refine ih (i + 1) _ _ (by omega) (fun h => absurd ?_ q2)
        rw [ht, hAt_snoc, if_pos q] at h
        exact h
    · simp only [q, not_false_iff, not_true, b2_t, if_false, shk_0, shk_1, shk_2, shk_3, shk_4, shk_5, shk_6, shk_7, shk_8, shk_9, shk_10, shk_11, shk_12, shk_13, shk_14, shk_15, shk_16, shk_17, shk_18, shk_19, shk_20, shk_21, shk_22, shk_23, shk_24, shk_25, shk_26, shk_27, shk_28, shk_29, shk_30, shk_31, shk_32, shk_33, shk_34, shk_35, shk_36, shk_37, shk_38, shk_39, shk_40, shk_41, shk_42, shk_43, shk_44, shk_45, shk_46, shk_47, shk_48, shk_49, shk_50, shk_51, shk_52, shk_53, shk_54, shk_55, shk_56, shk_57, shk_58, shk_59, shk_60, shk_61, shk_62, shk_63, shk_64, shk_65, shk_66, shk_67, shk_68, shk_69, shk_70, shk_71, shk_72, shk_73, shk_74, shk_75, shk_76, shk_77, shk_78, shk_79, shk_80, shk_81, shk_82, shk_83, shk_84, nl_i, nl_r, nl_f, cat_i, cat_r, sk_0, sk_1, sk_2, sk_3, sk_4, tl_some, tl_none, bit0, bit1, bit_b2, b2_eq0, isB_1, isB_2, isA_0, isA_1, pr_0_0, pr_0_1, pr_0_2, pr_0_3, pr_0_4, pr_0_5, pr_0_6, pr_0_7, pr_0_8, pr_0_9, pr_0_10, pr_0_11, pr_1_0, pr_1_1, pr_1_2, pr_2_0, pr_2_1, pr_2_2, pr_2_3, pr_3_0, pr_3_1, pr_4_0, pr_4_1, pr_4_2, pr_4_3, pr_4_4, pr_4_5, pr_4_6, pr_4_7, pr_4_8, pr_5_0, pr_5_1, pr_6_0, pr_6_1, pr_7_0, pr_8_0, pr_8_1, pr_8_2, pr_9_0, pr_9_1, pr_10_0, pr_10_1, pr_10_2, pr_11_0, pr_11_1, pr_11_2, pr_11_3, pr_11_4, pr_12_0, pr_12_1, pr_12_2, pr_12_3, pr_12_4, pr_50_0, pr_50_1, pr_50_2, pr_50_3, pr_50_4, pr_50_5, pr_50_9, pr_50_10, pr_50_11, pr_50_12, pr_50_13, pr_50_14, pr_50_15, pr_50_16, pr_50_17, pr_50_18, pr_50_21, pr_50_22, pr_50_32, pr_50_33, pr_50_34, pr_50_35, pr_50_36, pr_50_37, pr_50_38, pr_50_43, pr_50_46, pr_50_47, pr_50_48, pr_50_50, pr_50_51, pr_50_52, pr_50_53, pr_50_54, up2_at, Nat.reduceEqDiff, ↓reduceIte, if_true, if_false, show ¬ (1 : Int32) = 0 by decide]
      refine ih (i + 1) _ _ (by omega) (fun h => ?_)
      rw [ht, hAt_snoc, if_neg q] at h
      rw [ht, snAt_snoc, if_neg (by rw [snAt_1]; exact q)]
      exact hcame h
end K17
