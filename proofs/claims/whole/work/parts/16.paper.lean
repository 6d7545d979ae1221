section K7
variable {d k : Nat} {M : Mt} {N : Nt} {b : Bool} {Q : Qt}
/-- the order with a new one behind the first p -/
def insAt (l : List Nat) (p k : Nat) : List Nat := l.take p ++ k :: l.drop p
theorem insAt_get {l : List Nat} {p k j : Nat} (hp : p ≤ l.length) : (insAt l p k).getD j 0 = if j < p then l.getD j 0 else if j = p then k else l.getD (j - 1) 0 := by
  unfold insAt
  simp only [List.getD_eq_getElem?_getD]
  by_cases h1 : j < p
  · rw [if_pos h1, List.getElem?_append_left (by simp; omega), List.getElem?_take_of_lt h1]
  · rw [if_neg h1, List.getElem?_append_right (by simp; omega)]
    have hl : (l.take p).length = p := by simp; omega
    rw [hl]
    by_cases h2 : j = p
    · subst h2; simp
    · rw [if_neg h2]
      obtain ⟨q, hq⟩ : ∃ q, j - p = q + 1 := ⟨j - p - 1, by omega⟩
      rw [hq, List.getElem?_cons_succ, List.getElem?_drop]
      congr 2
      omega
theorem insAt_len {l : List Nat} {p k : Nat} (hp : p ≤ l.length) : (insAt l p k).length = l.length + 1 := by
  unfold insAt; simp; omega
theorem insAt_mem {l : List Nat} {p k x : Nat} : x ∈ insAt l p k ↔ x = k ∨ x ∈ l := by
  unfold insAt
  rw [List.mem_append, List.mem_cons]
  have : x ∈ l ↔ x ∈ l.take p ∨ x ∈ l.drop p := by rw [← List.mem_append, List.take_append_drop]
  rw [this]
  constructor
  · rintro (h | h | h)
    · exact Or.inr (Or.inl h)
    · exact Or.inl h
    · exact Or.inr (Or.inr h)
  · rintro (h | h | h)
    · exact Or.inr (Or.inl h)
    · exact Or.inl h
    · exact Or.inr (Or.inr h)
theorem insAt_nodup {l : List Nat} {p k : Nat} (h : l.Nodup) (hk : k ∉ l) : (insAt l p k).Nodup := by
  unfold insAt
  have h2 : (l.take p ++ l.drop p).Nodup := by rw [List.take_append_drop]; exact h
  rw [List.nodup_append] at h2 ⊢
  obtain ⟨a1, a2, a3⟩ := h2
  refine ⟨a1, ?_, ?_⟩
  · rw [List.nodup_cons]
    exact ⟨fun q => hk (List.mem_of_mem_drop q), a2⟩
  · intro x hx y hy
    rcases List.mem_cons.mp hy with rfl | hy
    · intro e; subst e; exact hk (List.mem_of_mem_take hx)
    · exact a3 x hx y hy
theorem insAt_pw {l : List Nat} {p k : Nat} {D : Nat → Int32} (h : l.Pairwise (pOrd D)) (h1 : ∀ x ∈ l.take p, pOrd D x k) (h2 : ∀ x ∈ l.drop p, pOrd D k x) : (insAt l p k).Pairwise (pOrd D) := by
  unfold insAt
  have h3 : (l.take p ++ l.drop p).Pairwise (pOrd D) := by rw [List.take_append_drop]; exact h
  rw [List.pairwise_append] at h3 ⊢
  obtain ⟨a1, a2, a3⟩ := h3
  refine ⟨a1, List.pairwise_cons.mpr ⟨fun x hx => h2 x hx, a2⟩, ?_⟩
  intro x hx y hy
  rcases List.mem_cons.mp hy with rfl | hy
  · exact h1 x hx
  · exact a3 x hx y hy
theorem getD_mem {l : List Nat} {j : Nat} (h : j < l.length) : l.getD j 0 ∈ l := by
  rw [List.getD_eq_getElem?_getD, List.getElem?_eq_getElem h]
  exact List.getElem_mem h
theorem nI_m1 (i : Nat) : nI (i + 1) + -1 = nI i := pk_m1 i
set_option maxHeartbeats 4000000 in
theorem lX3_put {l : List Nat} (hl : l.length = k) (hlt : ∀ x ∈ l, x < k) (hk : k < 60)
    (hq : ∀ p M', p ≤ k → (∀ o, ¬ o = 30 → M' o = M o) → (∀ j, j ≤ k → M' 30 j = nI ((insAt l p k).getD j 0)) → (∀ j, p ≤ j → j < k → (M 25 k).toInt < (M 25 (l.getD j 0)).toInt) → (∀ j, j + 1 = p → (M 25 (l.getD j 0)).toInt ≤ (M 25 k).toInt) → Q none M' N (pr b)) :
    ∀ i M', i ≤ k → (∀ o, ¬ o = 30 → M' o = M o) → (∀ j, j < i → M' 30 j = nI (l.getD j 0)) → (∀ j, i < j → j ≤ k → M' 30 j = nI (l.getD (j - 1) 0)) → (∀ j, i ≤ j → j < k → (M 25 k).toInt < (M 25 (l.getD j 0)).toInt) →
      Wp mX3_putInOrder d 4 [.ref (4 : Nat), .int (nI k), .int (nI i), .int (nI i)] [] M' N (pr b) Q := by
  have fin : ∀ i M', i ≤ k → (∀ o, ¬ o = 30 → M' o = M o) → (∀ j, j < i → M' 30 j = nI (l.getD j 0)) → (∀ j, i < j → j ≤ k → M' 30 j = nI (l.getD (j - 1) 0)) → (∀ j, i ≤ j → j < k → (M 25 k).toInt < (M 25 (l.getD j 0)).toInt) → (∀ j, j + 1 = i → (M 25 (l.getD j 0)).toInt ≤ (M 25 k).toInt) →
      Wp mX3_putInOrder d 54 [.ref (4 : Nat), .int (nI k), .int (nI i), .int (nI i)] [] M' N (pr b) Q := by
    intro i M' hi h1 h2 h3 h4 h5
    have v : vp_in (nI i) 60 := vp_in_nI (by omega) (by omega)
    have cl := cl_nI (show i < 2 ^ 31 by omega)
    simp only [shk_0, shk_1, shk_2, shk_3, shk_4, shk_5, shk_6, shk_7, shk_8, shk_9, shk_10, shk_11, shk_12, shk_13, shk_14, shk_15, shk_16, shk_17, shk_18, shk_19, shk_20, shk_21, shk_22, shk_23, shk_24, shk_25, shk_26, shk_27, shk_28, shk_29, shk_30, shk_31, shk_32, shk_33, shk_34, shk_35, shk_36, shk_37, shk_38, shk_39, shk_40, shk_41, shk_42, shk_43, shk_44, shk_45, shk_46, shk_47, shk_48, shk_49, shk_50, shk_51, shk_52, shk_53, shk_54, shk_55, shk_56, shk_57, shk_58, shk_59, shk_60, shk_61, shk_62, shk_63, shk_64, shk_65, shk_66, shk_67, shk_68, shk_69, shk_70, shk_71, shk_72, shk_73, shk_74, shk_75, shk_76, shk_77, shk_78, shk_79, shk_80, shk_81, shk_82, shk_83, shk_84, nl_i, nl_r, nl_f, cat_i, cat_r, sk_0, sk_1, sk_2, sk_3, sk_4, tl_some, tl_none, bit0, bit1, bit_b2, b2_eq0, isB_1, isB_2, isA_0, isA_1, pr_0_0, pr_0_1, pr_0_2, pr_0_3, pr_0_4, pr_0_5, pr_0_6, pr_0_7, pr_0_8, pr_0_9, pr_0_10, pr_0_11, pr_1_0, pr_1_1, pr_1_2, pr_2_0, pr_2_1, pr_2_2, pr_2_3, pr_3_0, pr_3_1, pr_4_0, pr_4_1, pr_4_2, pr_4_3, pr_4_4, pr_4_5, pr_4_6, pr_4_7, pr_4_8, pr_5_0, pr_5_1, pr_6_0, pr_6_1, pr_7_0, pr_8_0, pr_8_1, pr_8_2, pr_9_0, pr_9_1, pr_10_0, pr_10_1, pr_10_2, pr_11_0, pr_11_1, pr_11_2, pr_11_3, pr_11_4, pr_12_0, pr_12_1, pr_12_2, pr_12_3, pr_12_4, pr_50_0, pr_50_1, pr_50_2, pr_50_3, pr_50_4, pr_50_5, pr_50_9, pr_50_10, pr_50_11, pr_50_12, pr_50_13, pr_50_14, pr_50_15, pr_50_16, pr_50_17, pr_50_18, pr_50_21, pr_50_22, pr_50_32, pr_50_33, pr_50_34, pr_50_35, pr_50_36, pr_50_37, pr_50_38, pr_50_43, pr_50_46, pr_50_47, pr_50_48, pr_50_50, pr_50_51, pr_50_52, pr_50_53, pr_50_54, up2_at, Nat.reduceEqDiff, ↓reduceIte, if_true, if_false, sX3_putInOrder_0, sX3_putInOrder_1, sX3_putInOrder_2, sX3_putInOrder_3, sX3_putInOrder_5, sX3_putInOrder_8, sX3_putInOrder_9, sX3_putInOrder_12, sX3_putInOrder_13, sX3_putInOrder_16, sX3_putInOrder_17, sX3_putInOrder_18, sX3_putInOrder_19, sX3_putInOrder_20, sX3_putInOrder_21, sX3_putInOrder_22, sX3_putInOrder_25, sX3_putInOrder_26, sX3_putInOrder_27, sX3_putInOrder_30, sX3_putInOrder_31, sX3_putInOrder_34, sX3_putInOrder_35, sX3_putInOrder_36, sX3_putInOrder_39, sX3_putInOrder_40, sX3_putInOrder_41, sX3_putInOrder_42, sX3_putInOrder_43, sX3_putInOrder_44, sX3_putInOrder_45, sX3_putInOrder_46, sX3_putInOrder_47, sX3_putInOrder_48, sX3_putInOrder_51, sX3_putInOrder_54, sX3_putInOrder_55, sX3_putInOrder_58, sX3_putInOrder_59, sX3_putInOrder_60, sX3_putInOrder_61, v, cl, true_and]
    refine hq i _ hi (fun o ho => by rw [up2_ne o ho]; exact h1 o ho) (fun j hj => ?_) h4 h5
    rw [insAt_get (by omega), up2_at, if_pos rfl]
    by_cases e : j = i
    · rw [if_pos e, if_neg (by omega), if_pos e]
    · rw [if_neg e]
      by_cases e2 : j < i
      · rw [if_pos e2]; exact h2 j e2
      · rw [if_neg e2, if_neg e]; exact h3 j (by omega) hj
  intro i
  induction i with
  | zero =>
    intro M' hi h1 h2 h3 h4
    rw [sX3_putInOrder_4]
    simp only [shk_0, shk_1, shk_2, shk_3, shk_4, shk_5, shk_6, shk_7, shk_8, shk_9, shk_10, shk_11, shk_12, shk_13, shk_14, shk_15, shk_16, shk_17, shk_18, shk_19, shk_20, shk_21, shk_22, shk_23, shk_24, shk_25, shk_26, shk_27, shk_28, shk_29, shk_30, shk_31, shk_32, shk_33, shk_34, shk_35, shk_36, shk_37, shk_38, shk_39, shk_40, shk_41, shk_42, shk_43, shk_44, shk_45, shk_46, shk_47, shk_48, shk_49, shk_50, shk_51, shk_52, shk_53, shk_54, shk_55, shk_56, shk_57, shk_58, shk_59, shk_60, shk_61, shk_62, shk_63, shk_64, shk_65, shk_66, shk_67, shk_68, shk_69, shk_70, shk_71, shk_72, shk_73, shk_74, shk_75, shk_76, shk_77, shk_78, shk_79, shk_80, shk_81, shk_82, shk_83, shk_84, nl_i, nl_r, nl_f, cat_i, cat_r, sk_0, sk_1, sk_2, sk_3, sk_4, tl_some, tl_none, bit0, bit1, bit_b2, b2_eq0, isB_1, isB_2, isA_0, isA_1, pr_0_0, pr_0_1, pr_0_2, pr_0_3, pr_0_4, pr_0_5, pr_0_6, pr_0_7, pr_0_8, pr_0_9, pr_0_10, pr_0_11, pr_1_0, pr_1_1, pr_1_2, pr_2_0, pr_2_1, pr_2_2, pr_2_3, pr_3_0, pr_3_1, pr_4_0, pr_4_1, pr_4_2, pr_4_3, pr_4_4, pr_4_5, pr_4_6, pr_4_7, pr_4_8, pr_5_0, pr_5_1, pr_6_0, pr_6_1, pr_7_0, pr_8_0, pr_8_1, pr_8_2, pr_9_0, pr_9_1, pr_10_0, pr_10_1, pr_10_2, pr_11_0, pr_11_1, pr_11_2, pr_11_3, pr_11_4, pr_12_0, pr_12_1, pr_12_2, pr_12_3, pr_12_4, pr_50_0, pr_50_1, pr_50_2, pr_50_3, pr_50_4, pr_50_5, pr_50_9, pr_50_10, pr_50_11, pr_50_12, pr_50_13, pr_50_14, pr_50_15, pr_50_16, pr_50_17, pr_50_18, pr_50_21, pr_50_22, pr_50_32, pr_50_33, pr_50_34, pr_50_35, pr_50_36, pr_50_37, pr_50_38, pr_50_43, pr_50_46, pr_50_47, pr_50_48, pr_50_50, pr_50_51, pr_50_52, pr_50_53, pr_50_54, up2_at, Nat.reduceEqDiff, ↓reduceIte, if_true, if_false, sX3_putInOrder_5, show nI 0 ≤ 0 by decide]
    exact fin 0 M' hi h1 h2 h3 h4 (fun j hj => absurd hj (by omega))
  | succ i ih =>
    intro M' hi h1 h2 h3 h4
    have c1 : ¬ nI (i + 1) ≤ 0 := nI_nle (by omega) (by omega)
    have hm := hlt _ (getD_mem (l := l) (j := i) (by omega))
    have e30 := h2 i (by omega)
    have e25 := h1 25 (by decide)
    have v1 : vp_in (nI i) 60 := vp_in_nI (by omega) (by omega)
    have v2 : vp_in (nI (i + 1)) 60 := vp_in_nI (by omega) (by omega)
    have v3 : vp_in (nI (l.getD i 0)) 60 := vp_in_nI (by omega) (by omega)
    have v4 : vp_in (nI k) 60 := vp_in_nI (by omega) (by omega)
    have l1 := cl_nI (show i < 2 ^ 31 by omega)
    have l2 := cl_nI (show i + 1 < 2 ^ 31 by omega)
    have l3 := cl_nI (show l.getD i 0 < 2 ^ 31 by omega)
    have l4 := cl_nI (show k < 2 ^ 31 by omega)
    rw [sX3_putInOrder_4]
    simp only [shk_0, shk_1, shk_2, shk_3, shk_4, shk_5, shk_6, shk_7, shk_8, shk_9, shk_10, shk_11, shk_12, shk_13, shk_14, shk_15, shk_16, shk_17, shk_18, shk_19, shk_20, shk_21, shk_22, shk_23, shk_24, shk_25, shk_26, shk_27, shk_28, shk_29, shk_30, shk_31, shk_32, shk_33, shk_34, shk_35, shk_36, shk_37, shk_38, shk_39, shk_40, shk_41, shk_42, shk_43, shk_44, shk_45, shk_46, shk_47, shk_48, shk_49, shk_50, shk_51, shk_52, shk_53, shk_54, shk_55, shk_56, shk_57, shk_58, shk_59, shk_60, shk_61, shk_62, shk_63, shk_64, shk_65, shk_66, shk_67, shk_68, shk_69, shk_70, shk_71, shk_72, shk_73, shk_74, shk_75, shk_76, shk_77, shk_78, shk_79, shk_80, shk_81, shk_82, shk_83, shk_84, nl_i, nl_r, nl_f, cat_i, cat_r, sk_0, sk_1, sk_2, sk_3, sk_4, tl_some, tl_none, bit0, bit1, bit_b2, b2_eq0, isB_1, isB_2, isA_0, isA_1, pr_0_0, pr_0_1, pr_0_2, pr_0_3, pr_0_4, pr_0_5, pr_0_6, pr_0_7, pr_0_8, pr_0_9, pr_0_10, pr_0_11, pr_1_0, pr_1_1, pr_1_2, pr_2_0, pr_2_1, pr_2_2, pr_2_3, pr_3_0, pr_3_1, pr_4_0, pr_4_1, pr_4_2, pr_4_3, pr_4_4, pr_4_5, pr_4_6, pr_4_7, pr_4_8, pr_5_0, pr_5_1, pr_6_0, pr_6_1, pr_7_0, pr_8_0, pr_8_1, pr_8_2, pr_9_0, pr_9_1, pr_10_0, pr_10_1, pr_10_2, pr_11_0, pr_11_1, pr_11_2, pr_11_3, pr_11_4, pr_12_0, pr_12_1, pr_12_2, pr_12_3, pr_12_4, pr_50_0, pr_50_1, pr_50_2, pr_50_3, pr_50_4, pr_50_5, pr_50_9, pr_50_10, pr_50_11, pr_50_12, pr_50_13, pr_50_14, pr_50_15, pr_50_16, pr_50_17, pr_50_18, pr_50_21, pr_50_22, pr_50_32, pr_50_33, pr_50_34, pr_50_35, pr_50_36, pr_50_37, pr_50_38, pr_50_43, pr_50_46, pr_50_47, pr_50_48, pr_50_50, pr_50_51, pr_50_52, pr_50_53, pr_50_54, up2_at, Nat.reduceEqDiff, ↓reduceIte, if_true, if_false, sX3_putInOrder_0, sX3_putInOrder_1, sX3_putInOrder_2, sX3_putInOrder_3, sX3_putInOrder_5, sX3_putInOrder_8, sX3_putInOrder_9, sX3_putInOrder_12, sX3_putInOrder_13, sX3_putInOrder_16, sX3_putInOrder_17, sX3_putInOrder_18, sX3_putInOrder_19, sX3_putInOrder_20, sX3_putInOrder_21, sX3_putInOrder_22, sX3_putInOrder_25, sX3_putInOrder_26, sX3_putInOrder_27, sX3_putInOrder_30, sX3_putInOrder_31, sX3_putInOrder_34, sX3_putInOrder_35, sX3_putInOrder_36, sX3_putInOrder_39, sX3_putInOrder_40, sX3_putInOrder_41, sX3_putInOrder_42, sX3_putInOrder_43, sX3_putInOrder_44, sX3_putInOrder_45, sX3_putInOrder_46, sX3_putInOrder_47, sX3_putInOrder_48, sX3_putInOrder_51, c1, nI_pred, v1, v2, v3, v4, l1, l2, l3, l4, e30, e25, true_and, nI_m1]
    split
    · rename_i q
      refine fin (i + 1) M' hi h1 h2 h3 h4 (fun j hj => ?_)
      have : j = i := by omega
      subst this
      (first | omega | (simp only [toI_lt, toI_le, toI_eq, vp_in_iff, ti_m1, ti_0, ti_1, ti_2, ti_3, ti_4, ti_5, ti_6, ti_7, ti_8, ti_9, ti_10, ti_16, ti_24, ti_30, ti_32, ti_40, ti_60, ti_80, ti_99, ti_100, ti_365, ti_600, ti_1000, ti_10000, ti_36499, ti_1000000] at *; omega))
    · rename_i q
      refine ih _ (by omega) (fun o ho => by rw [up2_ne o ho]; exact h1 o ho) (fun j hj => ?_) (fun j hj1 hj2 => ?_) (fun j hj1 hj2 => ?_)
      · rw [up2_at, if_pos rfl, if_neg (by omega)]
        exact h2 j (by omega)
      · rw [up2_at, if_pos rfl]
        by_cases e : j = i + 1
        · rw [if_pos e, e]; rfl
        · rw [if_neg e]; exact h3 j (by omega) hj2
      · by_cases e : j = i
        · subst e
          rw [toI_le] at q
          omega
        · exact h4 j (by omega) hj2
end K7
