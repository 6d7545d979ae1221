section K10
variable {d k : Nat} {x y z u : Int32} {M : Mt} {N : Nt} {b : Bool} {Q : Qt}
theorem pOrd_irr {D : Nat → Int32} {a : Nat} : ¬ pOrd D a a := by unfold pOrd; omega
theorem pOrd_asym {D : Nat → Int32} {a c : Nat} (h1 : pOrd D a c) (h2 : pOrd D c a) : False := by unfold pOrd at h1 h2; omega
theorem sorted_uniq {D : Nat → Int32} : ∀ l1 l2 : List Nat, l1.Pairwise (pOrd D) → l2.Pairwise (pOrd D) → (∀ x, x ∈ l1 ↔ x ∈ l2) → l1 = l2
  | [], [], _, _, _ => rfl
  | [], c :: u, _, _, h => absurd ((h c).mpr List.mem_cons_self) List.not_mem_nil
  | a :: t, [], _, _, h => absurd ((h a).mp List.mem_cons_self) List.not_mem_nil
  | a :: t, c :: u, h1, h2, h => by
    rw [List.pairwise_cons] at h1 h2
    have e : a = c := by
      rcases List.mem_cons.mp ((h a).mp List.mem_cons_self) with e | e
      · exact e
      · rcases List.mem_cons.mp ((h c).mpr List.mem_cons_self) with e2 | e2
        · exact e2.symm
        · exact (pOrd_asym (h2.1 a e) (h1.1 c e2)).elim
    subst e
    congr 1
    refine sorted_uniq t u h1.2 h2.2 (fun x => ⟨fun hx => ?_, fun hx => ?_⟩)
    · rcases List.mem_cons.mp ((h x).mp (List.mem_cons_of_mem _ hx)) with e | e
      · subst e; exact (pOrd_irr (h1.1 x hx)).elim
      · exact e
    · rcases List.mem_cons.mp ((h x).mpr (List.mem_cons_of_mem _ hx)) with e | e
      · subst e; exact (pOrd_irr (h2.1 x hx)).elim
      · exact e
theorem nodup_of_pOrd {D : Nat → Int32} {l : List Nat} (h : l.Pairwise (pOrd D)) : l.Nodup := by
  refine List.Pairwise.imp ?_ h
  intro a c hac e
  subst e
  exact pOrd_irr hac
theorem len_le_of_lt : ∀ {k : Nat} {l : List Nat}, l.Nodup → (∀ x ∈ l, x < k) → l.length ≤ k
  | 0, [], _, _ => Nat.le_refl _
  | 0, a :: l, _, h => absurd (h a List.mem_cons_self) (by omega)
  | k + 1, l, hn, h => by
    by_cases e : k ∈ l
    · have h1 := len_le_of_lt (k := k) (l := l.erase k) (hn.erase k) (fun x hx => by
        have := (hn.mem_erase_iff).mp hx
        have := h x this.2
        omega)
      rw [List.length_erase_of_mem e] at h1
      omega
    · have := len_le_of_lt (k := k) (l := l) hn (fun x hx => by
        have := h x hx
        have : x ≠ k := fun q => e (q ▸ hx)
        omega)
      omega
theorem insAt_pw2 {D : Nat → Int32} {l : List Nat} {p q : Nat} (hpw : l.Pairwise (pOrd D)) (hlt : ∀ x ∈ l, x < q) (hp : p ≤ l.length) (h1 : ∀ j, p ≤ j → j < l.length → (D q).toInt < (D (l.getD j 0)).toInt) (h2 : ∀ j, j + 1 = p → (D (l.getD j 0)).toInt ≤ (D q).toInt) : (insAt l p q).Pairwise (pOrd D) := by
  refine insAt_pw hpw (fun x hx => ?_) (fun x hx => ?_)
  · have hk := hlt x (List.mem_of_mem_take hx)
    obtain ⟨i, hi, rfl⟩ := List.getElem_of_mem hx
    rw [List.length_take] at hi
    have ei : (l.take p)[i] = l.getD i 0 := by
      rw [List.getElem_take, List.getD_eq_getElem?_getD, List.getElem?_eq_getElem (by omega)]; rfl
    rw [ei] at hk ⊢
    have hle : (D (l.getD i 0)).toInt ≤ (D q).toInt := by
      by_cases e : i + 1 = p
      · exact h2 i e
      · have w := List.pairwise_iff_getElem.mp hpw i (p - 1) (by omega) (by omega) (by omega)
        have w2 := h2 (p - 1) (by omega)
        have e1 : l[i]'(by omega) = l.getD i 0 := by rw [List.getD_eq_getElem?_getD, List.getElem?_eq_getElem (by omega)]; rfl
        have e2 : l[p - 1]'(by omega) = l.getD (p - 1) 0 := by rw [List.getD_eq_getElem?_getD, List.getElem?_eq_getElem (by omega)]; rfl
        rw [e1, e2] at w
        rcases w with w | w <;> omega
    unfold pOrd
    omega
  · obtain ⟨i, hi, rfl⟩ := List.getElem_of_mem hx
    rw [List.length_drop] at hi
    have ei : (l.drop p)[i] = l.getD (p + i) 0 := by
      rw [List.getElem_drop, List.getD_eq_getElem?_getD, List.getElem?_eq_getElem (by omega)]; rfl
    rw [ei]
    left
    exact h1 (p + i) (by omega) (by omega)
set_option maxHeartbeats 8000000 in
theorem lX12_ins {ln : List Nat} {q n : Nat} {a6 a7 : Value} (hln : ln.length = n) (hlt : ∀ x ∈ ln, x < q) (hq60 : q < 60) (hnq : n ≤ q)
    (hq : ∀ p M', p ≤ n → (∀ o, ¬ o = 65 → ¬ o = 50 → M' o = M o) → (∀ j, ¬ j = 20 → M' 50 j = M 50 j) → M' 50 20 = nI (n + 1) → (∀ j, j ≤ n → M' 65 j = nI ((insAt ln p q).getD j 0)) → (∀ j, p ≤ j → j < n → (M 60 q).toInt < (M 60 (ln.getD j 0)).toInt) → (∀ j, j + 1 = p → (M 60 (ln.getD j 0)).toInt ≤ (M 60 q).toInt) →
      Wp mX12_follow d 117 [.ref (50 : Nat), .int x, .int u, .int y, .int (nI q), .int (nI p), a6, a7] [] M' N (pr b) Q) :
    ∀ i M', i ≤ n → (∀ o, ¬ o = 65 → M' o = M o) → M' 50 20 = nI n → (∀ j, j < i → M' 65 j = nI (ln.getD j 0)) → (∀ j, i < j → j ≤ n → M' 65 j = nI (ln.getD (j - 1) 0)) → (∀ j, i ≤ j → j < n → (M 60 q).toInt < (M 60 (ln.getD j 0)).toInt) →
      Wp mX12_follow d 47 [.ref (50 : Nat), .int x, .int u, .int y, .int (nI q), .int (nI i), a6, a7] [] M' N (pr b) Q := by
  have fin : ∀ i M', i ≤ n → (∀ o, ¬ o = 65 → M' o = M o) → M' 50 20 = nI n → (∀ j, j < i → M' 65 j = nI (ln.getD j 0)) → (∀ j, i < j → j ≤ n → M' 65 j = nI (ln.getD (j - 1) 0)) → (∀ j, i ≤ j → j < n → (M 60 q).toInt < (M 60 (ln.getD j 0)).toInt) → (∀ j, j + 1 = i → (M 60 (ln.getD j 0)).toInt ≤ (M 60 q).toInt) →
      Wp mX12_follow d 98 [.ref (50 : Nat), .int x, .int u, .int y, .int (nI q), .int (nI i), a6, a7] [] M' N (pr b) Q := by
    intro i M' hi h1 h20 h2 h3 h4 h5
    have v : vp_in (nI i) 60 := vp_in_nI (by omega) (by omega)
    have cl := cl_nI (show i < 2 ^ 31 by omega)
    simp only [shk_0, shk_1, shk_2, shk_3, shk_4, shk_5, shk_6, shk_7, shk_8, shk_9, shk_10, shk_11, shk_12, shk_13, shk_14, shk_15, shk_16, shk_17, shk_18, shk_19, shk_20, shk_21, shk_22, shk_23, shk_24, shk_25, shk_26, shk_27, shk_28, shk_29, shk_30, shk_31, shk_32, shk_33, shk_34, shk_35, shk_36, shk_37, shk_38, shk_39, shk_40, shk_41, shk_42, shk_43, shk_44, shk_45, shk_46, shk_47, shk_48, shk_49, shk_50, shk_51, shk_52, shk_53, shk_54, shk_55, shk_56, shk_57, shk_58, shk_59, shk_60, shk_61, shk_62, shk_63, shk_64, shk_65, shk_66, shk_67, shk_68, shk_69, shk_70, shk_71, shk_72, shk_73, shk_74, shk_75, shk_76, shk_77, shk_78, shk_79, shk_80, shk_81, shk_82, shk_83, shk_84, nl_i, nl_r, nl_f, cat_i, cat_r, sk_0, sk_1, sk_2, sk_3, sk_4, tl_some, tl_none, bit0, bit1, bit_b2, b2_eq0, isB_1, isB_2, isA_0, isA_1, pr_0_0, pr_0_1, pr_0_2, pr_0_3, pr_0_4, pr_0_5, pr_0_6, pr_0_7, pr_0_8, pr_0_9, pr_0_10, pr_0_11, pr_1_0, pr_1_1, pr_1_2, pr_2_0, pr_2_1, pr_2_2, pr_2_3, pr_3_0, pr_3_1, pr_4_0, pr_4_1, pr_4_2, pr_4_3, pr_4_4, pr_4_5, pr_4_6, pr_4_7, pr_4_8, pr_5_0, pr_5_1, pr_6_0, pr_6_1, pr_7_0, pr_8_0, pr_8_1, pr_8_2, pr_9_0, pr_9_1, pr_10_0, pr_10_1, pr_10_2, pr_11_0, pr_11_1, pr_11_2, pr_11_3, pr_11_4, pr_12_0, pr_12_1, pr_12_2, pr_12_3, pr_12_4, pr_50_0, pr_50_1, pr_50_2, pr_50_3, pr_50_4, pr_50_5, pr_50_9, pr_50_10, pr_50_11, pr_50_12, pr_50_13, pr_50_14, pr_50_15, pr_50_16, pr_50_17, pr_50_18, pr_50_21, pr_50_22, pr_50_32, pr_50_33, pr_50_34, pr_50_35, pr_50_36, pr_50_37, pr_50_38, pr_50_43, pr_50_46, pr_50_47, pr_50_48, pr_50_50, pr_50_51, pr_50_52, pr_50_53, pr_50_54, up2_at, Nat.reduceEqDiff, ↓reduceIte, if_true, if_false, sX12_follow_98, sX12_follow_99, sX12_follow_102, sX12_follow_104, sX12_follow_106, sX12_follow_107, sX12_follow_108, sX12_follow_109, sX12_follow_112, sX12_follow_113, sX12_follow_114, v, cl, h20, true_and, nI_1]
    refine hq i _ hi (fun o ho ho2 => by rw [up2_ne o ho2, up2_ne o ho]; exact h1 o ho) (fun j hj => ?_) ?_ (fun j hj => ?_) h4 h5
    · rw [up2_k hj, up2_ne 50 (by decide)]; exact congrFun (h1 50 (by decide)) j
    · rw [up2_at, if_pos rfl, if_pos rfl]
    · rw [insAt_get (by omega), up2_ne 65 (by decide), up2_at, if_pos rfl]
      by_cases e : j = i
      · rw [if_pos e, if_neg (by omega), if_pos e]
      · rw [if_neg e]
        by_cases e2 : j < i
        · rw [if_pos e2]; exact h2 j e2
        · rw [if_neg e2, if_neg e]; exact h3 j (by omega) hj
  intro i
  induction i with
  | zero =>
    intro M' hi h1 h20 h2 h3 h4
    rw [sX12_follow_47]
    simp only [shk_0, shk_1, shk_2, shk_3, shk_4, shk_5, shk_6, shk_7, shk_8, shk_9, shk_10, shk_11, shk_12, shk_13, shk_14, shk_15, shk_16, shk_17, shk_18, shk_19, shk_20, shk_21, shk_22, shk_23, shk_24, shk_25, shk_26, shk_27, shk_28, shk_29, shk_30, shk_31, shk_32, shk_33, shk_34, shk_35, shk_36, shk_37, shk_38, shk_39, shk_40, shk_41, shk_42, shk_43, shk_44, shk_45, shk_46, shk_47, shk_48, shk_49, shk_50, shk_51, shk_52, shk_53, shk_54, shk_55, shk_56, shk_57, shk_58, shk_59, shk_60, shk_61, shk_62, shk_63, shk_64, shk_65, shk_66, shk_67, shk_68, shk_69, shk_70, shk_71, shk_72, shk_73, shk_74, shk_75, shk_76, shk_77, shk_78, shk_79, shk_80, shk_81, shk_82, shk_83, shk_84, nl_i, nl_r, nl_f, cat_i, cat_r, sk_0, sk_1, sk_2, sk_3, sk_4, tl_some, tl_none, bit0, bit1, bit_b2, b2_eq0, isB_1, isB_2, isA_0, isA_1, pr_0_0, pr_0_1, pr_0_2, pr_0_3, pr_0_4, pr_0_5, pr_0_6, pr_0_7, pr_0_8, pr_0_9, pr_0_10, pr_0_11, pr_1_0, pr_1_1, pr_1_2, pr_2_0, pr_2_1, pr_2_2, pr_2_3, pr_3_0, pr_3_1, pr_4_0, pr_4_1, pr_4_2, pr_4_3, pr_4_4, pr_4_5, pr_4_6, pr_4_7, pr_4_8, pr_5_0, pr_5_1, pr_6_0, pr_6_1, pr_7_0, pr_8_0, pr_8_1, pr_8_2, pr_9_0, pr_9_1, pr_10_0, pr_10_1, pr_10_2, pr_11_0, pr_11_1, pr_11_2, pr_11_3, pr_11_4, pr_12_0, pr_12_1, pr_12_2, pr_12_3, pr_12_4, pr_50_0, pr_50_1, pr_50_2, pr_50_3, pr_50_4, pr_50_5, pr_50_9, pr_50_10, pr_50_11, pr_50_12, pr_50_13, pr_50_14, pr_50_15, pr_50_16, pr_50_17, pr_50_18, pr_50_21, pr_50_22, pr_50_32, pr_50_33, pr_50_34, pr_50_35, pr_50_36, pr_50_37, pr_50_38, pr_50_43, pr_50_46, pr_50_47, pr_50_48, pr_50_50, pr_50_51, pr_50_52, pr_50_53, pr_50_54, up2_at, Nat.reduceEqDiff, ↓reduceIte, if_true, if_false, sX12_follow_49, show nI 0 ≤ 0 by decide]
    exact fin 0 M' hi h1 h20 h2 h3 h4 (fun j hj => absurd hj (by omega))
  | succ i ih =>
    intro M' hi h1 h20 h2 h3 h4
    have c1 : ¬ nI (i + 1) ≤ 0 := nI_nle (by omega) (by omega)
    have hm := hlt _ (getD_mem (l := ln) (j := i) (by omega))
    have e65 := h2 i (by omega)
    have e60 := h1 60 (by decide)
    have v1 : vp_in (nI i) 60 := vp_in_nI (by omega) (by omega)
    have v2 : vp_in (nI (i + 1)) 60 := vp_in_nI (by omega) (by omega)
    have v3 : vp_in (nI (ln.getD i 0)) 60 := vp_in_nI (by omega) (by omega)
    have v4 : vp_in (nI q) 60 := vp_in_nI (by omega) (by omega)
    have l1 := cl_nI (show i < 2 ^ 31 by omega)
    have l2 := cl_nI (show i + 1 < 2 ^ 31 by omega)
    have l3 := cl_nI (show ln.getD i 0 < 2 ^ 31 by omega)
    have l4 := cl_nI (show q < 2 ^ 31 by omega)
    rw [sX12_follow_47]
    simp only [shk_0, shk_1, shk_2, shk_3, shk_4, shk_5, shk_6, shk_7, shk_8, shk_9, shk_10, shk_11, shk_12, shk_13, shk_14, shk_15, shk_16, shk_17, shk_18, shk_19, shk_20, shk_21, shk_22, shk_23, shk_24, shk_25, shk_26, shk_27, shk_28, shk_29, shk_30, shk_31, shk_32, shk_33, shk_34, shk_35, shk_36, shk_37, shk_38, shk_39, shk_40, shk_41, shk_42, shk_43, shk_44, shk_45, shk_46, shk_47, shk_48, shk_49, shk_50, shk_51, shk_52, shk_53, shk_54, shk_55, shk_56, shk_57, shk_58, shk_59, shk_60, shk_61, shk_62, shk_63, shk_64, shk_65, shk_66, shk_67, shk_68, shk_69, shk_70, shk_71, shk_72, shk_73, shk_74, shk_75, shk_76, shk_77, shk_78, shk_79, shk_80, shk_81, shk_82, shk_83, shk_84, nl_i, nl_r, nl_f, cat_i, cat_r, sk_0, sk_1, sk_2, sk_3, sk_4, tl_some, tl_none, bit0, bit1, bit_b2, b2_eq0, isB_1, isB_2, isA_0, isA_1, pr_0_0, pr_0_1, pr_0_2, pr_0_3, pr_0_4, pr_0_5, pr_0_6, pr_0_7, pr_0_8, pr_0_9, pr_0_10, pr_0_11, pr_1_0, pr_1_1, pr_1_2, pr_2_0, pr_2_1, pr_2_2, pr_2_3, pr_3_0, pr_3_1, pr_4_0, pr_4_1, pr_4_2, pr_4_3, pr_4_4, pr_4_5, pr_4_6, pr_4_7, pr_4_8, pr_5_0, pr_5_1, pr_6_0, pr_6_1, pr_7_0, pr_8_0, pr_8_1, pr_8_2, pr_9_0, pr_9_1, pr_10_0, pr_10_1, pr_10_2, pr_11_0, pr_11_1, pr_11_2, pr_11_3, pr_11_4, pr_12_0, pr_12_1, pr_12_2, pr_12_3, pr_12_4, pr_50_0, pr_50_1, pr_50_2, pr_50_3, pr_50_4, pr_50_5, pr_50_9, pr_50_10, pr_50_11, pr_50_12, pr_50_13, pr_50_14, pr_50_15, pr_50_16, pr_50_17, pr_50_18, pr_50_21, pr_50_22, pr_50_32, pr_50_33, pr_50_34, pr_50_35, pr_50_36, pr_50_37, pr_50_38, pr_50_43, pr_50_46, pr_50_47, pr_50_48, pr_50_50, pr_50_51, pr_50_52, pr_50_53, pr_50_54, up2_at, Nat.reduceEqDiff, ↓reduceIte, if_true, if_false, sX12_follow_49, sX12_follow_52, sX12_follow_53, sX12_follow_56, sX12_follow_57, sX12_follow_60, sX12_follow_62, sX12_follow_63, sX12_follow_64, sX12_follow_65, sX12_follow_66, sX12_follow_67, sX12_follow_70, sX12_follow_72, sX12_follow_73, sX12_follow_76, sX12_follow_77, sX12_follow_80, sX12_follow_82, sX12_follow_83, sX12_follow_86, sX12_follow_88, sX12_follow_89, sX12_follow_90, sX12_follow_91, sX12_follow_92, sX12_follow_95, c1, nI_pred, v1, v2, v3, v4, l1, l2, l3, l4, e65, e60, true_and, nI_m1]
    split
    · rename_i w
      refine fin (i + 1) M' hi h1 h20 h2 h3 h4 (fun j hj => ?_)
      have : j = i := by omega
      subst this
      rw [toI_le] at w
      exact w
    · rename_i w
      refine ih _ (by omega) (fun o ho => by rw [up2_ne o ho]; exact h1 o ho) (by rw [up2_ne 50 (by decide)]; exact h20) (fun j hj => ?_) (fun j hj1 hj2 => ?_) (fun j hj1 hj2 => ?_)
      · rw [up2_at, if_pos rfl, if_neg (by omega)]
        exact h2 j (by omega)
      · rw [up2_at, if_pos rfl]
        by_cases e : j = i + 1
        · rw [if_pos e, e]; rfl
        · rw [if_neg e]; exact h3 j (by omega) hj2
      · by_cases e : j = i
        · subst e
          rw [toI_le] at w
          omega
        · exact h4 j (by omega) hj2
/-- the reference's papers of a house that count on y -/
def onR (H F G : Nat → Int32) (x y : Int32) (p : Nat) : Bool := decide (H p = x) && cntB F G y p
set_option maxHeartbeats 8000000 in
theorem lX12_build {a6 a7 : Value} (hk : M 50 19 = nI k) (h60 : k ≤ 60)
    (hq : ∀ (ln : List Nat) (M' : Mt) (a5 : Value), ln.length ≤ 60 → ln.Pairwise (pOrd (M 60)) → (∀ p, p ∈ ln ↔ p < k ∧ onR (M 57) (M 63) (M 64) x y p = true) → (∀ o, ¬ o = 65 → ¬ o = 50 → M' o = M o) → (∀ j, ¬ j = 20 → M' 50 j = M 50 j) → M' 50 20 = nI ln.length → (∀ j, j < ln.length → M' 65 j = nI (ln.getD j 0)) →
      Wp mX12_follow (d + 1) 123 [.ref (50 : Nat), .int x, .int u, .int y, .int (nI k), a5, a6, a7] [] M' N (pr b) Q) :
    ∀ (j i : Nat) (ln : List Nat) (M' : Mt) (a5 : Value), i + j = k → ln.Pairwise (pOrd (M 60)) → (∀ p, p ∈ ln ↔ p < i ∧ onR (M 57) (M 63) (M 64) x y p = true) → (∀ o, ¬ o = 65 → ¬ o = 50 → M' o = M o) → (∀ j, ¬ j = 20 → M' 50 j = M 50 j) → M' 50 20 = nI ln.length → (∀ j, j < ln.length → M' 65 j = nI (ln.getD j 0)) →
      Wp mX12_follow (d + 1) 8 [.ref (50 : Nat), .int x, .int u, .int y, .int (nI i), a5, a6, a7] [] M' N (pr b) Q := by
  intro j
  induction j with
  | zero =>
    intro i ln M' a5 hi hpw hmem h1 h50 h20 h65
    have e : i = k := by omega
    subst e
    have e19 : M' 50 19 = nI i := by rw [h50 19 (by decide)]; exact hk
    rw [sX12_follow_8]
    simp only [shk_0, shk_1, shk_2, shk_3, shk_4, shk_5, shk_6, shk_7, shk_8, shk_9, shk_10, shk_11, shk_12, shk_13, shk_14, shk_15, shk_16, shk_17, shk_18, shk_19, shk_20, shk_21, shk_22, shk_23, shk_24, shk_25, shk_26, shk_27, shk_28, shk_29, shk_30, shk_31, shk_32, shk_33, shk_34, shk_35, shk_36, shk_37, shk_38, shk_39, shk_40, shk_41, shk_42, shk_43, shk_44, shk_45, shk_46, shk_47, shk_48, shk_49, shk_50, shk_51, shk_52, shk_53, shk_54, shk_55, shk_56, shk_57, shk_58, shk_59, shk_60, shk_61, shk_62, shk_63, shk_64, shk_65, shk_66, shk_67, shk_68, shk_69, shk_70, shk_71, shk_72, shk_73, shk_74, shk_75, shk_76, shk_77, shk_78, shk_79, shk_80, shk_81, shk_82, shk_83, shk_84, nl_i, nl_r, nl_f, cat_i, cat_r, sk_0, sk_1, sk_2, sk_3, sk_4, tl_some, tl_none, bit0, bit1, bit_b2, b2_eq0, isB_1, isB_2, isA_0, isA_1, pr_0_0, pr_0_1, pr_0_2, pr_0_3, pr_0_4, pr_0_5, pr_0_6, pr_0_7, pr_0_8, pr_0_9, pr_0_10, pr_0_11, pr_1_0, pr_1_1, pr_1_2, pr_2_0, pr_2_1, pr_2_2, pr_2_3, pr_3_0, pr_3_1, pr_4_0, pr_4_1, pr_4_2, pr_4_3, pr_4_4, pr_4_5, pr_4_6, pr_4_7, pr_4_8, pr_5_0, pr_5_1, pr_6_0, pr_6_1, pr_7_0, pr_8_0, pr_8_1, pr_8_2, pr_9_0, pr_9_1, pr_10_0, pr_10_1, pr_10_2, pr_11_0, pr_11_1, pr_11_2, pr_11_3, pr_11_4, pr_12_0, pr_12_1, pr_12_2, pr_12_3, pr_12_4, pr_50_0, pr_50_1, pr_50_2, pr_50_3, pr_50_4, pr_50_5, pr_50_9, pr_50_10, pr_50_11, pr_50_12, pr_50_13, pr_50_14, pr_50_15, pr_50_16, pr_50_17, pr_50_18, pr_50_21, pr_50_22, pr_50_32, pr_50_33, pr_50_34, pr_50_35, pr_50_36, pr_50_37, pr_50_38, pr_50_43, pr_50_46, pr_50_47, pr_50_48, pr_50_50, pr_50_51, pr_50_52, pr_50_53, pr_50_54, up2_at, Nat.reduceEqDiff, ↓reduceIte, if_true, if_false, sX12_follow_10, sX12_follow_11, sX12_follow_14, e19, Int32.le_refl]
    refine hq ln M' a5 ?_ hpw hmem h1 h50 h20 h65
    have := len_le_of_lt (nodup_of_pOrd hpw) (fun x hx => ((hmem x).mp hx).1)
    omega
  | succ j ih =>
    intro i ln M' a5 hi hpw hmem h1 h50 h20 h65
    have e19 : M' 50 19 = nI k := by rw [h50 19 (by decide)]; exact hk
    have c1 : ¬ nI k ≤ nI i := nI_ge (by omega) (by omega)
    have v1 : vp_in (nI i) 60 := vp_in_nI (by omega) (by omega)
    have l1 := cl_nI (show i < 2 ^ 31 by omega)
    have e57 := h1 57 (by decide) (by decide)
    have e63 := h1 63 (by decide) (by decide)
    have e64 := h1 64 (by decide) (by decide)
    have hlen := len_le_of_lt (nodup_of_pOrd hpw) (fun x hx => ((hmem x).mp hx).1)
    rw [sX12_follow_8]
    simp only [shk_0, shk_1, shk_2, shk_3, shk_4, shk_5, shk_6, shk_7, shk_8, shk_9, shk_10, shk_11, shk_12, shk_13, shk_14, shk_15, shk_16, shk_17, shk_18, shk_19, shk_20, shk_21, shk_22, shk_23, shk_24, shk_25, shk_26, shk_27, shk_28, shk_29, shk_30, shk_31, shk_32, shk_33, shk_34, shk_35, shk_36, shk_37, shk_38, shk_39, shk_40, shk_41, shk_42, shk_43, shk_44, shk_45, shk_46, shk_47, shk_48, shk_49, shk_50, shk_51, shk_52, shk_53, shk_54, shk_55, shk_56, shk_57, shk_58, shk_59, shk_60, shk_61, shk_62, shk_63, shk_64, shk_65, shk_66, shk_67, shk_68, shk_69, shk_70, shk_71, shk_72, shk_73, shk_74, shk_75, shk_76, shk_77, shk_78, shk_79, shk_80, shk_81, shk_82, shk_83, shk_84, nl_i, nl_r, nl_f, cat_i, cat_r, sk_0, sk_1, sk_2, sk_3, sk_4, tl_some, tl_none, bit0, bit1, bit_b2, b2_eq0, isB_1, isB_2, isA_0, isA_1, pr_0_0, pr_0_1, pr_0_2, pr_0_3, pr_0_4, pr_0_5, pr_0_6, pr_0_7, pr_0_8, pr_0_9, pr_0_10, pr_0_11, pr_1_0, pr_1_1, pr_1_2, pr_2_0, pr_2_1, pr_2_2, pr_2_3, pr_3_0, pr_3_1, pr_4_0, pr_4_1, pr_4_2, pr_4_3, pr_4_4, pr_4_5, pr_4_6, pr_4_7, pr_4_8, pr_5_0, pr_5_1, pr_6_0, pr_6_1, pr_7_0, pr_8_0, pr_8_1, pr_8_2, pr_9_0, pr_9_1, pr_10_0, pr_10_1, pr_10_2, pr_11_0, pr_11_1, pr_11_2, pr_11_3, pr_11_4, pr_12_0, pr_12_1, pr_12_2, pr_12_3, pr_12_4, pr_50_0, pr_50_1, pr_50_2, pr_50_3, pr_50_4, pr_50_5, pr_50_9, pr_50_10, pr_50_11, pr_50_12, pr_50_13, pr_50_14, pr_50_15, pr_50_16, pr_50_17, pr_50_18, pr_50_21, pr_50_22, pr_50_32, pr_50_33, pr_50_34, pr_50_35, pr_50_36, pr_50_37, pr_50_38, pr_50_43, pr_50_46, pr_50_47, pr_50_48, pr_50_50, pr_50_51, pr_50_52, pr_50_53, pr_50_54, up2_at, Nat.reduceEqDiff, ↓reduceIte, if_true, if_false, sX12_follow_10, sX12_follow_11, sX12_follow_14, sX12_follow_17, sX12_follow_18, sX12_follow_21, sX12_follow_23, sX12_follow_24, sX12_follow_25, sX12_follow_28, sX12_follow_29, sX12_follow_31, sX12_follow_32, sX12_follow_35, sX12_follow_38, sX12_follow_41, sX12_follow_42, sX12_follow_45, sX12_follow_117, sX12_follow_120, e19, c1, v1, l1, e57, true_and, wX12_counts (p := i) (show i < 60 by omega), e63, e64, h20, nI_1]
    by_cases a1 : M 57 i = x
    · by_cases a2 : cntB (M 63) (M 64) y i = true
      · have on : onR (M 57) (M 63) (M 64) x y i = true := by simp [onR, a1, a2]
        simp only [a1, a2, b2_t, if_true, if_false, show ¬ (1 : Int32) = 0 by decide, shk_0, shk_1, shk_2, shk_3, shk_4, shk_5, shk_6, shk_7, shk_8, shk_9, shk_10, shk_11, shk_12, shk_13, shk_14, shk_15, shk_16, shk_17, shk_18, shk_19, shk_20, shk_21, shk_22, shk_23, shk_24, shk_25, shk_26, shk_27, shk_28, shk_29, shk_30, shk_31, shk_32, shk_33, shk_34, shk_35, shk_36, shk_37, shk_38, shk_39, shk_40, shk_41, shk_42, shk_43, shk_44, shk_45, shk_46, shk_47, shk_48, shk_49, shk_50, shk_51, shk_52, shk_53, shk_54, shk_55, shk_56, shk_57, shk_58, shk_59, shk_60, shk_61, shk_62, shk_63, shk_64, shk_65, shk_66, shk_67, shk_68, shk_69, shk_70, shk_71, shk_72, shk_73, shk_74, shk_75, shk_76, shk_77, shk_78, shk_79, shk_80, shk_81, shk_82, shk_83, shk_84, nl_i, nl_r, nl_f, cat_i, cat_r, sk_0, sk_1, sk_2, sk_3, sk_4, tl_some, tl_none, bit0, bit1, bit_b2, b2_eq0, isB_1, isB_2, isA_0, isA_1, pr_0_0, pr_0_1, pr_0_2, pr_0_3, pr_0_4, pr_0_5, pr_0_6, pr_0_7, pr_0_8, pr_0_9, pr_0_10, pr_0_11, pr_1_0, pr_1_1, pr_1_2, pr_2_0, pr_2_1, pr_2_2, pr_2_3, pr_3_0, pr_3_1, pr_4_0, pr_4_1, pr_4_2, pr_4_3, pr_4_4, pr_4_5, pr_4_6, pr_4_7, pr_4_8, pr_5_0, pr_5_1, pr_6_0, pr_6_1, pr_7_0, pr_8_0, pr_8_1, pr_8_2, pr_9_0, pr_9_1, pr_10_0, pr_10_1, pr_10_2, pr_11_0, pr_11_1, pr_11_2, pr_11_3, pr_11_4, pr_12_0, pr_12_1, pr_12_2, pr_12_3, pr_12_4, pr_50_0, pr_50_1, pr_50_2, pr_50_3, pr_50_4, pr_50_5, pr_50_9, pr_50_10, pr_50_11, pr_50_12, pr_50_13, pr_50_14, pr_50_15, pr_50_16, pr_50_17, pr_50_18, pr_50_21, pr_50_22, pr_50_32, pr_50_33, pr_50_34, pr_50_35, pr_50_36, pr_50_37, pr_50_38, pr_50_43, pr_50_46, pr_50_47, pr_50_48, pr_50_50, pr_50_51, pr_50_52, pr_50_53, pr_50_54, up2_at, Nat.reduceEqDiff, ↓reduceIte, if_true, if_false, sX12_follow_41, sX12_follow_42, sX12_follow_45, h20]
        refine lX12_ins (M := M') (ln := ln) (q := i) (n := ln.length) rfl (fun x hx => ((hmem x).mp hx).1) (by omega) hlen (fun p M2 hp g1 g50 g20 g65 g3 g4 => ?_) ln.length M' (Nat.le_refl _) (fun o _ => rfl) h20 h65 (fun j a b => absurd a (by omega)) (fun j a b => absurd a (by omega))
        have e60 := h1 60 (by decide) (by decide)
        rw [e60] at g3 g4
        simp only [shk_0, shk_1, shk_2, shk_3, shk_4, shk_5, shk_6, shk_7, shk_8, shk_9, shk_10, shk_11, shk_12, shk_13, shk_14, shk_15, shk_16, shk_17, shk_18, shk_19, shk_20, shk_21, shk_22, shk_23, shk_24, shk_25, shk_26, shk_27, shk_28, shk_29, shk_30, shk_31, shk_32, shk_33, shk_34, shk_35, shk_36, shk_37, shk_38, shk_39, shk_40, shk_41, shk_42, shk_43, shk_44, shk_45, shk_46, shk_47, shk_48, shk_49, shk_50, shk_51, shk_52, shk_53, shk_54, shk_55, shk_56, shk_57, shk_58, shk_59, shk_60, shk_61, shk_62, shk_63, shk_64, shk_65, shk_66, shk_67, shk_68, shk_69, shk_70, shk_71, shk_72, shk_73, shk_74, shk_75, shk_76, shk_77, shk_78, shk_79, shk_80, shk_81, shk_82, shk_83, shk_84, nl_i, nl_r, nl_f, cat_i, cat_r, sk_0, sk_1, sk_2, sk_3, sk_4, tl_some, tl_none, bit0, bit1, bit_b2, b2_eq0, isB_1, isB_2, isA_0, isA_1, pr_0_0, pr_0_1, pr_0_2, pr_0_3, pr_0_4, pr_0_5, pr_0_6, pr_0_7, pr_0_8, pr_0_9, pr_0_10, pr_0_11, pr_1_0, pr_1_1, pr_1_2, pr_2_0, pr_2_1, pr_2_2, pr_2_3, pr_3_0, pr_3_1, pr_4_0, pr_4_1, pr_4_2, pr_4_3, pr_4_4, pr_4_5, pr_4_6, pr_4_7, pr_4_8, pr_5_0, pr_5_1, pr_6_0, pr_6_1, pr_7_0, pr_8_0, pr_8_1, pr_8_2, pr_9_0, pr_9_1, pr_10_0, pr_10_1, pr_10_2, pr_11_0, pr_11_1, pr_11_2, pr_11_3, pr_11_4, pr_12_0, pr_12_1, pr_12_2, pr_12_3, pr_12_4, pr_50_0, pr_50_1, pr_50_2, pr_50_3, pr_50_4, pr_50_5, pr_50_9, pr_50_10, pr_50_11, pr_50_12, pr_50_13, pr_50_14, pr_50_15, pr_50_16, pr_50_17, pr_50_18, pr_50_21, pr_50_22, pr_50_32, pr_50_33, pr_50_34, pr_50_35, pr_50_36, pr_50_37, pr_50_38, pr_50_43, pr_50_46, pr_50_47, pr_50_48, pr_50_50, pr_50_51, pr_50_52, pr_50_53, pr_50_54, up2_at, Nat.reduceEqDiff, ↓reduceIte, if_true, if_false, sX12_follow_117, sX12_follow_120, nI_1]
        refine ih (i + 1) (insAt ln p i) M2 _ (by omega) (insAt_pw2 hpw (fun x hx => ((hmem x).mp hx).1) hp g3 g4) (fun q => ?_) (fun o a b => by rw [g1 o a b]; exact h1 o a b) (fun j a => by rw [g50 j a]; exact h50 j a) (by rw [insAt_len hp]; exact g20) (fun j hj => g65 j (by rw [insAt_len hp] at hj; omega))
        rw [insAt_mem, hmem]
        constructor
        · rintro (rfl | ⟨q1, q2⟩)
          · exact ⟨by omega, on⟩
          · exact ⟨by omega, q2⟩
        · rintro ⟨q1, q2⟩
          by_cases e : q = i
          · exact Or.inl e
          · exact Or.inr ⟨by omega, q2⟩
      · have on : ¬ onR (M 57) (M 63) (M 64) x y i = true := by simp [onR, a2]
        simp only [a1, a2, b2_f, if_true, if_false, not_false_iff, shk_0, shk_1, shk_2, shk_3, shk_4, shk_5, shk_6, shk_7, shk_8, shk_9, shk_10, shk_11, shk_12, shk_13, shk_14, shk_15, shk_16, shk_17, shk_18, shk_19, shk_20, shk_21, shk_22, shk_23, shk_24, shk_25, shk_26, shk_27, shk_28, shk_29, shk_30, shk_31, shk_32, shk_33, shk_34, shk_35, shk_36, shk_37, shk_38, shk_39, shk_40, shk_41, shk_42, shk_43, shk_44, shk_45, shk_46, shk_47, shk_48, shk_49, shk_50, shk_51, shk_52, shk_53, shk_54, shk_55, shk_56, shk_57, shk_58, shk_59, shk_60, shk_61, shk_62, shk_63, shk_64, shk_65, shk_66, shk_67, shk_68, shk_69, shk_70, shk_71, shk_72, shk_73, shk_74, shk_75, shk_76, shk_77, shk_78, shk_79, shk_80, shk_81, shk_82, shk_83, shk_84, nl_i, nl_r, nl_f, cat_i, cat_r, sk_0, sk_1, sk_2, sk_3, sk_4, tl_some, tl_none, bit0, bit1, bit_b2, b2_eq0, isB_1, isB_2, isA_0, isA_1, pr_0_0, pr_0_1, pr_0_2, pr_0_3, pr_0_4, pr_0_5, pr_0_6, pr_0_7, pr_0_8, pr_0_9, pr_0_10, pr_0_11, pr_1_0, pr_1_1, pr_1_2, pr_2_0, pr_2_1, pr_2_2, pr_2_3, pr_3_0, pr_3_1, pr_4_0, pr_4_1, pr_4_2, pr_4_3, pr_4_4, pr_4_5, pr_4_6, pr_4_7, pr_4_8, pr_5_0, pr_5_1, pr_6_0, pr_6_1, pr_7_0, pr_8_0, pr_8_1, pr_8_2, pr_9_0, pr_9_1, pr_10_0, pr_10_1, pr_10_2, pr_11_0, pr_11_1, pr_11_2, pr_11_3, pr_11_4, pr_12_0, pr_12_1, pr_12_2, pr_12_3, pr_12_4, pr_50_0, pr_50_1, pr_50_2, pr_50_3, pr_50_4, pr_50_5, pr_50_9, pr_50_10, pr_50_11, pr_50_12, pr_50_13, pr_50_14, pr_50_15, pr_50_16, pr_50_17, pr_50_18, pr_50_21, pr_50_22, pr_50_32, pr_50_33, pr_50_34, pr_50_35, pr_50_36, pr_50_37, pr_50_38, pr_50_43, pr_50_46, pr_50_47, pr_50_48, pr_50_50, pr_50_51, pr_50_52, pr_50_53, pr_50_54, up2_at, Nat.reduceEqDiff, ↓reduceIte, if_true, if_false, sX12_follow_117, sX12_follow_120, nI_1]
        refine ih (i + 1) ln M' _ (by omega) hpw (fun q => ?_) h1 h50 h20 h65
        rw [hmem]
        constructor
        · rintro ⟨q1, q2⟩; exact ⟨by omega, q2⟩
        · rintro ⟨q1, q2⟩
          refine ⟨?_, q2⟩
          by_cases e : q = i
          · subst e; exact absurd q2 on
          · omega
    · have on : ¬ onR (M 57) (M 63) (M 64) x y i = true := by simp [onR, a1]
      simp only [a1, if_false, shk_0, shk_1, shk_2, shk_3, shk_4, shk_5, shk_6, shk_7, shk_8, shk_9, shk_10, shk_11, shk_12, shk_13, shk_14, shk_15, shk_16, shk_17, shk_18, shk_19, shk_20, shk_21, shk_22, shk_23, shk_24, shk_25, shk_26, shk_27, shk_28, shk_29, shk_30, shk_31, shk_32, shk_33, shk_34, shk_35, shk_36, shk_37, shk_38, shk_39, shk_40, shk_41, shk_42, shk_43, shk_44, shk_45, shk_46, shk_47, shk_48, shk_49, shk_50, shk_51, shk_52, shk_53, shk_54, shk_55, shk_56, shk_57, shk_58, shk_59, shk_60, shk_61, shk_62, shk_63, shk_64, shk_65, shk_66, shk_67, shk_68, shk_69, shk_70, shk_71, shk_72, shk_73, shk_74, shk_75, shk_76, shk_77, shk_78, shk_79, shk_80, shk_81, shk_82, shk_83, shk_84, nl_i, nl_r, nl_f, cat_i, cat_r, sk_0, sk_1, sk_2, sk_3, sk_4, tl_some, tl_none, bit0, bit1, bit_b2, b2_eq0, isB_1, isB_2, isA_0, isA_1, pr_0_0, pr_0_1, pr_0_2, pr_0_3, pr_0_4, pr_0_5, pr_0_6, pr_0_7, pr_0_8, pr_0_9, pr_0_10, pr_0_11, pr_1_0, pr_1_1, pr_1_2, pr_2_0, pr_2_1, pr_2_2, pr_2_3, pr_3_0, pr_3_1, pr_4_0, pr_4_1, pr_4_2, pr_4_3, pr_4_4, pr_4_5, pr_4_6, pr_4_7, pr_4_8, pr_5_0, pr_5_1, pr_6_0, pr_6_1, pr_7_0, pr_8_0, pr_8_1, pr_8_2, pr_9_0, pr_9_1, pr_10_0, pr_10_1, pr_10_2, pr_11_0, pr_11_1, pr_11_2, pr_11_3, pr_11_4, pr_12_0, pr_12_1, pr_12_2, pr_12_3, pr_12_4, pr_50_0, pr_50_1, pr_50_2, pr_50_3, pr_50_4, pr_50_5, pr_50_9, pr_50_10, pr_50_11, pr_50_12, pr_50_13, pr_50_14, pr_50_15, pr_50_16, pr_50_17, pr_50_18, pr_50_21, pr_50_22, pr_50_32, pr_50_33, pr_50_34, pr_50_35, pr_50_36, pr_50_37, pr_50_38, pr_50_43, pr_50_46, pr_50_47, pr_50_48, pr_50_50, pr_50_51, pr_50_52, pr_50_53, pr_50_54, up2_at, Nat.reduceEqDiff, ↓reduceIte, if_true, if_false, sX12_follow_117, sX12_follow_120, nI_1]
      refine ih (i + 1) ln M' _ (by omega) hpw (fun q => ?_) h1 h50 h20 h65
      rw [hmem]
      constructor
      · rintro ⟨q1, q2⟩; exact ⟨by omega, q2⟩
      · rintro ⟨q1, q2⟩
        refine ⟨?_, q2⟩
        by_cases e : q = i
        · subst e; exact absurd q2 on
        · omega
end K10
