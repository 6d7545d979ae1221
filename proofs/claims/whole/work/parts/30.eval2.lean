section K21
variable {d : Nat} {x y z : Int32} {M M' : Mt} {N : Nt} {b : Bool} {Q : Qt} {P : Pt'}
theorem evs_len {T : Nat → Int32} : ∀ (ops : List Op1) (s : List Int32) (m : Nat), dep s.length ops = some m → (evs T s ops).length = m
  | [], s, m, h => by
    rw [dep] at h
    injection h
  | (k, w) :: ops, s, m, h => by
    rw [dep] at h
    dsimp only at h
    show (evs T (ev1 T s (k, w)) ops).length = m
    apply evs_len ops
    have hl : (ev1 T s (k, w)).length = if k ≤ 1 then s.length + 1 else if k = 2 then s.length else s.length - 1 := by
      unfold ev1
      dsimp only
      by_cases q0 : k = 0
      · subst q0; simp
      · by_cases q1 : k = 1
        · subst q1; simp
        · by_cases q2 : k = 2
          · subst q2
            cases s <;> simp
          · rw [if_neg q0, if_neg q1, if_neg q2, if_neg (by omega), if_neg q2]
            match s with
            | [] => rfl
            | [_] => rfl
            | _ :: _ :: _ => simp
    rw [hl]
    split at h
    · split at h
      · rw [if_pos (by assumption)]; exact h
      · cases h
    · rename_i h1
      rw [if_neg h1]
      split at h
      · split at h
        · rw [if_pos (by assumption)]; exact h
        · cases h
      · rename_i h2
        rw [if_neg h2]
        split at h
        · exact h
        · cases h
theorem evs_congr {T T' : Nat → Int32} (hT : ∀ i, i < 9 → T i = T' i) : ∀ (ops : List Op1) (s : List Int32), (∀ o ∈ ops, opOk o) → evs T s ops = evs T' s ops
  | [], _, _ => rfl
  | o :: ops, s, h => by
    have e : ev1 T s o = ev1 T' s o := by
      unfold ev1
      by_cases q : o.1 = 1
      · rw [hT _ ((h o List.mem_cons_self).2.2 q)]
      · rw [if_neg q, if_neg q]
    show evs T (ev1 T s o) ops = evs T' (ev1 T' s o) ops
    rw [e]
    exact evs_congr hT ops _ (fun q hq => h q (List.mem_cons_of_mem _ hq))
def lnAt (law : List Ln1) (i : Nat) : Ln1 := law.getD i ([], 0, 0)
def vOf (T : Nat → Int32) (l : Ln1) : Int32 := (evs T [] l.1).headD 0
theorem vOf_ev {T : Nat → Int32} {l : Ln1} (h : lnOk l) : evs T [] l.1 = [vOf T l] := by
  have := evs_len (T := T) l.1 [] 1 h.2.1
  unfold vOf
  match evs T [] l.1, this with
  | [a], _ => rfl
theorem lnAt_mem {law : List Ln1} {i : Nat} (h : i < law.length) : lnAt law i ∈ law := by
  unfold lnAt
  rw [List.getD_eq_getElem?_getD, List.getElem?_eq_getElem h]
  exact List.getElem_mem h
theorem preL_succ {law : List Ln1} {i : Nat} (h : i < law.length) : preL law (i + 1) = preL law i + (lnAt law i).1.length := by
  unfold preL lnAt
  rw [List.take_add_one, List.getElem?_eq_getElem h, List.map_append, List.sum_append, List.getD_eq_getElem?_getD, List.getElem?_eq_getElem h]
  simp
theorem flat_at : ∀ {law : List Ln1} {i j : Nat}, i < law.length → j < (lnAt law i).1.length → (flat law).getD (preL law i + j) (0, 0) = (lnAt law i).1.getD j (0, 0) ∧ preL law i + j < (flat law).length
  | a :: r, 0, j, _, hj => by
    have e0 : preL (a :: r) 0 = 0 := rfl
    have e1 : lnAt (a :: r) 0 = a := rfl
    have e2 : flat (a :: r) = a.1 ++ flat r := by unfold flat; rw [List.flatMap_cons]
    rw [e1] at hj ⊢
    rw [e0, e2, Nat.zero_add]
    refine ⟨?_, by rw [List.length_append]; omega⟩
    rw [List.getD_eq_getElem?_getD, List.getElem?_append_left hj, ← List.getD_eq_getElem?_getD]
  | a :: r, i + 1, j, hi, hj => by
    have e0 : preL (a :: r) (i + 1) = a.1.length + preL r i := by unfold preL; rw [List.take_succ_cons, List.map_cons, List.sum_cons]
    have e1 : lnAt (a :: r) (i + 1) = lnAt r i := rfl
    have e2 : flat (a :: r) = a.1 ++ flat r := by unfold flat; rw [List.flatMap_cons]
    rw [e1] at hj ⊢
    obtain ⟨h1, h2⟩ := flat_at (law := r) (i := i) (j := j) (by rw [List.length_cons] at hi; omega) hj
    rw [e0, e2]
    refine ⟨?_, by rw [List.length_append]; omega⟩
    rw [← h1, List.getD_eq_getElem?_getD, List.getElem?_append_right (by omega), ← List.getD_eq_getElem?_getD]
    congr 1; omega
theorem preL_le {law : List Ln1} (h : lawOk law) : ∀ {i : Nat}, i ≤ law.length → preL law i ≤ 600 := by
  have hl : ∀ (law : List Ln1) (i : Nat), preL law i ≤ (flat law).length := by
    intro law
    induction law with
    | nil => intro i; simp [preL]
    | cons a r ih =>
      intro i
      have e2 : flat (a :: r) = a.1 ++ flat r := by unfold flat; rw [List.flatMap_cons]
      cases i with
      | zero => simp [preL]
      | succ i =>
        have e0 : preL (a :: r) (i + 1) = a.1.length + preL r i := by unfold preL; rw [List.take_succ_cons, List.map_cons, List.sum_cons]
        have := ih i
        rw [e0, e2, List.length_append]; omega
  intro i _
  have := hl law i
  have := h.2.1
  omega
set_option maxHeartbeats 4000000 in
theorem lX2_first {lw st le wt : Nat} (h0 : shk lw = (2, 0)) (h1 : pr b lw 0 = st) (h2 : pr b lw 1 = le) (h4 : pr b lw 4 = wt) (hst : shk st = (100, 600)) (hle : shk le = (100, 16)) (hwt : shk wt = (100, 32)) (hne : ¬ st = wt) (hne2 : ¬ le = wt) (hne3 : ¬ lw = wt) (hn32 : ¬ (32 : Nat) = wt)
    {law : List Ln1} (hlaw : lawOk law) (hn : M lw 6 = nI law.length) (hends : ∀ j, j < law.length → M le j = nI (preL law (j + 1))) (hsteps : ∀ i, i < (flat law).length → M st i = nI (((flat law).getD i (0, 0)).2 * 16 + ((flat law).getD i (0, 0)).1))
    (hok : ∀ i M', i < law.length → ¬ vOf (M 32) (lnAt law i) = 0 → (∀ j, j < i → vOf (M 32) (lnAt law j) = 0) → (∀ o, ¬ o = wt → M' o = M o) → Q (some (.int (nI i))) M' N (pr b))
    (hno : ∀ M', (∀ j, j < law.length → vOf (M 32) (lnAt law j) = 0) → (∀ o, ¬ o = wt → M' o = M o) → Q (some (.int (-1))) M' N (pr b)) :
    ∀ (r i : Nat) (M' : Mt), i + r = law.length → (∀ j, j < i → vOf (M 32) (lnAt law j) = 0) → (∀ o, ¬ o = wt → M' o = M o) →
      Wp mX2_firstLineThatHolds (d + 3) 4 [.ref lw, .ref (32 : Nat), .int (nI (preL law i)), .int (nI i)] [] M' N (pr b) Q := by
  intro r
  induction r with
  | zero =>
    intro i M' hi hz hm
    have e : i = law.length := by omega
    subst e
    rw [sX2_firstLineThatHolds_4]
    simp only [shk_0, shk_1, shk_2, shk_3, shk_4, shk_5, shk_6, shk_7, shk_8, shk_9, shk_10, shk_11, shk_12, shk_13, shk_14, shk_15, shk_16, shk_17, shk_18, shk_19, shk_20, shk_21, shk_22, shk_23, shk_24, shk_25, shk_26, shk_27, shk_28, shk_29, shk_30, shk_31, shk_32, shk_33, shk_34, shk_35, shk_36, shk_37, shk_38, shk_39, shk_40, shk_41, shk_42, shk_43, shk_44, shk_45, shk_46, shk_47, shk_48, shk_49, shk_50, shk_51, shk_52, shk_53, shk_54, shk_55, shk_56, shk_57, shk_58, shk_59, shk_60, shk_61, shk_62, shk_63, shk_64, shk_65, shk_66, shk_67, shk_68, shk_69, shk_70, shk_71, shk_72, shk_73, shk_74, shk_75, shk_76, shk_77, shk_78, shk_79, shk_80, shk_81, shk_82, shk_83, shk_84, nl_i, nl_r, nl_f, cat_i, cat_r, sk_0, sk_1, sk_2, sk_3, sk_4, tl_some, tl_none, bit0, bit1, bit_b2, b2_eq0, isB_1, isB_2, isA_0, isA_1, pr_0_0, pr_0_1, pr_0_2, pr_0_3, pr_0_4, pr_0_5, pr_0_6, pr_0_7, pr_0_8, pr_0_9, pr_0_10, pr_0_11, pr_1_0, pr_1_1, pr_1_2, pr_2_0, pr_2_1, pr_2_2, pr_2_3, pr_3_0, pr_3_1, pr_4_0, pr_4_1, pr_4_2, pr_4_3, pr_4_4, pr_4_5, pr_4_6, pr_4_7, pr_4_8, pr_5_0, pr_5_1, pr_6_0, pr_6_1, pr_7_0, pr_8_0, pr_8_1, pr_8_2, pr_9_0, pr_9_1, pr_10_0, pr_10_1, pr_10_2, pr_11_0, pr_11_1, pr_11_2, pr_11_3, pr_11_4, pr_12_0, pr_12_1, pr_12_2, pr_12_3, pr_12_4, pr_50_0, pr_50_1, pr_50_2, pr_50_3, pr_50_4, pr_50_5, pr_50_9, pr_50_10, pr_50_11, pr_50_12, pr_50_13, pr_50_14, pr_50_15, pr_50_16, pr_50_17, pr_50_18, pr_50_21, pr_50_22, pr_50_32, pr_50_33, pr_50_34, pr_50_35, pr_50_36, pr_50_37, pr_50_38, pr_50_43, pr_50_46, pr_50_47, pr_50_48, pr_50_50, pr_50_51, pr_50_52, pr_50_53, pr_50_54, up2_at, Nat.reduceEqDiff, ↓reduceIte, if_true, if_false, sX2_firstLineThatHolds_0, sX2_firstLineThatHolds_1, sX2_firstLineThatHolds_2, sX2_firstLineThatHolds_3, sX2_firstLineThatHolds_5, sX2_firstLineThatHolds_6, sX2_firstLineThatHolds_9, sX2_firstLineThatHolds_12, sX2_firstLineThatHolds_13, sX2_firstLineThatHolds_14, sX2_firstLineThatHolds_15, sX2_firstLineThatHolds_18, sX2_firstLineThatHolds_19, sX2_firstLineThatHolds_20, sX2_firstLineThatHolds_21, sX2_firstLineThatHolds_24, sX2_firstLineThatHolds_27, sX2_firstLineThatHolds_28, sX2_firstLineThatHolds_29, sX2_firstLineThatHolds_30, sX2_firstLineThatHolds_33, sX2_firstLineThatHolds_34, sX2_firstLineThatHolds_35, sX2_firstLineThatHolds_36, sX2_firstLineThatHolds_39, sX2_firstLineThatHolds_42, sX2_firstLineThatHolds_43, h0, hm lw hne3, hn, Int32.le_refl]
    exact hno M' hz hm
  | succ r ih =>
    intro i M' hi hz hm
    have h16 := hlaw.1
    have hil : i < law.length := by omega
    have c1 : ¬ nI law.length ≤ nI i := nI_ge (by omega) (by omega)
    have v1 : vp_in (nI i) 16 := vp_in_nI (by omega) (by omega)
    have l1 := cl_nI (show i < 2 ^ 31 by omega)
    have k1 : (shk le).1 = 100 := by rw [hle]
    have k2 : (shk le).2 = 16 := by rw [hle]
    have el := hends i hil
    have ok := hlaw.2.2 _ (lnAt_mem hil)
    have hp := preL_le hlaw (show i + 1 ≤ law.length by omega)
    have hpl := preL_succ hil
    rw [sX2_firstLineThatHolds_4]
    simp only [shk_0, shk_1, shk_2, shk_3, shk_4, shk_5, shk_6, shk_7, shk_8, shk_9, shk_10, shk_11, shk_12, shk_13, shk_14, shk_15, shk_16, shk_17, shk_18, shk_19, shk_20, shk_21, shk_22, shk_23, shk_24, shk_25, shk_26, shk_27, shk_28, shk_29, shk_30, shk_31, shk_32, shk_33, shk_34, shk_35, shk_36, shk_37, shk_38, shk_39, shk_40, shk_41, shk_42, shk_43, shk_44, shk_45, shk_46, shk_47, shk_48, shk_49, shk_50, shk_51, shk_52, shk_53, shk_54, shk_55, shk_56, shk_57, shk_58, shk_59, shk_60, shk_61, shk_62, shk_63, shk_64, shk_65, shk_66, shk_67, shk_68, shk_69, shk_70, shk_71, shk_72, shk_73, shk_74, shk_75, shk_76, shk_77, shk_78, shk_79, shk_80, shk_81, shk_82, shk_83, shk_84, nl_i, nl_r, nl_f, cat_i, cat_r, sk_0, sk_1, sk_2, sk_3, sk_4, tl_some, tl_none, bit0, bit1, bit_b2, b2_eq0, isB_1, isB_2, isA_0, isA_1, pr_0_0, pr_0_1, pr_0_2, pr_0_3, pr_0_4, pr_0_5, pr_0_6, pr_0_7, pr_0_8, pr_0_9, pr_0_10, pr_0_11, pr_1_0, pr_1_1, pr_1_2, pr_2_0, pr_2_1, pr_2_2, pr_2_3, pr_3_0, pr_3_1, pr_4_0, pr_4_1, pr_4_2, pr_4_3, pr_4_4, pr_4_5, pr_4_6, pr_4_7, pr_4_8, pr_5_0, pr_5_1, pr_6_0, pr_6_1, pr_7_0, pr_8_0, pr_8_1, pr_8_2, pr_9_0, pr_9_1, pr_10_0, pr_10_1, pr_10_2, pr_11_0, pr_11_1, pr_11_2, pr_11_3, pr_11_4, pr_12_0, pr_12_1, pr_12_2, pr_12_3, pr_12_4, pr_50_0, pr_50_1, pr_50_2, pr_50_3, pr_50_4, pr_50_5, pr_50_9, pr_50_10, pr_50_11, pr_50_12, pr_50_13, pr_50_14, pr_50_15, pr_50_16, pr_50_17, pr_50_18, pr_50_21, pr_50_22, pr_50_32, pr_50_33, pr_50_34, pr_50_35, pr_50_36, pr_50_37, pr_50_38, pr_50_43, pr_50_46, pr_50_47, pr_50_48, pr_50_50, pr_50_51, pr_50_52, pr_50_53, pr_50_54, up2_at, Nat.reduceEqDiff, ↓reduceIte, if_true, if_false, sX2_firstLineThatHolds_0, sX2_firstLineThatHolds_1, sX2_firstLineThatHolds_2, sX2_firstLineThatHolds_3, sX2_firstLineThatHolds_5, sX2_firstLineThatHolds_6, sX2_firstLineThatHolds_9, sX2_firstLineThatHolds_12, sX2_firstLineThatHolds_13, sX2_firstLineThatHolds_14, sX2_firstLineThatHolds_15, sX2_firstLineThatHolds_18, sX2_firstLineThatHolds_19, sX2_firstLineThatHolds_20, sX2_firstLineThatHolds_21, sX2_firstLineThatHolds_24, sX2_firstLineThatHolds_27, sX2_firstLineThatHolds_28, sX2_firstLineThatHolds_29, sX2_firstLineThatHolds_30, sX2_firstLineThatHolds_33, sX2_firstLineThatHolds_34, sX2_firstLineThatHolds_35, sX2_firstLineThatHolds_36, sX2_firstLineThatHolds_39, sX2_firstLineThatHolds_42, sX2_firstLineThatHolds_43, h0, h2, hm lw hne3, hn, c1, k1, k2, v1, l1, hm le hne2, el, true_and]
    simp only [shk_0, shk_1, shk_2, shk_3, shk_4, shk_5, shk_6, shk_7, shk_8, shk_9, shk_10, shk_11, shk_12, shk_13, shk_14, shk_15, shk_16, shk_17, shk_18, shk_19, shk_20, shk_21, shk_22, shk_23, shk_24, shk_25, shk_26, shk_27, shk_28, shk_29, shk_30, shk_31, shk_32, shk_33, shk_34, shk_35, shk_36, shk_37, shk_38, shk_39, shk_40, shk_41, shk_42, shk_43, shk_44, shk_45, shk_46, shk_47, shk_48, shk_49, shk_50, shk_51, shk_52, shk_53, shk_54, shk_55, shk_56, shk_57, shk_58, shk_59, shk_60, shk_61, shk_62, shk_63, shk_64, shk_65, shk_66, shk_67, shk_68, shk_69, shk_70, shk_71, shk_72, shk_73, shk_74, shk_75, shk_76, shk_77, shk_78, shk_79, shk_80, shk_81, shk_82, shk_83, shk_84, nl_i, nl_r, nl_f, cat_i, cat_r, sk_0, sk_1, sk_2, sk_3, sk_4, tl_some, tl_none, bit0, bit1, bit_b2, b2_eq0, isB_1, isB_2, isA_0, isA_1, pr_0_0, pr_0_1, pr_0_2, pr_0_3, pr_0_4, pr_0_5, pr_0_6, pr_0_7, pr_0_8, pr_0_9, pr_0_10, pr_0_11, pr_1_0, pr_1_1, pr_1_2, pr_2_0, pr_2_1, pr_2_2, pr_2_3, pr_3_0, pr_3_1, pr_4_0, pr_4_1, pr_4_2, pr_4_3, pr_4_4, pr_4_5, pr_4_6, pr_4_7, pr_4_8, pr_5_0, pr_5_1, pr_6_0, pr_6_1, pr_7_0, pr_8_0, pr_8_1, pr_8_2, pr_9_0, pr_9_1, pr_10_0, pr_10_1, pr_10_2, pr_11_0, pr_11_1, pr_11_2, pr_11_3, pr_11_4, pr_12_0, pr_12_1, pr_12_2, pr_12_3, pr_12_4, pr_50_0, pr_50_1, pr_50_2, pr_50_3, pr_50_4, pr_50_5, pr_50_9, pr_50_10, pr_50_11, pr_50_12, pr_50_13, pr_50_14, pr_50_15, pr_50_16, pr_50_17, pr_50_18, pr_50_21, pr_50_22, pr_50_32, pr_50_33, pr_50_34, pr_50_35, pr_50_36, pr_50_37, pr_50_38, pr_50_43, pr_50_46, pr_50_47, pr_50_48, pr_50_50, pr_50_51, pr_50_52, pr_50_53, pr_50_54, up2_at, Nat.reduceEqDiff, ↓reduceIte, if_true, if_false, sX2_valueOf_0, sX2_valueOf_1, sX2_valueOf_3, sX2_valueOf_4, sX2_valueOf_8, sX2_valueOf_9, sX2_valueOf_12, sX2_valueOf_13, sX2_valueOf_16, sX2_valueOf_18, sX2_valueOf_19, sX2_valueOf_21, sX2_valueOf_22, sX2_valueOf_24, sX2_valueOf_25, sX2_valueOf_28, sX2_valueOf_30, sX2_valueOf_31, sX2_valueOf_33, sX2_valueOf_34, sX2_valueOf_36, sX2_valueOf_38, sX2_valueOf_41, sX2_valueOf_43, sX2_valueOf_44, sX2_valueOf_47, sX2_valueOf_50, sX2_valueOf_52, sX2_valueOf_54, sX2_valueOf_57, sX2_valueOf_59, sX2_valueOf_60, sX2_valueOf_63, sX2_valueOf_65, sX2_valueOf_66, sX2_valueOf_67, sX2_valueOf_70, sX2_valueOf_71, sX2_valueOf_72, sX2_valueOf_73, sX2_valueOf_76, sX2_valueOf_78, sX2_valueOf_80, sX2_valueOf_81, sX2_valueOf_84, sX2_valueOf_85, sX2_valueOf_87, sX2_valueOf_88, sX2_valueOf_91, sX2_valueOf_93, sX2_valueOf_94, sX2_valueOf_97, sX2_valueOf_99, sX2_valueOf_100, sX2_valueOf_103, sX2_valueOf_105, sX2_valueOf_108, sX2_valueOf_109, sX2_valueOf_112, sX2_valueOf_114, sX2_valueOf_115, sX2_valueOf_118, sX2_valueOf_120, sX2_valueOf_121, sX2_valueOf_124, sX2_valueOf_125, sX2_valueOf_128, sX2_valueOf_129, sX2_valueOf_132, sX2_valueOf_133, sX2_valueOf_136, sX2_valueOf_138, sX2_valueOf_139, sX2_valueOf_142, sX2_valueOf_145, sX2_valueOf_146, sX2_valueOf_149, sX2_valueOf_151, sX2_valueOf_153, sX2_valueOf_154, sX2_valueOf_157, sX2_valueOf_159, sX2_valueOf_160, sX2_valueOf_161, sX2_valueOf_164, sX2_valueOf_166, sX2_valueOf_167, sX2_valueOf_168, sX2_valueOf_169, sX2_valueOf_172, sX2_valueOf_173, sX2_valueOf_176, sX2_valueOf_179, sX2_valueOf_181, sX2_valueOf_184, sX2_valueOf_185, sX2_valueOf_188, sX2_valueOf_190, sX2_valueOf_191, sX2_valueOf_194, sX2_valueOf_195]
    have c0 : (-1 : Int32) = nI ([] : List Int32).length - 1 := by decide
    rw [c0]
    refine lX2_valueOf (d := d) (M := M') (le := le) (st := st) (wt := wt) (tt := preL law (i + 1)) (v := vOf (M 32) (lnAt law i)) h0 h1 h4 hst hwt hne hn32 hp (fun M2 hm2 => ?_) (lnAt law i).1 (preL law i) [] M' (.float 0) (.float 0) (by omega) ok.1 (fun j hj => ?_) ok.2.1 (by rw [hm 32 hn32]; exact vOf_ev ok) (by simp) (fun _ _ => rfl) (fun j hj => by simp at hj) nl_f
    · have hm3 : ∀ o, ¬ o = wt → M2 o = M o := fun o ho => by rw [hm2 o ho, hm o ho]
      by_cases q : vOf (M 32) (lnAt law i) = 0
      · simp only [q, shk_0, shk_1, shk_2, shk_3, shk_4, shk_5, shk_6, shk_7, shk_8, shk_9, shk_10, shk_11, shk_12, shk_13, shk_14, shk_15, shk_16, shk_17, shk_18, shk_19, shk_20, shk_21, shk_22, shk_23, shk_24, shk_25, shk_26, shk_27, shk_28, shk_29, shk_30, shk_31, shk_32, shk_33, shk_34, shk_35, shk_36, shk_37, shk_38, shk_39, shk_40, shk_41, shk_42, shk_43, shk_44, shk_45, shk_46, shk_47, shk_48, shk_49, shk_50, shk_51, shk_52, shk_53, shk_54, shk_55, shk_56, shk_57, shk_58, shk_59, shk_60, shk_61, shk_62, shk_63, shk_64, shk_65, shk_66, shk_67, shk_68, shk_69, shk_70, shk_71, shk_72, shk_73, shk_74, shk_75, shk_76, shk_77, shk_78, shk_79, shk_80, shk_81, shk_82, shk_83, shk_84, nl_i, nl_r, nl_f, cat_i, cat_r, sk_0, sk_1, sk_2, sk_3, sk_4, tl_some, tl_none, bit0, bit1, bit_b2, b2_eq0, isB_1, isB_2, isA_0, isA_1, pr_0_0, pr_0_1, pr_0_2, pr_0_3, pr_0_4, pr_0_5, pr_0_6, pr_0_7, pr_0_8, pr_0_9, pr_0_10, pr_0_11, pr_1_0, pr_1_1, pr_1_2, pr_2_0, pr_2_1, pr_2_2, pr_2_3, pr_3_0, pr_3_1, pr_4_0, pr_4_1, pr_4_2, pr_4_3, pr_4_4, pr_4_5, pr_4_6, pr_4_7, pr_4_8, pr_5_0, pr_5_1, pr_6_0, pr_6_1, pr_7_0, pr_8_0, pr_8_1, pr_8_2, pr_9_0, pr_9_1, pr_10_0, pr_10_1, pr_10_2, pr_11_0, pr_11_1, pr_11_2, pr_11_3, pr_11_4, pr_12_0, pr_12_1, pr_12_2, pr_12_3, pr_12_4, pr_50_0, pr_50_1, pr_50_2, pr_50_3, pr_50_4, pr_50_5, pr_50_9, pr_50_10, pr_50_11, pr_50_12, pr_50_13, pr_50_14, pr_50_15, pr_50_16, pr_50_17, pr_50_18, pr_50_21, pr_50_22, pr_50_32, pr_50_33, pr_50_34, pr_50_35, pr_50_36, pr_50_37, pr_50_38, pr_50_43, pr_50_46, pr_50_47, pr_50_48, pr_50_50, pr_50_51, pr_50_52, pr_50_53, pr_50_54, up2_at, Nat.reduceEqDiff, ↓reduceIte, if_true, if_false, sX2_firstLineThatHolds_0, sX2_firstLineThatHolds_1, sX2_firstLineThatHolds_2, sX2_firstLineThatHolds_3, sX2_firstLineThatHolds_5, sX2_firstLineThatHolds_6, sX2_firstLineThatHolds_9, sX2_firstLineThatHolds_12, sX2_firstLineThatHolds_13, sX2_firstLineThatHolds_14, sX2_firstLineThatHolds_15, sX2_firstLineThatHolds_18, sX2_firstLineThatHolds_19, sX2_firstLineThatHolds_20, sX2_firstLineThatHolds_21, sX2_firstLineThatHolds_24, sX2_firstLineThatHolds_27, sX2_firstLineThatHolds_28, sX2_firstLineThatHolds_29, sX2_firstLineThatHolds_30, sX2_firstLineThatHolds_33, sX2_firstLineThatHolds_34, sX2_firstLineThatHolds_35, sX2_firstLineThatHolds_36, sX2_firstLineThatHolds_39, sX2_firstLineThatHolds_42, sX2_firstLineThatHolds_43, h0, h2, k1, k2, v1, l1, hm3 le hne2, el, true_and, nI_1]
        refine ih (i + 1) M2 (by omega) (fun j hj => ?_) hm3
        by_cases e : j = i
        · rw [e]; exact q
        · exact hz j (by omega)
      · simp only [q, shk_0, shk_1, shk_2, shk_3, shk_4, shk_5, shk_6, shk_7, shk_8, shk_9, shk_10, shk_11, shk_12, shk_13, shk_14, shk_15, shk_16, shk_17, shk_18, shk_19, shk_20, shk_21, shk_22, shk_23, shk_24, shk_25, shk_26, shk_27, shk_28, shk_29, shk_30, shk_31, shk_32, shk_33, shk_34, shk_35, shk_36, shk_37, shk_38, shk_39, shk_40, shk_41, shk_42, shk_43, shk_44, shk_45, shk_46, shk_47, shk_48, shk_49, shk_50, shk_51, shk_52, shk_53, shk_54, shk_55, shk_56, shk_57, shk_58, shk_59, shk_60, shk_61, shk_62, shk_63, shk_64, shk_65, shk_66, shk_67, shk_68, shk_69, shk_70, shk_71, shk_72, shk_73, shk_74, shk_75, shk_76, shk_77, shk_78, shk_79, shk_80, shk_81, shk_82, shk_83, shk_84, nl_i, nl_r, nl_f, cat_i, cat_r, sk_0, sk_1, sk_2, sk_3, sk_4, tl_some, tl_none, bit0, bit1, bit_b2, b2_eq0, isB_1, isB_2, isA_0, isA_1, pr_0_0, pr_0_1, pr_0_2, pr_0_3, pr_0_4, pr_0_5, pr_0_6, pr_0_7, pr_0_8, pr_0_9, pr_0_10, pr_0_11, pr_1_0, pr_1_1, pr_1_2, pr_2_0, pr_2_1, pr_2_2, pr_2_3, pr_3_0, pr_3_1, pr_4_0, pr_4_1, pr_4_2, pr_4_3, pr_4_4, pr_4_5, pr_4_6, pr_4_7, pr_4_8, pr_5_0, pr_5_1, pr_6_0, pr_6_1, pr_7_0, pr_8_0, pr_8_1, pr_8_2, pr_9_0, pr_9_1, pr_10_0, pr_10_1, pr_10_2, pr_11_0, pr_11_1, pr_11_2, pr_11_3, pr_11_4, pr_12_0, pr_12_1, pr_12_2, pr_12_3, pr_12_4, pr_50_0, pr_50_1, pr_50_2, pr_50_3, pr_50_4, pr_50_5, pr_50_9, pr_50_10, pr_50_11, pr_50_12, pr_50_13, pr_50_14, pr_50_15, pr_50_16, pr_50_17, pr_50_18, pr_50_21, pr_50_22, pr_50_32, pr_50_33, pr_50_34, pr_50_35, pr_50_36, pr_50_37, pr_50_38, pr_50_43, pr_50_46, pr_50_47, pr_50_48, pr_50_50, pr_50_51, pr_50_52, pr_50_53, pr_50_54, up2_at, Nat.reduceEqDiff, ↓reduceIte, if_true, if_false, sX2_firstLineThatHolds_0, sX2_firstLineThatHolds_1, sX2_firstLineThatHolds_2, sX2_firstLineThatHolds_3, sX2_firstLineThatHolds_5, sX2_firstLineThatHolds_6, sX2_firstLineThatHolds_9, sX2_firstLineThatHolds_12, sX2_firstLineThatHolds_13, sX2_firstLineThatHolds_14, sX2_firstLineThatHolds_15, sX2_firstLineThatHolds_18, sX2_firstLineThatHolds_19, sX2_firstLineThatHolds_20, sX2_firstLineThatHolds_21, sX2_firstLineThatHolds_24, sX2_firstLineThatHolds_27, sX2_firstLineThatHolds_28, sX2_firstLineThatHolds_29, sX2_firstLineThatHolds_30, sX2_firstLineThatHolds_33, sX2_firstLineThatHolds_34, sX2_firstLineThatHolds_35, sX2_firstLineThatHolds_36, sX2_firstLineThatHolds_39, sX2_firstLineThatHolds_42, sX2_firstLineThatHolds_43]
        exact hok i M2 hil q hz hm3
    · obtain ⟨f1, f2⟩ := flat_at hil hj
      rw [hm st hne, hsteps _ f2, f1]
end K21
