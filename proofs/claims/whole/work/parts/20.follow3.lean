section K11
variable {d k m : Nat} {x y z u : Int32} {M : Mt} {N : Nt} {b : Bool} {Q : Qt}
def hAt (fr to : Nat → Int32) (h : Int32) (l : List Nat) : Int32 := l.foldl (fun h p => if fr p = h then to p else h) h
def wstep (fr to dy : Nat → Int32) (u : Int32) (s : Int32 × Int32) (p : Nat) : Int32 × Int32 := ((if fr p = s.1 then to p else s.1), (if (dy p).toInt ≤ u.toInt then (if fr p = s.1 then to p else s.1) else s.2))
theorem take_snoc {l : List Nat} {i : Nat} (h : i < l.length) : l.take (i + 1) = l.take i ++ [l.getD i 0] := by
  rw [List.take_succ_eq_append_getElem h, List.getD_eq_getElem?_getD, List.getElem?_eq_getElem h]; rfl
theorem getD_inj {l : List Nat} (hn : l.Nodup) {i j : Nat} (hi : i < l.length) (hj : j < l.length) (e : l.getD i 0 = l.getD j 0) : i = j := by
  rw [List.getD_eq_getElem?_getD, List.getElem?_eq_getElem hi, List.getD_eq_getElem?_getD, List.getElem?_eq_getElem hj] at e
  rcases Nat.lt_trichotomy i j with h | h | h
  · exact absurd e (List.pairwise_iff_getElem.mp hn i j hi hj h)
  · exact h
  · exact absurd e.symm (List.pairwise_iff_getElem.mp hn j i hj hi h)
theorem wstep_eq {fr to dy : Nat → Int32} {u : Int32} : ∀ (l : List Nat) (h : Int32), l.Pairwise (pOrd dy) → (l.foldl (wstep fr to dy u) (h, h)).2 = hAt fr to h (l.filter (fun p => decide ((dy p).toInt ≤ u.toInt)))
  | [], h, _ => rfl
  | p :: r, h, hp => by
    rw [List.pairwise_cons] at hp
    rw [List.foldl_cons]
    by_cases e : (dy p).toInt ≤ u.toInt
    · have ih := wstep_eq (fr := fr) (to := to) (dy := dy) (u := u) r (if fr p = h then to p else h) hp.2
      simp only [wstep, e, if_true] at ih ⊢
      rw [ih, List.filter_cons_of_pos (by simpa using e)]
      rfl
    · have hnone : ∀ q ∈ r, ¬ (dy q).toInt ≤ u.toInt := fun q hq => by
        have := hp.1 q hq
        unfold pOrd at this
        omega
      have key : ∀ (r : List Nat) (s : Int32 × Int32), (∀ q ∈ r, ¬ (dy q).toInt ≤ u.toInt) → (r.foldl (wstep fr to dy u) s).2 = s.2 := by
        intro r
        induction r with
        | nil => intro s _; rfl
        | cons q r ih =>
          intro s hq
          rw [List.foldl_cons, ih _ (fun q' h' => hq q' (List.mem_cons_of_mem _ h'))]
          simp only [wstep, hq q List.mem_cons_self, if_false]
      rw [key _ _ hnone, List.filter_eq_nil_iff.mpr (fun q hq => by
        rcases List.mem_cons.mp hq with rfl | hq
        · simpa using e
        · simpa using hnone q hq)]
      simp only [wstep, e, if_false]
      rfl
theorem hAt_congr {fr to fr' to' : Nat → Int32} : ∀ (l : List Nat) (h : Int32), (∀ p ∈ l, fr p = fr' p ∧ to p = to' p) → hAt fr to h l = hAt fr' to' h l
  | [], _, _ => rfl
  | p :: r, h, hp => by
    have e := hp p List.mem_cons_self
    have ih := hAt_congr r (if fr' p = h then to' p else h) (fun q hq => hp q (List.mem_cons_of_mem _ hq))
    unfold hAt at ih ⊢
    rw [List.foldl_cons, List.foldl_cons, e.1, e.2]
    exact ih
theorem fstep_1 {fr to dy : Nat → Int32} {mark : Int32} : ∀ (l : List Nat) (s : fS), (l.foldl (fstep fr to dy mark) s).1 = hAt fr to s.1 l
  | [], _ => rfl
  | p :: r, s => by
    rw [List.foldl_cons, fstep_1 r]
    unfold hAt
    rw [List.foldl_cons]
    congr 1
    unfold fstep
    split <;> rfl
theorem and1_1 : (1 : Int32) &&& 1 = 1 := by decide
theorem and1_0 : (0 : Int32) &&& 1 = 0 := by decide
set_option maxHeartbeats 8000000 in
theorem lX12_walk {ln : List Nat} {h0 : Int32} (hlt : ∀ p ∈ ln, p < 60) (hnd : ln.Nodup) (hl : ln.length ≤ 60) (h20 : M 50 20 = nI ln.length) (h65 : ∀ j, j < ln.length → M 65 j = nI (ln.getD j 0))
    (hq : ∀ M', (∀ o, ¬ o = 66 → M' o = M o) → (∀ j, j < ln.length → M' 66 (ln.getD j 0) = b2 (¬ M 58 (ln.getD j 0) = hAt (M 58) (M 59) h0 (ln.take j))) → Q (some (.int (ln.foldl (wstep (M 58) (M 59) (M 60) u) (h0, h0)).2)) M' N (pr b)) :
    ∀ (j i : Nat) (h th : Int32) (M' : Mt) (a7 : Value), i + j = ln.length → h = hAt (M 58) (M 59) h0 (ln.take i) → (ln.drop i).foldl (wstep (M 58) (M 59) (M 60) u) (h, th) = ln.foldl (wstep (M 58) (M 59) (M 60) u) (h0, h0) → (∀ o, ¬ o = 66 → M' o = M o) → (∀ j, j < i → M' 66 (ln.getD j 0) = b2 (¬ M 58 (ln.getD j 0) = hAt (M 58) (M 59) h0 (ln.take j))) →
      Wp mX12_follow d 138 [.ref (50 : Nat), .int x, .int u, .int y, .int h, .int th, .int (nI i), a7] [] M' N (pr b) Q := by
  intro j
  induction j with
  | zero =>
    intro i h th M' a7 hi hh hf h1 h66
    have e : i = ln.length := by omega
    have e20 : M' 50 20 = nI i := by rw [h1 50 (by decide), e]; exact h20
    rw [sX12_follow_138]
    simp only [shk_0, shk_1, shk_2, shk_3, shk_4, shk_5, shk_6, shk_7, shk_8, shk_9, shk_10, shk_11, shk_12, shk_13, shk_14, shk_15, shk_16, shk_17, shk_18, shk_19, shk_20, shk_21, shk_22, shk_23, shk_24, shk_25, shk_26, shk_27, shk_28, shk_29, shk_30, shk_31, shk_32, shk_33, shk_34, shk_35, shk_36, shk_37, shk_38, shk_39, shk_40, shk_41, shk_42, shk_43, shk_44, shk_45, shk_46, shk_47, shk_48, shk_49, shk_50, shk_51, shk_52, shk_53, shk_54, shk_55, shk_56, shk_57, shk_58, shk_59, shk_60, shk_61, shk_62, shk_63, shk_64, shk_65, shk_66, shk_67, shk_68, shk_69, shk_70, shk_71, shk_72, shk_73, shk_74, shk_75, shk_76, shk_77, shk_78, shk_79, shk_80, shk_81, shk_82, shk_83, shk_84, nl_i, nl_r, nl_f, cat_i, cat_r, sk_0, sk_1, sk_2, sk_3, sk_4, tl_some, tl_none, bit0, bit1, bit_b2, b2_eq0, isB_1, isB_2, isA_0, isA_1, pr_0_0, pr_0_1, pr_0_2, pr_0_3, pr_0_4, pr_0_5, pr_0_6, pr_0_7, pr_0_8, pr_0_9, pr_0_10, pr_0_11, pr_1_0, pr_1_1, pr_1_2, pr_2_0, pr_2_1, pr_2_2, pr_2_3, pr_3_0, pr_3_1, pr_4_0, pr_4_1, pr_4_2, pr_4_3, pr_4_4, pr_4_5, pr_4_6, pr_4_7, pr_4_8, pr_5_0, pr_5_1, pr_6_0, pr_6_1, pr_7_0, pr_8_0, pr_8_1, pr_8_2, pr_9_0, pr_9_1, pr_10_0, pr_10_1, pr_10_2, pr_11_0, pr_11_1, pr_11_2, pr_11_3, pr_11_4, pr_12_0, pr_12_1, pr_12_2, pr_12_3, pr_12_4, pr_50_0, pr_50_1, pr_50_2, pr_50_3, pr_50_4, pr_50_5, pr_50_9, pr_50_10, pr_50_11, pr_50_12, pr_50_13, pr_50_14, pr_50_15, pr_50_16, pr_50_17, pr_50_18, pr_50_21, pr_50_22, pr_50_32, pr_50_33, pr_50_34, pr_50_35, pr_50_36, pr_50_37, pr_50_38, pr_50_43, pr_50_46, pr_50_47, pr_50_48, pr_50_50, pr_50_51, pr_50_52, pr_50_53, pr_50_54, up2_at, Nat.reduceEqDiff, ↓reduceIte, if_true, if_false, sX12_follow_140, sX12_follow_141, sX12_follow_144, sX12_follow_220, sX12_follow_222, e20, Int32.le_refl]
    have := hq M' h1 (fun j hj => h66 j (by omega))
    rw [← hf, e, List.drop_of_length_le (Nat.le_refl _)] at this
    exact this
  | succ j ih =>
    intro i h th M' a7 hi hh hf h1 h66
    have e20 : M' 50 20 = nI ln.length := by rw [h1 50 (by decide)]; exact h20
    have c1 : ¬ nI ln.length ≤ nI i := nI_ge (by omega) (by omega)
    have v1 : vp_in (nI i) 60 := vp_in_nI (by omega) (by omega)
    have l1 := cl_nI (show i < 2 ^ 31 by omega)
    have e65 : M' 65 i = nI (ln.getD i 0) := by rw [h1 65 (by decide)]; exact h65 i (by omega)
    have hp := hlt _ (getD_mem (l := ln) (j := i) (by omega))
    have hd : ln.drop i = ln.getD i 0 :: ln.drop (i + 1) := by
      rw [List.drop_eq_getElem_cons (by omega), List.getD_eq_getElem?_getD, List.getElem?_eq_getElem (by omega)]; rfl
    have ht := take_snoc (l := ln) (i := i) (by omega)
    have hinj : ∀ j, j < i → ¬ ln.getD j 0 = ln.getD i 0 := fun j hj e => by
      have := getD_inj hnd (by omega) (by omega) e
      omega
    rw [hd, List.foldl_cons] at hf
    have hst : ∀ M2 : Mt, (∀ j, j < i → M2 66 (ln.getD j 0) = b2 (¬ M 58 (ln.getD j 0) = hAt (M 58) (M 59) h0 (ln.take j))) → M2 66 (ln.getD i 0) = b2 (¬ M 58 (ln.getD i 0) = h) → ∀ j, j < i + 1 → M2 66 (ln.getD j 0) = b2 (¬ M 58 (ln.getD j 0) = hAt (M 58) (M 59) h0 (ln.take j)) := fun M2 g1 g2 j hj => by
      by_cases e : j = i
      · subst e; rw [g2, hh]
      · exact g1 j (by omega)
    have hh2 : hAt (M 58) (M 59) h0 (ln.take (i + 1)) = if M 58 (ln.getD i 0) = h then M 59 (ln.getD i 0) else h := by
      rw [ht, hh]
      unfold hAt
      rw [List.foldl_append]
      rfl
    generalize ln.getD i 0 = p at *
    have v2 : vp_in (nI p) 60 := vp_in_nI (by omega) (by omega)
    have l2 := cl_nI (show p < 2 ^ 31 by omega)
    have e58 := h1 58 (by decide)
    have e59 := h1 59 (by decide)
    have e60 := h1 60 (by decide)
    have g1 : (u < M 60 p) = ¬ (M 60 p).toInt ≤ u.toInt := by rw [toI_lt]; simp
    rw [sX12_follow_138]
    simp only [shk_0, shk_1, shk_2, shk_3, shk_4, shk_5, shk_6, shk_7, shk_8, shk_9, shk_10, shk_11, shk_12, shk_13, shk_14, shk_15, shk_16, shk_17, shk_18, shk_19, shk_20, shk_21, shk_22, shk_23, shk_24, shk_25, shk_26, shk_27, shk_28, shk_29, shk_30, shk_31, shk_32, shk_33, shk_34, shk_35, shk_36, shk_37, shk_38, shk_39, shk_40, shk_41, shk_42, shk_43, shk_44, shk_45, shk_46, shk_47, shk_48, shk_49, shk_50, shk_51, shk_52, shk_53, shk_54, shk_55, shk_56, shk_57, shk_58, shk_59, shk_60, shk_61, shk_62, shk_63, shk_64, shk_65, shk_66, shk_67, shk_68, shk_69, shk_70, shk_71, shk_72, shk_73, shk_74, shk_75, shk_76, shk_77, shk_78, shk_79, shk_80, shk_81, shk_82, shk_83, shk_84, nl_i, nl_r, nl_f, cat_i, cat_r, sk_0, sk_1, sk_2, sk_3, sk_4, tl_some, tl_none, bit0, bit1, bit_b2, b2_eq0, isB_1, isB_2, isA_0, isA_1, pr_0_0, pr_0_1, pr_0_2, pr_0_3, pr_0_4, pr_0_5, pr_0_6, pr_0_7, pr_0_8, pr_0_9, pr_0_10, pr_0_11, pr_1_0, pr_1_1, pr_1_2, pr_2_0, pr_2_1, pr_2_2, pr_2_3, pr_3_0, pr_3_1, pr_4_0, pr_4_1, pr_4_2, pr_4_3, pr_4_4, pr_4_5, pr_4_6, pr_4_7, pr_4_8, pr_5_0, pr_5_1, pr_6_0, pr_6_1, pr_7_0, pr_8_0, pr_8_1, pr_8_2, pr_9_0, pr_9_1, pr_10_0, pr_10_1, pr_10_2, pr_11_0, pr_11_1, pr_11_2, pr_11_3, pr_11_4, pr_12_0, pr_12_1, pr_12_2, pr_12_3, pr_12_4, pr_50_0, pr_50_1, pr_50_2, pr_50_3, pr_50_4, pr_50_5, pr_50_9, pr_50_10, pr_50_11, pr_50_12, pr_50_13, pr_50_14, pr_50_15, pr_50_16, pr_50_17, pr_50_18, pr_50_21, pr_50_22, pr_50_32, pr_50_33, pr_50_34, pr_50_35, pr_50_36, pr_50_37, pr_50_38, pr_50_43, pr_50_46, pr_50_47, pr_50_48, pr_50_50, pr_50_51, pr_50_52, pr_50_53, pr_50_54, up2_at, Nat.reduceEqDiff, ↓reduceIte, if_true, if_false, sX12_follow_140, sX12_follow_141, sX12_follow_144, sX12_follow_147, sX12_follow_148, sX12_follow_151, sX12_follow_153, sX12_follow_154, sX12_follow_156, sX12_follow_157, sX12_follow_160, sX12_follow_162, sX12_follow_163, sX12_follow_166, sX12_follow_168, sX12_follow_169, sX12_follow_171, sX12_follow_174, sX12_follow_175, sX12_follow_178, sX12_follow_179, sX12_follow_180, sX12_follow_181, sX12_follow_184, sX12_follow_186, sX12_follow_187, sX12_follow_190, sX12_follow_191, sX12_follow_194, sX12_follow_196, sX12_follow_197, sX12_follow_199, sX12_follow_200, sX12_follow_203, sX12_follow_205, sX12_follow_206, sX12_follow_207, sX12_follow_210, sX12_follow_212, sX12_follow_214, sX12_follow_217, e20, c1, v1, l1, e65, v2, l2, e58, e59, e60, true_and, nI_1, and1_1, and1_0, show ¬ (1 : Int32) = 0 by decide, g1]
    have fr : ∀ w : Int32, ∀ o, ¬ o = 66 → up2 M' 66 p w o = M o := fun w o ho => by rw [up2_ne o ho]; exact h1 o ho
    have g66 : ∀ w : Int32, ∀ j, j < i → up2 M' 66 p w 66 (ln.getD j 0) = b2 (¬ M 58 (ln.getD j 0) = hAt (M 58) (M 59) h0 (ln.take j)) := fun w j hj => by rw [up2_at, if_pos rfl, if_neg (hinj j hj)]; exact h66 j hj
    have gp : ∀ w : Int32, up2 M' 66 p w 66 p = w := fun w => by rw [up2_at, if_pos rfl, if_pos rfl]
    by_cases a1 : M 58 p = h
    · by_cases a2 : (M 60 p).toInt ≤ u.toInt
      · simp only [a1, a2, not_true, if_true, if_false, shk_0, shk_1, shk_2, shk_3, shk_4, shk_5, shk_6, shk_7, shk_8, shk_9, shk_10, shk_11, shk_12, shk_13, shk_14, shk_15, shk_16, shk_17, shk_18, shk_19, shk_20, shk_21, shk_22, shk_23, shk_24, shk_25, shk_26, shk_27, shk_28, shk_29, shk_30, shk_31, shk_32, shk_33, shk_34, shk_35, shk_36, shk_37, shk_38, shk_39, shk_40, shk_41, shk_42, shk_43, shk_44, shk_45, shk_46, shk_47, shk_48, shk_49, shk_50, shk_51, shk_52, shk_53, shk_54, shk_55, shk_56, shk_57, shk_58, shk_59, shk_60, shk_61, shk_62, shk_63, shk_64, shk_65, shk_66, shk_67, shk_68, shk_69, shk_70, shk_71, shk_72, shk_73, shk_74, shk_75, shk_76, shk_77, shk_78, shk_79, shk_80, shk_81, shk_82, shk_83, shk_84, nl_i, nl_r, nl_f, cat_i, cat_r, sk_0, sk_1, sk_2, sk_3, sk_4, tl_some, tl_none, bit0, bit1, bit_b2, b2_eq0, isB_1, isB_2, isA_0, isA_1, pr_0_0, pr_0_1, pr_0_2, pr_0_3, pr_0_4, pr_0_5, pr_0_6, pr_0_7, pr_0_8, pr_0_9, pr_0_10, pr_0_11, pr_1_0, pr_1_1, pr_1_2, pr_2_0, pr_2_1, pr_2_2, pr_2_3, pr_3_0, pr_3_1, pr_4_0, pr_4_1, pr_4_2, pr_4_3, pr_4_4, pr_4_5, pr_4_6, pr_4_7, pr_4_8, pr_5_0, pr_5_1, pr_6_0, pr_6_1, pr_7_0, pr_8_0, pr_8_1, pr_8_2, pr_9_0, pr_9_1, pr_10_0, pr_10_1, pr_10_2, pr_11_0, pr_11_1, pr_11_2, pr_11_3, pr_11_4, pr_12_0, pr_12_1, pr_12_2, pr_12_3, pr_12_4, pr_50_0, pr_50_1, pr_50_2, pr_50_3, pr_50_4, pr_50_5, pr_50_9, pr_50_10, pr_50_11, pr_50_12, pr_50_13, pr_50_14, pr_50_15, pr_50_16, pr_50_17, pr_50_18, pr_50_21, pr_50_22, pr_50_32, pr_50_33, pr_50_34, pr_50_35, pr_50_36, pr_50_37, pr_50_38, pr_50_43, pr_50_46, pr_50_47, pr_50_48, pr_50_50, pr_50_51, pr_50_52, pr_50_53, pr_50_54, up2_at, Nat.reduceEqDiff, ↓reduceIte, if_true, if_false]
        refine ih (i + 1) _ _ _ _ (by omega) (by rw [hh2, if_pos a1]) ?_ (fr 0) (hst _ (g66 0) (by rw [gp]; simp [b2, a1]))
        rw [← hf]; simp only [wstep, a1, a2, if_true]
      · simp only [a1, a2, not_true, not_false_iff, if_true, if_false, shk_0, shk_1, shk_2, shk_3, shk_4, shk_5, shk_6, shk_7, shk_8, shk_9, shk_10, shk_11, shk_12, shk_13, shk_14, shk_15, shk_16, shk_17, shk_18, shk_19, shk_20, shk_21, shk_22, shk_23, shk_24, shk_25, shk_26, shk_27, shk_28, shk_29, shk_30, shk_31, shk_32, shk_33, shk_34, shk_35, shk_36, shk_37, shk_38, shk_39, shk_40, shk_41, shk_42, shk_43, shk_44, shk_45, shk_46, shk_47, shk_48, shk_49, shk_50, shk_51, shk_52, shk_53, shk_54, shk_55, shk_56, shk_57, shk_58, shk_59, shk_60, shk_61, shk_62, shk_63, shk_64, shk_65, shk_66, shk_67, shk_68, shk_69, shk_70, shk_71, shk_72, shk_73, shk_74, shk_75, shk_76, shk_77, shk_78, shk_79, shk_80, shk_81, shk_82, shk_83, shk_84, nl_i, nl_r, nl_f, cat_i, cat_r, sk_0, sk_1, sk_2, sk_3, sk_4, tl_some, tl_none, bit0, bit1, bit_b2, b2_eq0, isB_1, isB_2, isA_0, isA_1, pr_0_0, pr_0_1, pr_0_2, pr_0_3, pr_0_4, pr_0_5, pr_0_6, pr_0_7, pr_0_8, pr_0_9, pr_0_10, pr_0_11, pr_1_0, pr_1_1, pr_1_2, pr_2_0, pr_2_1, pr_2_2, pr_2_3, pr_3_0, pr_3_1, pr_4_0, pr_4_1, pr_4_2, pr_4_3, pr_4_4, pr_4_5, pr_4_6, pr_4_7, pr_4_8, pr_5_0, pr_5_1, pr_6_0, pr_6_1, pr_7_0, pr_8_0, pr_8_1, pr_8_2, pr_9_0, pr_9_1, pr_10_0, pr_10_1, pr_10_2, pr_11_0, pr_11_1, pr_11_2, pr_11_3, pr_11_4, pr_12_0, pr_12_1, pr_12_2, pr_12_3, pr_12_4, pr_50_0, pr_50_1, pr_50_2, pr_50_3, pr_50_4, pr_50_5, pr_50_9, pr_50_10, pr_50_11, pr_50_12, pr_50_13, pr_50_14, pr_50_15, pr_50_16, pr_50_17, pr_50_18, pr_50_21, pr_50_22, pr_50_32, pr_50_33, pr_50_34, pr_50_35, pr_50_36, pr_50_37, pr_50_38, pr_50_43, pr_50_46, pr_50_47, pr_50_48, pr_50_50, pr_50_51, pr_50_52, pr_50_53, pr_50_54, up2_at, Nat.reduceEqDiff, ↓reduceIte, if_true, if_false]
        refine ih (i + 1) _ _ _ _ (by omega) (by rw [hh2, if_pos a1]) ?_ (fr 0) (hst _ (g66 0) (by rw [gp]; simp [b2, a1]))
        rw [← hf]; simp only [wstep, a1, a2, if_true, if_false]
    · by_cases a2 : (M 60 p).toInt ≤ u.toInt
      · simp only [a1, a2, not_true, if_true, if_false, shk_0, shk_1, shk_2, shk_3, shk_4, shk_5, shk_6, shk_7, shk_8, shk_9, shk_10, shk_11, shk_12, shk_13, shk_14, shk_15, shk_16, shk_17, shk_18, shk_19, shk_20, shk_21, shk_22, shk_23, shk_24, shk_25, shk_26, shk_27, shk_28, shk_29, shk_30, shk_31, shk_32, shk_33, shk_34, shk_35, shk_36, shk_37, shk_38, shk_39, shk_40, shk_41, shk_42, shk_43, shk_44, shk_45, shk_46, shk_47, shk_48, shk_49, shk_50, shk_51, shk_52, shk_53, shk_54, shk_55, shk_56, shk_57, shk_58, shk_59, shk_60, shk_61, shk_62, shk_63, shk_64, shk_65, shk_66, shk_67, shk_68, shk_69, shk_70, shk_71, shk_72, shk_73, shk_74, shk_75, shk_76, shk_77, shk_78, shk_79, shk_80, shk_81, shk_82, shk_83, shk_84, nl_i, nl_r, nl_f, cat_i, cat_r, sk_0, sk_1, sk_2, sk_3, sk_4, tl_some, tl_none, bit0, bit1, bit_b2, b2_eq0, isB_1, isB_2, isA_0, isA_1, pr_0_0, pr_0_1, pr_0_2, pr_0_3, pr_0_4, pr_0_5, pr_0_6, pr_0_7, pr_0_8, pr_0_9, pr_0_10, pr_0_11, pr_1_0, pr_1_1, pr_1_2, pr_2_0, pr_2_1, pr_2_2, pr_2_3, pr_3_0, pr_3_1, pr_4_0, pr_4_1, pr_4_2, pr_4_3, pr_4_4, pr_4_5, pr_4_6, pr_4_7, pr_4_8, pr_5_0, pr_5_1, pr_6_0, pr_6_1, pr_7_0, pr_8_0, pr_8_1, pr_8_2, pr_9_0, pr_9_1, pr_10_0, pr_10_1, pr_10_2, pr_11_0, pr_11_1, pr_11_2, pr_11_3, pr_11_4, pr_12_0, pr_12_1, pr_12_2, pr_12_3, pr_12_4, pr_50_0, pr_50_1, pr_50_2, pr_50_3, pr_50_4, pr_50_5, pr_50_9, pr_50_10, pr_50_11, pr_50_12, pr_50_13, pr_50_14, pr_50_15, pr_50_16, pr_50_17, pr_50_18, pr_50_21, pr_50_22, pr_50_32, pr_50_33, pr_50_34, pr_50_35, pr_50_36, pr_50_37, pr_50_38, pr_50_43, pr_50_46, pr_50_47, pr_50_48, pr_50_50, pr_50_51, pr_50_52, pr_50_53, pr_50_54, up2_at, Nat.reduceEqDiff, ↓reduceIte, if_true, if_false, show ¬ (1 : Int32) = 0 by decide]
        refine ih (i + 1) _ _ _ _ (by omega) (by rw [hh2, if_neg a1]) ?_ (fr 1) (hst _ (g66 1) (by rw [gp]; simp [b2, a1]))
        rw [← hf]; simp only [wstep, a1, a2, if_true, if_false]
      · simp only [a1, a2, not_true, not_false_iff, if_true, if_false, shk_0, shk_1, shk_2, shk_3, shk_4, shk_5, shk_6, shk_7, shk_8, shk_9, shk_10, shk_11, shk_12, shk_13, shk_14, shk_15, shk_16, shk_17, shk_18, shk_19, shk_20, shk_21, shk_22, shk_23, shk_24, shk_25, shk_26, shk_27, shk_28, shk_29, shk_30, shk_31, shk_32, shk_33, shk_34, shk_35, shk_36, shk_37, shk_38, shk_39, shk_40, shk_41, shk_42, shk_43, shk_44, shk_45, shk_46, shk_47, shk_48, shk_49, shk_50, shk_51, shk_52, shk_53, shk_54, shk_55, shk_56, shk_57, shk_58, shk_59, shk_60, shk_61, shk_62, shk_63, shk_64, shk_65, shk_66, shk_67, shk_68, shk_69, shk_70, shk_71, shk_72, shk_73, shk_74, shk_75, shk_76, shk_77, shk_78, shk_79, shk_80, shk_81, shk_82, shk_83, shk_84, nl_i, nl_r, nl_f, cat_i, cat_r, sk_0, sk_1, sk_2, sk_3, sk_4, tl_some, tl_none, bit0, bit1, bit_b2, b2_eq0, isB_1, isB_2, isA_0, isA_1, pr_0_0, pr_0_1, pr_0_2, pr_0_3, pr_0_4, pr_0_5, pr_0_6, pr_0_7, pr_0_8, pr_0_9, pr_0_10, pr_0_11, pr_1_0, pr_1_1, pr_1_2, pr_2_0, pr_2_1, pr_2_2, pr_2_3, pr_3_0, pr_3_1, pr_4_0, pr_4_1, pr_4_2, pr_4_3, pr_4_4, pr_4_5, pr_4_6, pr_4_7, pr_4_8, pr_5_0, pr_5_1, pr_6_0, pr_6_1, pr_7_0, pr_8_0, pr_8_1, pr_8_2, pr_9_0, pr_9_1, pr_10_0, pr_10_1, pr_10_2, pr_11_0, pr_11_1, pr_11_2, pr_11_3, pr_11_4, pr_12_0, pr_12_1, pr_12_2, pr_12_3, pr_12_4, pr_50_0, pr_50_1, pr_50_2, pr_50_3, pr_50_4, pr_50_5, pr_50_9, pr_50_10, pr_50_11, pr_50_12, pr_50_13, pr_50_14, pr_50_15, pr_50_16, pr_50_17, pr_50_18, pr_50_21, pr_50_22, pr_50_32, pr_50_33, pr_50_34, pr_50_35, pr_50_36, pr_50_37, pr_50_38, pr_50_43, pr_50_46, pr_50_47, pr_50_48, pr_50_50, pr_50_51, pr_50_52, pr_50_53, pr_50_54, up2_at, Nat.reduceEqDiff, ↓reduceIte, if_true, if_false, show ¬ (1 : Int32) = 0 by decide]
        refine ih (i + 1) _ _ _ _ (by omega) (by rw [hh2, if_neg a1]) ?_ (fr 1) (hst _ (g66 1) (by rw [gp]; simp [b2, a1]))
        rw [← hf]; simp only [wstep, a1, a2, if_true, if_false]
set_option maxHeartbeats 8000000 in
theorem k12_follow {l : List Nat} {hx : Nat} (h8 : hx < 8) (hk : M 50 19 = nI k) (h60 : k ≤ 60) (hmem : ∀ p, p ∈ l ↔ p < k) (hpw : l.Pairwise (pOrd (M 60)))
    (hq : ∀ ln M', ln = l.filter (onR (M 57) (M 63) (M 64) (nI hx) y) → (∀ o, ¬ o = 50 → ¬ o = 65 → ¬ o = 66 → M' o = M o) → (∀ j, ¬ j = 20 → M' 50 j = M 50 j) → M' 50 20 = nI ln.length → (∀ j, j < ln.length → M' 65 j = nI (ln.getD j 0)) → (∀ j, j < ln.length → M' 66 (ln.getD j 0) = b2 (¬ M 58 (ln.getD j 0) = hAt (M 58) (M 59) (M 54 hx) (ln.take j))) → Q (some (.int (hAt (M 58) (M 59) (M 54 hx) (ln.filter (fun p => decide ((M 60 p).toInt ≤ u.toInt)))))) M' N (pr b)) :
    Wp mX12_follow (d + 1) 0 [.ref (50 : Nat), .int (nI hx), .int u, .int y, .float 0, .float 0, .float 0, .float 0] [] M N (pr b) Q := by
  simp only [shk_0, shk_1, shk_2, shk_3, shk_4, shk_5, shk_6, shk_7, shk_8, shk_9, shk_10, shk_11, shk_12, shk_13, shk_14, shk_15, shk_16, shk_17, shk_18, shk_19, shk_20, shk_21, shk_22, shk_23, shk_24, shk_25, shk_26, shk_27, shk_28, shk_29, shk_30, shk_31, shk_32, shk_33, shk_34, shk_35, shk_36, shk_37, shk_38, shk_39, shk_40, shk_41, shk_42, shk_43, shk_44, shk_45, shk_46, shk_47, shk_48, shk_49, shk_50, shk_51, shk_52, shk_53, shk_54, shk_55, shk_56, shk_57, shk_58, shk_59, shk_60, shk_61, shk_62, shk_63, shk_64, shk_65, shk_66, shk_67, shk_68, shk_69, shk_70, shk_71, shk_72, shk_73, shk_74, shk_75, shk_76, shk_77, shk_78, shk_79, shk_80, shk_81, shk_82, shk_83, shk_84, nl_i, nl_r, nl_f, cat_i, cat_r, sk_0, sk_1, sk_2, sk_3, sk_4, tl_some, tl_none, bit0, bit1, bit_b2, b2_eq0, isB_1, isB_2, isA_0, isA_1, pr_0_0, pr_0_1, pr_0_2, pr_0_3, pr_0_4, pr_0_5, pr_0_6, pr_0_7, pr_0_8, pr_0_9, pr_0_10, pr_0_11, pr_1_0, pr_1_1, pr_1_2, pr_2_0, pr_2_1, pr_2_2, pr_2_3, pr_3_0, pr_3_1, pr_4_0, pr_4_1, pr_4_2, pr_4_3, pr_4_4, pr_4_5, pr_4_6, pr_4_7, pr_4_8, pr_5_0, pr_5_1, pr_6_0, pr_6_1, pr_7_0, pr_8_0, pr_8_1, pr_8_2, pr_9_0, pr_9_1, pr_10_0, pr_10_1, pr_10_2, pr_11_0, pr_11_1, pr_11_2, pr_11_3, pr_11_4, pr_12_0, pr_12_1, pr_12_2, pr_12_3, pr_12_4, pr_50_0, pr_50_1, pr_50_2, pr_50_3, pr_50_4, pr_50_5, pr_50_9, pr_50_10, pr_50_11, pr_50_12, pr_50_13, pr_50_14, pr_50_15, pr_50_16, pr_50_17, pr_50_18, pr_50_21, pr_50_22, pr_50_32, pr_50_33, pr_50_34, pr_50_35, pr_50_36, pr_50_37, pr_50_38, pr_50_43, pr_50_46, pr_50_47, pr_50_48, pr_50_50, pr_50_51, pr_50_52, pr_50_53, pr_50_54, up2_at, Nat.reduceEqDiff, ↓reduceIte, if_true, if_false, sX12_follow_0, sX12_follow_1, sX12_follow_2, sX12_follow_5, sX12_follow_6]
  refine lX12_build (M := up2 M 50 20 0) (by rw [up2_k (by decide)]; exact hk) h60 (fun ln M' a5 hln hpw2 hmem2 g1 g50 g20 g65 => ?_) k 0 [] _ _ (by omega) List.Pairwise.nil (fun p => ?_) (fun o _ _ => rfl) (fun j _ => rfl) (by rw [up2_at, if_pos rfl, if_pos rfl]; rfl) (fun j hj => absurd hj (by simp))
  · have r : ∀ o, ¬ o = 50 → up2 M 50 20 0 o = M o := fun o ho => up2_ne o ho
    have s1 : ∀ o, ¬ o = 65 → ¬ o = 50 → M' o = M o := fun o a c => by rw [g1 o a c, r o c]
    rw [r 60 (by decide)] at hpw2
    rw [r 57 (by decide), r 63 (by decide), r 64 (by decide)] at hmem2
    have eln : ln = l.filter (onR (M 57) (M 63) (M 64) (nI hx) y) := by
      refine sorted_uniq ln _ hpw2 (hpw.filter _) (fun p => ?_)
      rw [hmem2, List.mem_filter, hmem]
    have v : vp_in (nI hx) 8 := vp_in_nI h8 (by omega)
    have cl := cl_nI (show hx < 2 ^ 31 by omega)
    have e54 := s1 54 (by decide) (by decide)
    have e58 := s1 58 (by decide) (by decide)
    have e59 := s1 59 (by decide) (by decide)
    have e60 := s1 60 (by decide) (by decide)
    simp only [shk_0, shk_1, shk_2, shk_3, shk_4, shk_5, shk_6, shk_7, shk_8, shk_9, shk_10, shk_11, shk_12, shk_13, shk_14, shk_15, shk_16, shk_17, shk_18, shk_19, shk_20, shk_21, shk_22, shk_23, shk_24, shk_25, shk_26, shk_27, shk_28, shk_29, shk_30, shk_31, shk_32, shk_33, shk_34, shk_35, shk_36, shk_37, shk_38, shk_39, shk_40, shk_41, shk_42, shk_43, shk_44, shk_45, shk_46, shk_47, shk_48, shk_49, shk_50, shk_51, shk_52, shk_53, shk_54, shk_55, shk_56, shk_57, shk_58, shk_59, shk_60, shk_61, shk_62, shk_63, shk_64, shk_65, shk_66, shk_67, shk_68, shk_69, shk_70, shk_71, shk_72, shk_73, shk_74, shk_75, shk_76, shk_77, shk_78, shk_79, shk_80, shk_81, shk_82, shk_83, shk_84, nl_i, nl_r, nl_f, cat_i, cat_r, sk_0, sk_1, sk_2, sk_3, sk_4, tl_some, tl_none, bit0, bit1, bit_b2, b2_eq0, isB_1, isB_2, isA_0, isA_1, pr_0_0, pr_0_1, pr_0_2, pr_0_3, pr_0_4, pr_0_5, pr_0_6, pr_0_7, pr_0_8, pr_0_9, pr_0_10, pr_0_11, pr_1_0, pr_1_1, pr_1_2, pr_2_0, pr_2_1, pr_2_2, pr_2_3, pr_3_0, pr_3_1, pr_4_0, pr_4_1, pr_4_2, pr_4_3, pr_4_4, pr_4_5, pr_4_6, pr_4_7, pr_4_8, pr_5_0, pr_5_1, pr_6_0, pr_6_1, pr_7_0, pr_8_0, pr_8_1, pr_8_2, pr_9_0, pr_9_1, pr_10_0, pr_10_1, pr_10_2, pr_11_0, pr_11_1, pr_11_2, pr_11_3, pr_11_4, pr_12_0, pr_12_1, pr_12_2, pr_12_3, pr_12_4, pr_50_0, pr_50_1, pr_50_2, pr_50_3, pr_50_4, pr_50_5, pr_50_9, pr_50_10, pr_50_11, pr_50_12, pr_50_13, pr_50_14, pr_50_15, pr_50_16, pr_50_17, pr_50_18, pr_50_21, pr_50_22, pr_50_32, pr_50_33, pr_50_34, pr_50_35, pr_50_36, pr_50_37, pr_50_38, pr_50_43, pr_50_46, pr_50_47, pr_50_48, pr_50_50, pr_50_51, pr_50_52, pr_50_53, pr_50_54, up2_at, Nat.reduceEqDiff, ↓reduceIte, if_true, if_false, sX12_follow_123, sX12_follow_124, sX12_follow_127, sX12_follow_128, sX12_follow_129, sX12_follow_131, sX12_follow_133, sX12_follow_135, sX12_follow_136, v, cl, e54, true_and]
    refine lX12_walk (M := M') (ln := ln) (h0 := M 54 hx) (fun p hp => by have := (hmem2 p).mp hp; omega) (nodup_of_pOrd hpw2) hln g20 g65 (fun M2 f1 f66 => ?_) ln.length 0 _ _ _ _ (by omega) rfl rfl (fun o _ => rfl) (fun j hj => absurd hj (by omega))
    rw [e58, e59, e60, wstep_eq ln _ hpw2]
    rw [e58, e59] at f66
    exact hq ln M2 eln (fun o a c e => by rw [f1 o e]; exact s1 o c a) (fun j hj => by rw [f1 50 (by decide), g50 j hj, up2_k hj]) (by rw [f1 50 (by decide)]; exact g20) (fun j hj => by rw [f1 65 (by decide)]; exact g65 j hj) f66
  · simp
end K11
