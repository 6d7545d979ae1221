section K42
variable {d : Nat} {x y z : Int32} {M M' M0 : Mt} {N N' : Nt} {b : Bool} {Q : Qt} {C : Nat → Nat} {l m dl st : Nat}
theorem PC.tk {j tc sz : Nat} {ops : List Op1} (hD : DR b dl st) (h : PC C l dl st M0 M j tc sz ops) (ht : TKs C l m M0) : TKs C l m M := by
  obtain ⟨h0, h1, h2, h3, h9, h9', hne, d8, d34, d35, d36, s8, s34, s35, s36⟩ := hD
  obtain ⟨f, -⟩ := h
  refine ⟨?_, fun i hi => ?_, ht.2.2⟩
  · rw [f 8 (by decide) (fun e => d8 e.symm) (fun e => s8 e.symm)]; exact ht.1
  · rw [f 34 (by decide) (fun e => d34 e.symm) (fun e => s34 e.symm), f 35 (by decide) (fun e => d35 e.symm) (fun e => s35 e.symm), f 36 (by decide) (fun e => d36 e.symm) (fun e => s36 e.symm)]; exact ht.2.1 i hi
/-- one step more is written -/
theorem cW {j tc sz k v : Nat} {ops : List Op1} (hD : DR b dl st) (h : PC C l dl st M0 M j tc sz ops) (hs : sz + ops.length < 600) (hq : ∀ M', PC C l dl st M0 M' j tc sz (ops ++ [(k, v)]) → Q none M' N (pr b)) : Wp mX2_write d 0 [.ref dl, .int (nI k), .int (nI v)] [] M N (pr b) Q := by
  obtain ⟨f, ⟨f2, f3⟩, f4, f5, f6, f7, f8, f9, f10, f11⟩ := h
  refine wX2_write hD f8 hs (hq _ ?_)
  obtain ⟨h0, h1, h2, h3, h9, h9', hne, d8, d34, d35, d36, s8, s34, s35, s36⟩ := hD
  have e9 : ∀ w w' i, up2 (up2 M st (sz + ops.length) w) dl 5 w' 9 i = M 9 i := fun w w' i => by rw [up2_ne 9 (fun e => h9 e.symm), up2_ne 9 (fun e => h9' e.symm)]
  have es : ∀ w w', up2 (up2 M st (sz + ops.length) w) dl 5 w' st = up2 M st (sz + ops.length) w st := fun w w' => up2_ne st hne
  refine ⟨fun o k1 k2 k3 => ?_, ⟨?_, ?_⟩, ?_, ?_, ?_, ?_, ?_, ?_, fun i hi => ?_, fun i hi => ?_⟩
  · rw [up2_ne o k2, up2_ne o k3]; exact f o k1 k2 k3
  · rw [e9]; exact f2
  · rw [e9]; exact f3
  · rw [e9]; exact f4
  · rw [e9]; exact f5
  · rw [e9]; exact f6
  · rw [e9]; exact f7
  · rw [upO, List.length_append, List.length_singleton]; rfl
  · rw [upM (by decide), up2_ne dl (fun e => hne e.symm)]; exact f9
  · rw [es, upM (by omega)]; exact f10 i hi
  · rw [List.length_append, List.length_singleton] at hi
    rw [es]
    by_cases e : i = ops.length
    · subst e
      rw [upO, getD_app2]; rfl
    · rw [upM (by omega), getD_app1 (by omega)]
      exact f11 i (by omega)
theorem cM {j j' tc sz : Nat} {ops : List Op1} (hD : DR b dl st) (h : PC C l dl st M0 M j tc sz ops) (ht : TKs C l m M0) (hj : j' ≤ m) (hq : ∀ M', PC C l dl st M0 M' j' tc sz ops → Q none M' N (pr b)) : Wp mX4_moveTo d 0 [.ref (9 : Nat), .int (nI j'), .float 0] [] M N (pr b) Q := by
  obtain ⟨t1, t2, t3⟩ := h.tk hD ht
  obtain ⟨g1, g2, g3⟩ := t2 j' (by omega)
  have c1 : ¬ nI (m + 1) ≤ nI j' := nI_ge (by omega) (by omega)
  have v1 : vp_in (nI j') 601 := vp_in_nI (by omega) (by omega)
  have l1 := cl_nI (show j' < 2 ^ 31 by omega)
  simp only [shk_0, shk_1, shk_2, shk_3, shk_4, shk_5, shk_6, shk_7, shk_8, shk_9, shk_10, shk_11, shk_12, shk_13, shk_14, shk_15, shk_16, shk_17, shk_18, shk_19, shk_20, shk_21, shk_22, shk_23, shk_24, shk_25, shk_26, shk_27, shk_28, shk_29, shk_30, shk_31, shk_32, shk_33, shk_34, shk_35, shk_36, shk_37, shk_38, shk_39, shk_40, shk_41, shk_42, shk_43, shk_44, shk_45, shk_46, shk_47, shk_48, shk_49, shk_50, shk_51, shk_52, shk_53, shk_54, shk_55, shk_56, shk_57, shk_58, shk_59, shk_60, shk_61, shk_62, shk_63, shk_64, shk_65, shk_66, shk_67, shk_68, shk_69, shk_70, shk_71, shk_72, shk_73, shk_74, shk_75, shk_76, shk_77, shk_78, shk_79, shk_80, shk_81, shk_82, shk_83, shk_84, nl_i, nl_r, nl_f, cat_i, cat_r, sk_0, sk_1, sk_2, sk_3, sk_4, tl_some, tl_none, bit0, bit1, bit_b2, b2_eq0, isB_1, isB_2, isA_0, isA_1, pr_0_0, pr_0_1, pr_0_2, pr_0_3, pr_0_4, pr_0_5, pr_0_6, pr_0_7, pr_0_8, pr_0_9, pr_0_10, pr_0_11, pr_1_0, pr_1_1, pr_1_2, pr_2_0, pr_2_1, pr_2_2, pr_2_3, pr_3_0, pr_3_1, pr_4_0, pr_4_1, pr_4_2, pr_4_3, pr_4_4, pr_4_5, pr_4_6, pr_4_7, pr_4_8, pr_5_0, pr_5_1, pr_6_0, pr_6_1, pr_7_0, pr_8_0, pr_8_1, pr_8_2, pr_9_0, pr_9_1, pr_10_0, pr_10_1, pr_10_2, pr_11_0, pr_11_1, pr_11_2, pr_11_3, pr_11_4, pr_12_0, pr_12_1, pr_12_2, pr_12_3, pr_12_4, pr_50_0, pr_50_1, pr_50_2, pr_50_3, pr_50_4, pr_50_5, pr_50_9, pr_50_10, pr_50_11, pr_50_12, pr_50_13, pr_50_14, pr_50_15, pr_50_16, pr_50_17, pr_50_18, pr_50_21, pr_50_22, pr_50_32, pr_50_33, pr_50_34, pr_50_35, pr_50_36, pr_50_37, pr_50_38, pr_50_43, pr_50_46, pr_50_47, pr_50_48, pr_50_50, pr_50_51, pr_50_52, pr_50_53, pr_50_54, up2_at, Nat.reduceEqDiff, ↓reduceIte, if_true, if_false, sX4_moveTo_0, sX4_moveTo_1, sX4_moveTo_2, sX4_moveTo_5, sX4_moveTo_8, sX4_moveTo_11, sX4_moveTo_12, sX4_moveTo_15, sX4_moveTo_16, sX4_moveTo_17, sX4_moveTo_18, sX4_moveTo_19, sX4_moveTo_22, sX4_moveTo_23, sX4_moveTo_24, sX4_moveTo_27, sX4_moveTo_28, sX4_moveTo_31, sX4_moveTo_34, sX4_moveTo_35, sX4_moveTo_36, sX4_moveTo_39, sX4_moveTo_41, sX4_moveTo_44, sX4_moveTo_45, sX4_moveTo_46, sX4_moveTo_49, sX4_moveTo_50, sX4_moveTo_53, sX4_moveTo_56, sX4_moveTo_57, sX4_moveTo_58, sX4_moveTo_61, sX4_moveTo_62, sX4_moveTo_65, t1, c1, v1, l1, true_and, g1, g3, show ¬ (1 : Int32) = 0 by decide]
  refine hq _ ?_
  obtain ⟨f, ⟨f2, f3⟩, f4, f5, f6, f7, f8, f9, f10, f11⟩ := h
  obtain ⟨h0, h1, h2, h3, h9, h9', hne, d8, d34, d35, d36, s8, s34, s35, s36⟩ := hD
  have ed : ∀ a w c w' e w'', up2 (up2 (up2 M 9 a w) 9 c w') 9 e w'' dl = M dl := fun a w c w' e w'' => by rw [up2_ne dl h9, up2_ne dl h9, up2_ne dl h9]
  have es : ∀ a w c w' e w'', up2 (up2 (up2 M 9 a w) 9 c w') 9 e w'' st = M st := fun a w c w' e w'' => by rw [up2_ne st h9', up2_ne st h9', up2_ne st h9']
  refine ⟨fun o k1 k2 k3 => ?_, ⟨?_, ?_⟩, ?_, ?_, ?_, ?_, ?_, ?_, ?_, ?_⟩
  · rw [up2_ne o k1, up2_ne o k1, up2_ne o k1]; exact f o k1 k2 k3
  · rw [upM (by decide), upM (by decide), upM (by decide)]; exact f2
  · rw [upM (by decide), upM (by decide), upM (by decide)]; exact f3
  · rw [upM (by decide), upM (by decide), upO]
  · rw [upM (by decide), upO]
  · rw [upO]
  · rw [upM (by decide), upM (by decide), upM (by decide)]; exact f7
  · rw [ed]; exact f8
  · rw [ed]; exact f9
  · rw [es]; exact f10
  · rw [es]; exact f11
theorem cR {j tc sz : Nat} {ops : List Op1} (hD : DR b dl st) (h : PC C l dl st M0 M j tc sz ops) (ht : TKs C l m M0) (hj : j ≤ m) (hs : sz + ops.length ≤ 600) (hq : ∀ M', PF C l dl st M0 M' j → Q (some (.int 0)) M' N (pr b)) : Wp mX4_refuse d 0 [.ref (9 : Nat)] [] M N (pr b) Q := by
  obtain ⟨t1, t2, t3⟩ := h.tk hD ht
  obtain ⟨g1, g2, g3⟩ := t2 j (by omega)
  obtain ⟨f, ⟨f2, f3⟩, f4, f5, f6, f7, f8, f9, f10, f11⟩ := h
  obtain ⟨h0, h1, h2, h3, h9, h9', hne, d8, d34, d35, d36, s8, s34, s35, s36⟩ := hD
  have c1 : ¬ nI (m + 1) ≤ nI j := nI_ge (by omega) (by omega)
  have v1 : vp_in (nI j) 601 := vp_in_nI (by omega) (by omega)
  have l1 := cl_nI (show j < 2 ^ 31 by omega)
  have hk := kK_lt (C := C) (l := l) (j := j)
  have fin : ∀ w : Int32, w = nI (fkd (kK C l j)) → Q (some (.int 0)) (up2 (up2 M 9 2 w) 9 3 (nI (tA C l j))) N (pr b) := fun w hw => by
    refine hq _ ⟨fun o k1 k2 k3 => ?_, ?_, ?_, ?_, ⟨_, hs, ?_⟩⟩
    · rw [up2_ne o k1, up2_ne o k1]; exact f o k1 k2 k3
    · rw [upM (by decide), upO]; exact hw
    · rw [upO]
    · rw [up2_ne dl h9, up2_ne dl h9]; exact f9
    · rw [up2_ne dl h9, up2_ne dl h9]; exact f8
  by_cases q : nI (kK C l j) = 21
  · have q' : kK C l j = 21 := (nI_eq (b := 21) (by omega) (by omega)).mp q
    simp only [shk_0, shk_1, shk_2, shk_3, shk_4, shk_5, shk_6, shk_7, shk_8, shk_9, shk_10, shk_11, shk_12, shk_13, shk_14, shk_15, shk_16, shk_17, shk_18, shk_19, shk_20, shk_21, shk_22, shk_23, shk_24, shk_25, shk_26, shk_27, shk_28, shk_29, shk_30, shk_31, shk_32, shk_33, shk_34, shk_35, shk_36, shk_37, shk_38, shk_39, shk_40, shk_41, shk_42, shk_43, shk_44, shk_45, shk_46, shk_47, shk_48, shk_49, shk_50, shk_51, shk_52, shk_53, shk_54, shk_55, shk_56, shk_57, shk_58, shk_59, shk_60, shk_61, shk_62, shk_63, shk_64, shk_65, shk_66, shk_67, shk_68, shk_69, shk_70, shk_71, shk_72, shk_73, shk_74, shk_75, shk_76, shk_77, shk_78, shk_79, shk_80, shk_81, shk_82, shk_83, shk_84, nl_i, nl_r, nl_f, cat_i, cat_r, sk_0, sk_1, sk_2, sk_3, sk_4, tl_some, tl_none, bit0, bit1, bit_b2, b2_eq0, isB_1, isB_2, isA_0, isA_1, pr_0_0, pr_0_1, pr_0_2, pr_0_3, pr_0_4, pr_0_5, pr_0_6, pr_0_7, pr_0_8, pr_0_9, pr_0_10, pr_0_11, pr_1_0, pr_1_1, pr_1_2, pr_2_0, pr_2_1, pr_2_2, pr_2_3, pr_3_0, pr_3_1, pr_4_0, pr_4_1, pr_4_2, pr_4_3, pr_4_4, pr_4_5, pr_4_6, pr_4_7, pr_4_8, pr_5_0, pr_5_1, pr_6_0, pr_6_1, pr_7_0, pr_8_0, pr_8_1, pr_8_2, pr_9_0, pr_9_1, pr_10_0, pr_10_1, pr_10_2, pr_11_0, pr_11_1, pr_11_2, pr_11_3, pr_11_4, pr_12_0, pr_12_1, pr_12_2, pr_12_3, pr_12_4, pr_50_0, pr_50_1, pr_50_2, pr_50_3, pr_50_4, pr_50_5, pr_50_9, pr_50_10, pr_50_11, pr_50_12, pr_50_13, pr_50_14, pr_50_15, pr_50_16, pr_50_17, pr_50_18, pr_50_21, pr_50_22, pr_50_32, pr_50_33, pr_50_34, pr_50_35, pr_50_36, pr_50_37, pr_50_38, pr_50_43, pr_50_46, pr_50_47, pr_50_48, pr_50_50, pr_50_51, pr_50_52, pr_50_53, pr_50_54, up2_at, Nat.reduceEqDiff, ↓reduceIte, if_true, if_false, sX4_refuse_0, sX4_refuse_1, sX4_refuse_2, sX4_refuse_5, sX4_refuse_7, sX4_refuse_10, sX4_refuse_11, sX4_refuse_14, sX4_refuse_15, sX4_refuse_18, sX4_refuse_19, sX4_refuse_20, sX4_refuse_23, sX4_refuse_24, sX4_refuse_27, sX4_refuse_30, sX4_refuse_33, sX4_refuse_34, sX4_refuse_37, sX4_refuse_40, sX4_refuse_41, sX4_refuse_44, sX4_refuse_45, sX4_refuse_48, sX4_refuse_49, sX4_refuse_52, sX4_refuse_53, f5, f4, t1, c1, v1, l1, true_and, g2, q]
    exact fin 1 (by rw [q']; rfl)
  · have q' : ¬ kK C l j = 21 := fun e => q (by rw [e]; rfl)
    simp only [shk_0, shk_1, shk_2, shk_3, shk_4, shk_5, shk_6, shk_7, shk_8, shk_9, shk_10, shk_11, shk_12, shk_13, shk_14, shk_15, shk_16, shk_17, shk_18, shk_19, shk_20, shk_21, shk_22, shk_23, shk_24, shk_25, shk_26, shk_27, shk_28, shk_29, shk_30, shk_31, shk_32, shk_33, shk_34, shk_35, shk_36, shk_37, shk_38, shk_39, shk_40, shk_41, shk_42, shk_43, shk_44, shk_45, shk_46, shk_47, shk_48, shk_49, shk_50, shk_51, shk_52, shk_53, shk_54, shk_55, shk_56, shk_57, shk_58, shk_59, shk_60, shk_61, shk_62, shk_63, shk_64, shk_65, shk_66, shk_67, shk_68, shk_69, shk_70, shk_71, shk_72, shk_73, shk_74, shk_75, shk_76, shk_77, shk_78, shk_79, shk_80, shk_81, shk_82, shk_83, shk_84, nl_i, nl_r, nl_f, cat_i, cat_r, sk_0, sk_1, sk_2, sk_3, sk_4, tl_some, tl_none, bit0, bit1, bit_b2, b2_eq0, isB_1, isB_2, isA_0, isA_1, pr_0_0, pr_0_1, pr_0_2, pr_0_3, pr_0_4, pr_0_5, pr_0_6, pr_0_7, pr_0_8, pr_0_9, pr_0_10, pr_0_11, pr_1_0, pr_1_1, pr_1_2, pr_2_0, pr_2_1, pr_2_2, pr_2_3, pr_3_0, pr_3_1, pr_4_0, pr_4_1, pr_4_2, pr_4_3, pr_4_4, pr_4_5, pr_4_6, pr_4_7, pr_4_8, pr_5_0, pr_5_1, pr_6_0, pr_6_1, pr_7_0, pr_8_0, pr_8_1, pr_8_2, pr_9_0, pr_9_1, pr_10_0, pr_10_1, pr_10_2, pr_11_0, pr_11_1, pr_11_2, pr_11_3, pr_11_4, pr_12_0, pr_12_1, pr_12_2, pr_12_3, pr_12_4, pr_50_0, pr_50_1, pr_50_2, pr_50_3, pr_50_4, pr_50_5, pr_50_9, pr_50_10, pr_50_11, pr_50_12, pr_50_13, pr_50_14, pr_50_15, pr_50_16, pr_50_17, pr_50_18, pr_50_21, pr_50_22, pr_50_32, pr_50_33, pr_50_34, pr_50_35, pr_50_36, pr_50_37, pr_50_38, pr_50_43, pr_50_46, pr_50_47, pr_50_48, pr_50_50, pr_50_51, pr_50_52, pr_50_53, pr_50_54, up2_at, Nat.reduceEqDiff, ↓reduceIte, if_true, if_false, sX4_refuse_0, sX4_refuse_1, sX4_refuse_2, sX4_refuse_5, sX4_refuse_7, sX4_refuse_10, sX4_refuse_11, sX4_refuse_14, sX4_refuse_15, sX4_refuse_18, sX4_refuse_19, sX4_refuse_20, sX4_refuse_23, sX4_refuse_24, sX4_refuse_27, sX4_refuse_30, sX4_refuse_33, sX4_refuse_34, sX4_refuse_37, sX4_refuse_40, sX4_refuse_41, sX4_refuse_44, sX4_refuse_45, sX4_refuse_48, sX4_refuse_49, sX4_refuse_52, sX4_refuse_53, f5, f4, t1, c1, v1, l1, true_and, g2, q]
    exact fin 2 (by unfold fkd; rw [if_neg q']; rfl)
theorem cT {j tc sz : Nat} {ops : List Op1} {due : Nat} (hdue : due < 128) (hd2 : ¬ due = 20 ∧ ¬ due = 21) (hK : KOk (kK C l) (nvK C l) m) (hD : DR b dl st) (h : PC C l dl st M0 M j tc sz ops) (ht : TKs C l m M0) (hj : j ≤ m) (hs : sz + ops.length ≤ 600)
    (hok : ∀ M', kK C l j = due → PC C l dl st M0 M' (j + 1) tc sz ops → Q (some (.int 1)) M' N (pr b)) (hno : ∀ M', ¬ kK C l j = due → PF C l dl st M0 M' j → Q (some (.int 0)) M' N (pr b)) : Wp mX4_take (d + 1) 0 [.ref (9 : Nat), .int (nI due)] [] M N (pr b) Q := by
  have hk := kK_lt (C := C) (l := l) (j := j)
  have f4 := h.2.2.1
  have f5 := h.2.2.2.1
  by_cases q : kK C l j = due
  · have q' : nI (kK C l j) = nI due := by rw [q]
    simp only [shk_0, shk_1, shk_2, shk_3, shk_4, shk_5, shk_6, shk_7, shk_8, shk_9, shk_10, shk_11, shk_12, shk_13, shk_14, shk_15, shk_16, shk_17, shk_18, shk_19, shk_20, shk_21, shk_22, shk_23, shk_24, shk_25, shk_26, shk_27, shk_28, shk_29, shk_30, shk_31, shk_32, shk_33, shk_34, shk_35, shk_36, shk_37, shk_38, shk_39, shk_40, shk_41, shk_42, shk_43, shk_44, shk_45, shk_46, shk_47, shk_48, shk_49, shk_50, shk_51, shk_52, shk_53, shk_54, shk_55, shk_56, shk_57, shk_58, shk_59, shk_60, shk_61, shk_62, shk_63, shk_64, shk_65, shk_66, shk_67, shk_68, shk_69, shk_70, shk_71, shk_72, shk_73, shk_74, shk_75, shk_76, shk_77, shk_78, shk_79, shk_80, shk_81, shk_82, shk_83, shk_84, nl_i, nl_r, nl_f, cat_i, cat_r, sk_0, sk_1, sk_2, sk_3, sk_4, tl_some, tl_none, bit0, bit1, bit_b2, b2_eq0, isB_1, isB_2, isA_0, isA_1, pr_0_0, pr_0_1, pr_0_2, pr_0_3, pr_0_4, pr_0_5, pr_0_6, pr_0_7, pr_0_8, pr_0_9, pr_0_10, pr_0_11, pr_1_0, pr_1_1, pr_1_2, pr_2_0, pr_2_1, pr_2_2, pr_2_3, pr_3_0, pr_3_1, pr_4_0, pr_4_1, pr_4_2, pr_4_3, pr_4_4, pr_4_5, pr_4_6, pr_4_7, pr_4_8, pr_5_0, pr_5_1, pr_6_0, pr_6_1, pr_7_0, pr_8_0, pr_8_1, pr_8_2, pr_9_0, pr_9_1, pr_10_0, pr_10_1, pr_10_2, pr_11_0, pr_11_1, pr_11_2, pr_11_3, pr_11_4, pr_12_0, pr_12_1, pr_12_2, pr_12_3, pr_12_4, pr_50_0, pr_50_1, pr_50_2, pr_50_3, pr_50_4, pr_50_5, pr_50_9, pr_50_10, pr_50_11, pr_50_12, pr_50_13, pr_50_14, pr_50_15, pr_50_16, pr_50_17, pr_50_18, pr_50_21, pr_50_22, pr_50_32, pr_50_33, pr_50_34, pr_50_35, pr_50_36, pr_50_37, pr_50_38, pr_50_43, pr_50_46, pr_50_47, pr_50_48, pr_50_50, pr_50_51, pr_50_52, pr_50_53, pr_50_54, up2_at, Nat.reduceEqDiff, ↓reduceIte, if_true, if_false, sX4_take_0, sX4_take_1, sX4_take_4, sX4_take_5, sX4_take_8, sX4_take_9, sX4_take_12, sX4_take_13, sX4_take_14, sX4_take_15, sX4_take_18, sX4_take_19, sX4_take_20, sX4_take_23, sX4_take_24, f5, f4, q', nI_1]
    refine cM hD h ht (hK.nxt hj (by omega) (by omega)) (fun M' h' => ?_)
    simp only [shk_0, shk_1, shk_2, shk_3, shk_4, shk_5, shk_6, shk_7, shk_8, shk_9, shk_10, shk_11, shk_12, shk_13, shk_14, shk_15, shk_16, shk_17, shk_18, shk_19, shk_20, shk_21, shk_22, shk_23, shk_24, shk_25, shk_26, shk_27, shk_28, shk_29, shk_30, shk_31, shk_32, shk_33, shk_34, shk_35, shk_36, shk_37, shk_38, shk_39, shk_40, shk_41, shk_42, shk_43, shk_44, shk_45, shk_46, shk_47, shk_48, shk_49, shk_50, shk_51, shk_52, shk_53, shk_54, shk_55, shk_56, shk_57, shk_58, shk_59, shk_60, shk_61, shk_62, shk_63, shk_64, shk_65, shk_66, shk_67, shk_68, shk_69, shk_70, shk_71, shk_72, shk_73, shk_74, shk_75, shk_76, shk_77, shk_78, shk_79, shk_80, shk_81, shk_82, shk_83, shk_84, nl_i, nl_r, nl_f, cat_i, cat_r, sk_0, sk_1, sk_2, sk_3, sk_4, tl_some, tl_none, bit0, bit1, bit_b2, b2_eq0, isB_1, isB_2, isA_0, isA_1, pr_0_0, pr_0_1, pr_0_2, pr_0_3, pr_0_4, pr_0_5, pr_0_6, pr_0_7, pr_0_8, pr_0_9, pr_0_10, pr_0_11, pr_1_0, pr_1_1, pr_1_2, pr_2_0, pr_2_1, pr_2_2, pr_2_3, pr_3_0, pr_3_1, pr_4_0, pr_4_1, pr_4_2, pr_4_3, pr_4_4, pr_4_5, pr_4_6, pr_4_7, pr_4_8, pr_5_0, pr_5_1, pr_6_0, pr_6_1, pr_7_0, pr_8_0, pr_8_1, pr_8_2, pr_9_0, pr_9_1, pr_10_0, pr_10_1, pr_10_2, pr_11_0, pr_11_1, pr_11_2, pr_11_3, pr_11_4, pr_12_0, pr_12_1, pr_12_2, pr_12_3, pr_12_4, pr_50_0, pr_50_1, pr_50_2, pr_50_3, pr_50_4, pr_50_5, pr_50_9, pr_50_10, pr_50_11, pr_50_12, pr_50_13, pr_50_14, pr_50_15, pr_50_16, pr_50_17, pr_50_18, pr_50_21, pr_50_22, pr_50_32, pr_50_33, pr_50_34, pr_50_35, pr_50_36, pr_50_37, pr_50_38, pr_50_43, pr_50_46, pr_50_47, pr_50_48, pr_50_50, pr_50_51, pr_50_52, pr_50_53, pr_50_54, up2_at, Nat.reduceEqDiff, ↓reduceIte, if_true, if_false, sX4_take_0, sX4_take_1, sX4_take_4, sX4_take_5, sX4_take_8, sX4_take_9, sX4_take_12, sX4_take_13, sX4_take_14, sX4_take_15, sX4_take_18, sX4_take_19, sX4_take_20, sX4_take_23, sX4_take_24]
    exact hok M' q h'
  · have q' : ¬ nI (kK C l j) = nI due := fun e => q ((nI_eq (by omega) (by omega)).mp e)
    simp only [shk_0, shk_1, shk_2, shk_3, shk_4, shk_5, shk_6, shk_7, shk_8, shk_9, shk_10, shk_11, shk_12, shk_13, shk_14, shk_15, shk_16, shk_17, shk_18, shk_19, shk_20, shk_21, shk_22, shk_23, shk_24, shk_25, shk_26, shk_27, shk_28, shk_29, shk_30, shk_31, shk_32, shk_33, shk_34, shk_35, shk_36, shk_37, shk_38, shk_39, shk_40, shk_41, shk_42, shk_43, shk_44, shk_45, shk_46, shk_47, shk_48, shk_49, shk_50, shk_51, shk_52, shk_53, shk_54, shk_55, shk_56, shk_57, shk_58, shk_59, shk_60, shk_61, shk_62, shk_63, shk_64, shk_65, shk_66, shk_67, shk_68, shk_69, shk_70, shk_71, shk_72, shk_73, shk_74, shk_75, shk_76, shk_77, shk_78, shk_79, shk_80, shk_81, shk_82, shk_83, shk_84, nl_i, nl_r, nl_f, cat_i, cat_r, sk_0, sk_1, sk_2, sk_3, sk_4, tl_some, tl_none, bit0, bit1, bit_b2, b2_eq0, isB_1, isB_2, isA_0, isA_1, pr_0_0, pr_0_1, pr_0_2, pr_0_3, pr_0_4, pr_0_5, pr_0_6, pr_0_7, pr_0_8, pr_0_9, pr_0_10, pr_0_11, pr_1_0, pr_1_1, pr_1_2, pr_2_0, pr_2_1, pr_2_2, pr_2_3, pr_3_0, pr_3_1, pr_4_0, pr_4_1, pr_4_2, pr_4_3, pr_4_4, pr_4_5, pr_4_6, pr_4_7, pr_4_8, pr_5_0, pr_5_1, pr_6_0, pr_6_1, pr_7_0, pr_8_0, pr_8_1, pr_8_2, pr_9_0, pr_9_1, pr_10_0, pr_10_1, pr_10_2, pr_11_0, pr_11_1, pr_11_2, pr_11_3, pr_11_4, pr_12_0, pr_12_1, pr_12_2, pr_12_3, pr_12_4, pr_50_0, pr_50_1, pr_50_2, pr_50_3, pr_50_4, pr_50_5, pr_50_9, pr_50_10, pr_50_11, pr_50_12, pr_50_13, pr_50_14, pr_50_15, pr_50_16, pr_50_17, pr_50_18, pr_50_21, pr_50_22, pr_50_32, pr_50_33, pr_50_34, pr_50_35, pr_50_36, pr_50_37, pr_50_38, pr_50_43, pr_50_46, pr_50_47, pr_50_48, pr_50_50, pr_50_51, pr_50_52, pr_50_53, pr_50_54, up2_at, Nat.reduceEqDiff, ↓reduceIte, if_true, if_false, sX4_take_0, sX4_take_1, sX4_take_4, sX4_take_5, sX4_take_8, sX4_take_9, sX4_take_12, sX4_take_13, sX4_take_14, sX4_take_15, sX4_take_18, sX4_take_19, sX4_take_20, sX4_take_23, sX4_take_24, f5, q']
    refine cR hD h ht hj hs (fun M' h' => ?_)
    simp only [shk_0, shk_1, shk_2, shk_3, shk_4, shk_5, shk_6, shk_7, shk_8, shk_9, shk_10, shk_11, shk_12, shk_13, shk_14, shk_15, shk_16, shk_17, shk_18, shk_19, shk_20, shk_21, shk_22, shk_23, shk_24, shk_25, shk_26, shk_27, shk_28, shk_29, shk_30, shk_31, shk_32, shk_33, shk_34, shk_35, shk_36, shk_37, shk_38, shk_39, shk_40, shk_41, shk_42, shk_43, shk_44, shk_45, shk_46, shk_47, shk_48, shk_49, shk_50, shk_51, shk_52, shk_53, shk_54, shk_55, shk_56, shk_57, shk_58, shk_59, shk_60, shk_61, shk_62, shk_63, shk_64, shk_65, shk_66, shk_67, shk_68, shk_69, shk_70, shk_71, shk_72, shk_73, shk_74, shk_75, shk_76, shk_77, shk_78, shk_79, shk_80, shk_81, shk_82, shk_83, shk_84, nl_i, nl_r, nl_f, cat_i, cat_r, sk_0, sk_1, sk_2, sk_3, sk_4, tl_some, tl_none, bit0, bit1, bit_b2, b2_eq0, isB_1, isB_2, isA_0, isA_1, pr_0_0, pr_0_1, pr_0_2, pr_0_3, pr_0_4, pr_0_5, pr_0_6, pr_0_7, pr_0_8, pr_0_9, pr_0_10, pr_0_11, pr_1_0, pr_1_1, pr_1_2, pr_2_0, pr_2_1, pr_2_2, pr_2_3, pr_3_0, pr_3_1, pr_4_0, pr_4_1, pr_4_2, pr_4_3, pr_4_4, pr_4_5, pr_4_6, pr_4_7, pr_4_8, pr_5_0, pr_5_1, pr_6_0, pr_6_1, pr_7_0, pr_8_0, pr_8_1, pr_8_2, pr_9_0, pr_9_1, pr_10_0, pr_10_1, pr_10_2, pr_11_0, pr_11_1, pr_11_2, pr_11_3, pr_11_4, pr_12_0, pr_12_1, pr_12_2, pr_12_3, pr_12_4, pr_50_0, pr_50_1, pr_50_2, pr_50_3, pr_50_4, pr_50_5, pr_50_9, pr_50_10, pr_50_11, pr_50_12, pr_50_13, pr_50_14, pr_50_15, pr_50_16, pr_50_17, pr_50_18, pr_50_21, pr_50_22, pr_50_32, pr_50_33, pr_50_34, pr_50_35, pr_50_36, pr_50_37, pr_50_38, pr_50_43, pr_50_46, pr_50_47, pr_50_48, pr_50_50, pr_50_51, pr_50_52, pr_50_53, pr_50_54, up2_at, Nat.reduceEqDiff, ↓reduceIte, if_true, if_false, sX4_take_0, sX4_take_1, sX4_take_4, sX4_take_5, sX4_take_8, sX4_take_9, sX4_take_12, sX4_take_13, sX4_take_14, sX4_take_15, sX4_take_18, sX4_take_19, sX4_take_20, sX4_take_23, sX4_take_24]
    exact hno M' q h'
/-- a step written behind a fault changes nothing that counts -/
theorem cWF {e k : Nat} (hD : DR b dl st) (h : PF C l dl st M0 M e) (hq : ∀ M', PF C l dl st M0 M' e → Q none M' N (pr b)) : Wp mX2_write d 0 [.ref dl, .int (nI k), .int 0] [] M N (pr b) Q := by
  obtain ⟨f, f2, f3, f6, s, hs, f5⟩ := h
  by_cases q : s < 600
  · refine wX2_write (v := 0) hD f5 q (hq _ ?_)
    obtain ⟨h0, h1, h2, h3, h9, h9', hne, d8, d34, d35, d36, s8, s34, s35, s36⟩ := hD
    refine ⟨fun o k1 k2 k3 => ?_, ?_, ?_, ?_, ⟨s + 1, by omega, ?_⟩⟩
    · rw [up2_ne o k2, up2_ne o k3]; exact f o k1 k2 k3
    · rw [up2_ne 9 (fun e => h9 e.symm), up2_ne 9 (fun e => h9' e.symm)]; exact f2
    · rw [up2_ne 9 (fun e => h9 e.symm), up2_ne 9 (fun e => h9' e.symm)]; exact f3
    · rw [upM (by decide), up2_ne dl (fun e => hne e.symm)]; exact f6
    · rw [upO]
  · obtain ⟨h0, h1, h2, h3, h9, h9', hne, d8, d34, d35, d36, s8, s34, s35, s36⟩ := hD
    have k1 : (shk st).1 = 100 := by rw [h2]
    have c1 : nI 600 ≤ nI s := nI_le (by omega) (by omega)
    simp only [shk_0, shk_1, shk_2, shk_3, shk_4, shk_5, shk_6, shk_7, shk_8, shk_9, shk_10, shk_11, shk_12, shk_13, shk_14, shk_15, shk_16, shk_17, shk_18, shk_19, shk_20, shk_21, shk_22, shk_23, shk_24, shk_25, shk_26, shk_27, shk_28, shk_29, shk_30, shk_31, shk_32, shk_33, shk_34, shk_35, shk_36, shk_37, shk_38, shk_39, shk_40, shk_41, shk_42, shk_43, shk_44, shk_45, shk_46, shk_47, shk_48, shk_49, shk_50, shk_51, shk_52, shk_53, shk_54, shk_55, shk_56, shk_57, shk_58, shk_59, shk_60, shk_61, shk_62, shk_63, shk_64, shk_65, shk_66, shk_67, shk_68, shk_69, shk_70, shk_71, shk_72, shk_73, shk_74, shk_75, shk_76, shk_77, shk_78, shk_79, shk_80, shk_81, shk_82, shk_83, shk_84, nl_i, nl_r, nl_f, cat_i, cat_r, sk_0, sk_1, sk_2, sk_3, sk_4, tl_some, tl_none, bit0, bit1, bit_b2, b2_eq0, isB_1, isB_2, isA_0, isA_1, pr_0_0, pr_0_1, pr_0_2, pr_0_3, pr_0_4, pr_0_5, pr_0_6, pr_0_7, pr_0_8, pr_0_9, pr_0_10, pr_0_11, pr_1_0, pr_1_1, pr_1_2, pr_2_0, pr_2_1, pr_2_2, pr_2_3, pr_3_0, pr_3_1, pr_4_0, pr_4_1, pr_4_2, pr_4_3, pr_4_4, pr_4_5, pr_4_6, pr_4_7, pr_4_8, pr_5_0, pr_5_1, pr_6_0, pr_6_1, pr_7_0, pr_8_0, pr_8_1, pr_8_2, pr_9_0, pr_9_1, pr_10_0, pr_10_1, pr_10_2, pr_11_0, pr_11_1, pr_11_2, pr_11_3, pr_11_4, pr_12_0, pr_12_1, pr_12_2, pr_12_3, pr_12_4, pr_50_0, pr_50_1, pr_50_2, pr_50_3, pr_50_4, pr_50_5, pr_50_9, pr_50_10, pr_50_11, pr_50_12, pr_50_13, pr_50_14, pr_50_15, pr_50_16, pr_50_17, pr_50_18, pr_50_21, pr_50_22, pr_50_32, pr_50_33, pr_50_34, pr_50_35, pr_50_36, pr_50_37, pr_50_38, pr_50_43, pr_50_46, pr_50_47, pr_50_48, pr_50_50, pr_50_51, pr_50_52, pr_50_53, pr_50_54, up2_at, Nat.reduceEqDiff, ↓reduceIte, if_true, if_false, sX2_write_0, sX2_write_1, sX2_write_4, sX2_write_5, sX2_write_8, sX2_write_9, sX2_write_12, sX2_write_13, sX2_write_16, sX2_write_17, sX2_write_20, sX2_write_21, sX2_write_23, sX2_write_24, sX2_write_25, sX2_write_26, sX2_write_27, sX2_write_28, sX2_write_29, sX2_write_32, sX2_write_33, sX2_write_34, sX2_write_37, h0, h1, h2, f5, k1, c1]
    exact hq M ⟨f, f2, f3, f6, s, hs, f5⟩
theorem PC.t7 {j tc sz : Nat} {ops : List Op1} (hD : DR b dl st) (h : PC C l dl st M0 M j tc sz ops) : PC C l dl st M0 (up2 M 9 7 (nI (tc + 1))) j (tc + 1) sz ops := by
  obtain ⟨f, ⟨f2, f3⟩, f4, f5, f6, f7, f8, f9, f10, f11⟩ := h
  obtain ⟨h0, h1, h2, h3, h9, h9', hne, d8, d34, d35, d36, s8, s34, s35, s36⟩ := hD
  refine ⟨fun o k1 k2 k3 => ?_, ⟨?_, ?_⟩, ?_, ?_, ?_, ?_, ?_, ?_, ?_, ?_⟩
  · rw [up2_ne o k1]; exact f o k1 k2 k3
  · rw [upM (by decide)]; exact f2
  · rw [upM (by decide)]; exact f3
  · rw [upM (by decide)]; exact f4
  · rw [upM (by decide)]; exact f5
  · rw [upM (by decide)]; exact f6
  · rw [upO]
  · rw [up2_ne dl h9]; exact f8
  · rw [up2_ne dl h9]; exact f9
  · rw [up2_ne st h9']; exact f10
  · rw [up2_ne st h9']; exact f11
end K42
