section K41
variable {d : Nat} {x y z : Int32} {M M' M0 : Mt} {N N' : Nt} {b : Bool} {Q : Qt} {C : Nat → Nat} {l m dl st : Nat}
/-- the draft: its object and its row of steps -/
def DR (b : Bool) (dl st : Nat) : Prop := shk dl = (2, 0) ∧ pr b dl 0 = st ∧ shk st = (100, 600) ∧ (if b = true then 11 else 12) = dl ∧ ¬ dl = 9 ∧ ¬ st = 9 ∧ ¬ st = dl ∧ ¬ dl = 8 ∧ ¬ dl = 34 ∧ ¬ dl = 35 ∧ ¬ dl = 36 ∧ ¬ st = 8 ∧ ¬ st = 34 ∧ ¬ st = 35 ∧ ¬ st = 36
theorem DR_t : DR true 11 40 := by unfold DR; exact ⟨rfl, rfl, rfl, rfl, by decide⟩
theorem DR_f : DR false 12 45 := by unfold DR; exact ⟨rfl, rfl, rfl, rfl, by decide⟩
def TKs (C : Nat → Nat) (l m : Nat) (M : Mt) : Prop := M 8 3 = nI (m + 1) ∧ rowsT C l (m + 1) M ∧ m ≤ 600
def nvK (C : Nat → Nat) (l j : Nat) : Nat := (vK C l j).toInt.toNat
def opI (o : Op1) : Int32 := nI (o.2 * 16 + o.1)
def PC (C : Nat → Nat) (l dl st : Nat) (M0 M : Mt) (j tc sz : Nat) (ops : List Op1) : Prop := (∀ o, ¬ o = 9 → ¬ o = dl → ¬ o = st → M o = M0 o) ∧ (M 9 2 = M0 9 2 ∧ M 9 3 = M0 9 3) ∧ M 9 4 = nI j ∧ M 9 5 = nI (kK C l j) ∧ M 9 6 = vK C l j ∧ M 9 7 = nI tc ∧ M dl 5 = nI (sz + ops.length) ∧ M dl 6 = M0 dl 6 ∧ (∀ i, i < sz → M st i = M0 st i) ∧ ∀ i, i < ops.length → M st (sz + i) = opI (ops.getD i (0, 0))
def fkd (k : Nat) : Nat := if k = 21 then 1 else 2
def PF (C : Nat → Nat) (l dl st : Nat) (M0 M : Mt) (e : Nat) : Prop := (∀ o, ¬ o = 9 → ¬ o = dl → ¬ o = st → M o = M0 o) ∧ M 9 2 = nI (fkd (kK C l e)) ∧ M 9 3 = nI (tA C l e) ∧ M dl 6 = M0 dl 6 ∧ ∃ s, s ≤ 600 ∧ M dl 5 = nI s
theorem kK_lt {j : Nat} : kK C l j < 128 := tK_lt128
theorem upO {M : Mt} {o j : Nat} {v : Int32} : up2 M o j v o j = v := by rw [up2_self]; simp
theorem upM {M : Mt} {o i j : Nat} {v : Int32} (h : ¬ i = j) : up2 M o j v o i = M o i := by rw [up2_self]; simp [h]
theorem getD_app1 {a : List Op1} {o : Op1} {i : Nat} (h : i < a.length) : (a ++ [o]).getD i (0, 0) = a.getD i (0, 0) := by
  rw [List.getD_eq_getElem?_getD, List.getElem?_append_left h, ← List.getD_eq_getElem?_getD]
theorem getD_app2 {a : List Op1} {o : Op1} : (a ++ [o]).getD a.length (0, 0) = o := by
  rw [List.getD_eq_getElem?_getD, List.getElem?_append_right (Nat.le_refl _)]; simp
theorem wX2_write {s k v : Nat} (hD : DR b dl st) (h5 : M dl 5 = nI s) (hs : s < 600) (hq : Q none (up2 (up2 M st s (nI (v * 16 + k))) dl 5 (nI (s + 1))) N (pr b)) : Wp mX2_write d 0 [.ref dl, .int (nI k), .int (nI v)] [] M N (pr b) Q := by
  obtain ⟨h0, h1, h2, -, h9, h9', hne, -⟩ := hD
  have c1 : ¬ nI 600 ≤ nI s := nI_ge (by omega) (by omega)
  have v1 : vp_in (nI s) 600 := vp_in_nI (by omega) (by omega)
  have l1 := cl_nI (show s < 2 ^ 31 by omega)
  have k1 : (shk st).1 = 100 := by rw [h2]
  have k2 : (shk st).2 = 600 := by rw [h2]
  have e16 : nI v * 16 + nI k = nI (v * 16 + k) := by rw [show nI v * 16 = nI (v * 16) from pk_mul v 16, nI_add]
  have u5 : ∀ w, up2 M st s w dl 5 = nI s := fun w => by rw [up2_ne dl (fun e => hne e.symm)]; exact h5
  have isA : ∃ c n, shk st = (c, n) ∧ 100 ≤ c ∧ c ≤ 104 := ⟨100, 600, h2, by decide, by decide⟩
  simp only [shk_0, shk_1, shk_2, shk_3, shk_4, shk_5, shk_6, shk_7, shk_8, shk_9, shk_10, shk_11, shk_12, shk_13, shk_14, shk_15, shk_16, shk_17, shk_18, shk_19, shk_20, shk_21, shk_22, shk_23, shk_24, shk_25, shk_26, shk_27, shk_28, shk_29, shk_30, shk_31, shk_32, shk_33, shk_34, shk_35, shk_36, shk_37, shk_38, shk_39, shk_40, shk_41, shk_42, shk_43, shk_44, shk_45, shk_46, shk_47, shk_48, shk_49, shk_50, shk_51, shk_52, shk_53, shk_54, shk_55, shk_56, shk_57, shk_58, shk_59, shk_60, shk_61, shk_62, shk_63, shk_64, shk_65, shk_66, shk_67, shk_68, shk_69, shk_70, shk_71, shk_72, shk_73, shk_74, shk_75, shk_76, shk_77, shk_78, shk_79, shk_80, shk_81, shk_82, shk_83, shk_84, nl_i, nl_r, nl_f, cat_i, cat_r, sk_0, sk_1, sk_2, sk_3, sk_4, tl_some, tl_none, bit0, bit1, bit_b2, b2_eq0, isB_1, isB_2, isA_0, isA_1, pr_0_0, pr_0_1, pr_0_2, pr_0_3, pr_0_4, pr_0_5, pr_0_6, pr_0_7, pr_0_8, pr_0_9, pr_0_10, pr_0_11, pr_1_0, pr_1_1, pr_1_2, pr_2_0, pr_2_1, pr_2_2, pr_2_3, pr_3_0, pr_3_1, pr_4_0, pr_4_1, pr_4_2, pr_4_3, pr_4_4, pr_4_5, pr_4_6, pr_4_7, pr_4_8, pr_5_0, pr_5_1, pr_6_0, pr_6_1, pr_7_0, pr_8_0, pr_8_1, pr_8_2, pr_9_0, pr_9_1, pr_10_0, pr_10_1, pr_10_2, pr_11_0, pr_11_1, pr_11_2, pr_11_3, pr_11_4, pr_12_0, pr_12_1, pr_12_2, pr_12_3, pr_12_4, pr_50_0, pr_50_1, pr_50_2, pr_50_3, pr_50_4, pr_50_5, pr_50_9, pr_50_10, pr_50_11, pr_50_12, pr_50_13, pr_50_14, pr_50_15, pr_50_16, pr_50_17, pr_50_18, pr_50_21, pr_50_22, pr_50_32, pr_50_33, pr_50_34, pr_50_35, pr_50_36, pr_50_37, pr_50_38, pr_50_43, pr_50_46, pr_50_47, pr_50_48, pr_50_50, pr_50_51, pr_50_52, pr_50_53, pr_50_54, up2_at, Nat.reduceEqDiff, ↓reduceIte, if_true, if_false, sX2_write_0, sX2_write_1, sX2_write_4, sX2_write_5, sX2_write_8, sX2_write_9, sX2_write_12, sX2_write_13, sX2_write_16, sX2_write_17, sX2_write_20, sX2_write_21, sX2_write_23, sX2_write_24, sX2_write_25, sX2_write_26, sX2_write_27, sX2_write_28, sX2_write_29, sX2_write_32, sX2_write_33, sX2_write_34, sX2_write_37, h0, h1, h2, h5, c1, show Int32.ofNat 600 = nI 600 from rfl, k1, k2, v1, l1, true_and, e16, nI_1, u5, hne, not_false_iff]
  simp only [show ¬ dl = st from fun e => hne e.symm, if_false, h5, nI_1]
  exact hq
end K41
