section K24
variable {d : Nat} {x y z : Int32} {M M' : Mt} {N : Nt} {b : Bool} {Q : Qt} {P : Pt'}
def pcn (s : Nat) : Nat := (List.range 8).countP (fun g => s.testBit g)
def bcf (x : Int32) : Int32 :=
  let x1 := x - ((x.toUInt32 >>> (Int32.toUInt32 1 &&& Int32.toUInt32 31)).toInt32 &&& 1431655765)
  let x2 := (x1 &&& 858993459) + ((x1.toUInt32 >>> (Int32.toUInt32 2 &&& Int32.toUInt32 31)).toInt32 &&& 858993459)
  let x3 := (x2 + (x2.toUInt32 >>> (Int32.toUInt32 4 &&& Int32.toUInt32 31)).toInt32) &&& 252645135
  let x4 := x3 + (x3.toUInt32 >>> (Int32.toUInt32 8 &&& Int32.toUInt32 31)).toInt32
  let x5 := x4 + (x4.toUInt32 >>> (Int32.toUInt32 16 &&& Int32.toUInt32 31)).toInt32
  x5 &&& 63
theorem bc_all : ∀ s : Fin 256, bcf (nI s.val) = nI (pcn s.val) := by decide +kernel
theorem wJ6_bitCount {s : Nat} (hs : s < 256) : Wp mJ6_bitCount_0f7a4 d 0 [.int (nI s)] [] M N P Q = Q (some (.int (nI (pcn s)))) M N P := by
  rw [← bc_all ⟨s, hs⟩]
  simp only [shk_0, shk_1, shk_2, shk_3, shk_4, shk_5, shk_6, shk_7, shk_8, shk_9, shk_10, shk_11, shk_12, shk_13, shk_14, shk_15, shk_16, shk_17, shk_18, shk_19, shk_20, shk_21, shk_22, shk_23, shk_24, shk_25, shk_26, shk_27, shk_28, shk_29, shk_30, shk_31, shk_32, shk_33, shk_34, shk_35, shk_36, shk_37, shk_38, shk_39, shk_40, shk_41, shk_42, shk_43, shk_44, shk_45, shk_46, shk_47, shk_48, shk_49, shk_50, shk_51, shk_52, shk_53, shk_54, shk_55, shk_56, shk_57, shk_58, shk_59, shk_60, shk_61, shk_62, shk_63, shk_64, shk_65, shk_66, shk_67, shk_68, shk_69, shk_70, shk_71, shk_72, shk_73, shk_74, shk_75, shk_76, shk_77, shk_78, shk_79, shk_80, shk_81, shk_82, shk_83, shk_84, nl_i, nl_r, nl_f, cat_i, cat_r, sk_0, sk_1, sk_2, sk_3, sk_4, tl_some, tl_none, bit0, bit1, bit_b2, b2_eq0, isB_1, isB_2, isA_0, isA_1, pr_0_0, pr_0_1, pr_0_2, pr_0_3, pr_0_4, pr_0_5, pr_0_6, pr_0_7, pr_0_8, pr_0_9, pr_0_10, pr_0_11, pr_1_0, pr_1_1, pr_1_2, pr_2_0, pr_2_1, pr_2_2, pr_2_3, pr_3_0, pr_3_1, pr_4_0, pr_4_1, pr_4_2, pr_4_3, pr_4_4, pr_4_5, pr_4_6, pr_4_7, pr_4_8, pr_5_0, pr_5_1, pr_6_0, pr_6_1, pr_7_0, pr_8_0, pr_8_1, pr_8_2, pr_9_0, pr_9_1, pr_10_0, pr_10_1, pr_10_2, pr_11_0, pr_11_1, pr_11_2, pr_11_3, pr_11_4, pr_12_0, pr_12_1, pr_12_2, pr_12_3, pr_12_4, pr_50_0, pr_50_1, pr_50_2, pr_50_3, pr_50_4, pr_50_5, pr_50_9, pr_50_10, pr_50_11, pr_50_12, pr_50_13, pr_50_14, pr_50_15, pr_50_16, pr_50_17, pr_50_18, pr_50_21, pr_50_22, pr_50_32, pr_50_33, pr_50_34, pr_50_35, pr_50_36, pr_50_37, pr_50_38, pr_50_43, pr_50_46, pr_50_47, pr_50_48, pr_50_50, pr_50_51, pr_50_52, pr_50_53, pr_50_54, up2_at, Nat.reduceEqDiff, ↓reduceIte, if_true, if_false, sJ6_bitCount_0f7a4_0, sJ6_bitCount_0f7a4_1, sJ6_bitCount_0f7a4_2, sJ6_bitCount_0f7a4_3, sJ6_bitCount_0f7a4_4, sJ6_bitCount_0f7a4_7, sJ6_bitCount_0f7a4_8, sJ6_bitCount_0f7a4_9, sJ6_bitCount_0f7a4_10, sJ6_bitCount_0f7a4_11, sJ6_bitCount_0f7a4_14, sJ6_bitCount_0f7a4_15, sJ6_bitCount_0f7a4_16, sJ6_bitCount_0f7a4_17, sJ6_bitCount_0f7a4_18, sJ6_bitCount_0f7a4_21, sJ6_bitCount_0f7a4_22, sJ6_bitCount_0f7a4_23, sJ6_bitCount_0f7a4_24, sJ6_bitCount_0f7a4_25, sJ6_bitCount_0f7a4_26, sJ6_bitCount_0f7a4_27, sJ6_bitCount_0f7a4_28, sJ6_bitCount_0f7a4_29, sJ6_bitCount_0f7a4_32, sJ6_bitCount_0f7a4_33, sJ6_bitCount_0f7a4_34, sJ6_bitCount_0f7a4_35, sJ6_bitCount_0f7a4_36, sJ6_bitCount_0f7a4_38, sJ6_bitCount_0f7a4_39, sJ6_bitCount_0f7a4_40, sJ6_bitCount_0f7a4_41, sJ6_bitCount_0f7a4_42, sJ6_bitCount_0f7a4_43, sJ6_bitCount_0f7a4_45, sJ6_bitCount_0f7a4_46, sJ6_bitCount_0f7a4_47, sJ6_bitCount_0f7a4_48, sJ6_bitCount_0f7a4_49, sJ6_bitCount_0f7a4_51, sJ6_bitCount_0f7a4_52]
  rfl
theorem bits_all : ∀ s : Fin 256, ∀ g : Fin 8, (nI s.val ||| nI (2 ^ g.val)) = nI (s.val ||| 2 ^ g.val) ∧ (nI s.val &&& nI (2 ^ g.val) = 0 ↔ s.val.testBit g.val = false) ∧ ((nI s.val >>> (nI g.val &&& 31)) &&& 1 = 1 ↔ s.val.testBit g.val = true) ∧ (s.val ||| 2 ^ g.val) < 256 ∧ (s.val.testBit g.val = false → pcn (s.val ||| 2 ^ g.val) = pcn s.val + 1 ∧ s.val < (s.val ||| 2 ^ g.val)) := by decide +kernel
theorem shl_all : ∀ g : Fin 9, (1 : Int32) <<< (nI g.val &&& 31) = nI (2 ^ g.val) := by decide +kernel
theorem pcn_all : ∀ h : Fin 9, ∀ s : Fin 256, s.val < 2 ^ h.val → pcn s.val ≤ h.val ∧ (s.val + 1 < 2 ^ h.val → pcn s.val < h.val) ∧ pcn (2 ^ h.val - 1) = h.val := by decide +kernel
theorem pow_le {h : Nat} (h8 : h ≤ 8) : 2 ^ h ≤ 256 := Nat.pow_le_pow_right (by decide) h8
theorem or_lt {s g h : Nat} (hs : s < 2 ^ h) (hg : g < h) : s ||| 2 ^ g < 2 ^ h := Nat.or_lt_two_pow hs (Nat.pow_lt_pow_right (by decide) hg)
theorem addI {a c : Int32} (h1 : -2147483648 ≤ a.toInt + c.toInt) (h2 : a.toInt + c.toInt < 2147483648) : (a + c).toInt = a.toInt + c.toInt := by
  rw [Int32.toInt_add]
  exact Int.bmod_eq_of_le (by omega) (by omega)
theorem subI {a c : Int32} (h1 : -2147483648 ≤ a.toInt - c.toInt) (h2 : a.toInt - c.toInt < 2147483648) : (a - c).toInt = a.toInt - c.toInt := by
  rw [Int32.toInt_sub]
  exact Int.bmod_eq_of_le (by omega) (by omega)
def jw (tk may : Bool) (j m : Int) : Int := if tk = true ∨ may = false ∨ m < 0 then -1 else j + m
theorem mfs_jw {tk may : Bool} {j m v : Int} (hv : -1 ≤ v) : mfs may tk j m v = if v < jw tk may j m then jw tk may j m else v := by
  unfold mfs jw
  split
  · rw [if_neg (by omega)]
  · rfl
def jOk (J : Nat → Int32) : Prop := ∀ i, i < 64 → 0 ≤ (J i).toInt ∧ (J i).toInt ≤ 1000
/-- the greatest joy among the houses below g -/
def mfp (J : Nat → Int32) (h r set g : Nat) : Int := (List.range g).foldl (fun v g => mfs (mayB J (h - (r + 1)) g) (set.testBit g) ((J (8 * (h - (r + 1)) + g)).toInt) (mfv J h r (set ||| 2 ^ g)) v) (-1)
theorem mfp_succ {J : Nat → Int32} {h r set g : Nat} : mfp J h r set (g + 1) = mfs (mayB J (h - (r + 1)) g) (set.testBit g) ((J (8 * (h - (r + 1)) + g)).toInt) (mfv J h r (set ||| 2 ^ g)) (mfp J h r set g) := by
  unfold mfp
  rw [List.range_succ, List.foldl_append]
  rfl
theorem mfv_eq {J : Nat → Int32} {h r set : Nat} : mfv J h (r + 1) set = mfp J h r set h := by
  rw [mfv]; rfl
theorem mfv_bd {J : Nat → Int32} {h : Nat} (hJ : jOk J) (h8 : h ≤ 8) : ∀ (r : Nat) (set : Nat), r ≤ h → -1 ≤ mfv J h r set ∧ mfv J h r set ≤ 1000 * r
  | 0, set, _ => by rw [mfv]; omega
  | r + 1, set, hr => by
    have ih := fun set => mfv_bd hJ h8 r set (by omega)
    have key : ∀ g, g ≤ h → -1 ≤ mfp J h r set g ∧ mfp J h r set g ≤ 1000 * (r + 1) := by
      intro g
      induction g with
      | zero => intro _; show (-1 : Int) ≤ -1 ∧ (-1 : Int) ≤ _; omega
      | succ g ihg =>
        intro hg
        have k1 := ihg (by omega)
        have k2 := ih (set ||| 2 ^ g)
        have k3 := hJ (8 * (h - (r + 1)) + g) (by omega)
        rw [mfp_succ]
        unfold mfs
        split
        · exact k1
        · split <;> omega
    rw [mfv_eq]
    have := key h (Nat.le_refl _)
    omega
theorem mfp_bd {J : Nat → Int32} {h : Nat} (hJ : jOk J) (h8 : h ≤ 8) {r set : Nat} (hr : r + 1 ≤ h) : ∀ g, g ≤ h → -1 ≤ mfp J h r set g ∧ mfp J h r set g ≤ 1000 * (r + 1) := by
  intro g
  induction g with
  | zero => intro _; show (-1 : Int) ≤ -1 ∧ (-1 : Int) ≤ _; omega
  | succ g ihg =>
    intro hg
    have k1 := ihg (by omega)
    have k2 := mfv_bd hJ h8 r (set ||| 2 ^ g) (by omega)
    have k3 := hJ (8 * (h - (r + 1)) + g) (by omega)
    rw [mfp_succ]
    unfold mfs
    split
    · exact k1
    · split <;> omega
/-- a house that keeps the greatest joy -/
def mfq (J : Nat → Int32) (h r set g : Nat) : Bool := !set.testBit g && mayB J (h - (r + 1)) g && decide (0 ≤ mfv J h r (set ||| 2 ^ g)) && decide ((J (8 * (h - (r + 1)) + g)).toInt + mfv J h r (set ||| 2 ^ g) = mfv J h (r + 1) set)
theorem mfq_iff {J : Nat → Int32} {h r set g : Nat} : mfq J h r set g = true ↔ set.testBit g = false ∧ mayB J (h - (r + 1)) g = true ∧ 0 ≤ mfv J h r (set ||| 2 ^ g) ∧ (J (8 * (h - (r + 1)) + g)).toInt + mfv J h r (set ||| 2 ^ g) = mfv J h (r + 1) set := by
  unfold mfq
  simp only [Bool.and_eq_true, Bool.not_eq_true', decide_eq_true_eq, and_assoc]
theorem mfg_eq {J : Nat → Int32} {h r set g : Nat} (hg : g < h) (hp : mfq J h r set g = true) (hl : ∀ j, j < g → ¬ mfq J h r set j = true) : mfg J h r set = g := by
  have : (List.range h).find? (mfq J h r set) = some g := by
    rw [List.find?_range_eq_some]
    refine ⟨hp, List.mem_range.mpr hg, fun j hj => ?_⟩
    have := hl j hj
    simpa using this
  unfold mfg
  have e : (fun g => !set.testBit g && mayB J (h - (r + 1)) g && decide (0 ≤ mfv J h r (set ||| 2 ^ g)) && decide ((J (8 * (h - (r + 1)) + g)).toInt + mfv J h r (set ||| 2 ^ g) = mfv J h (r + 1) set)) = mfq J h r set := rfl
  rw [e, this]
  rfl
/-- where there is a joy at all, some house has it -/
theorem mfp_has {J : Nat → Int32} {h r set : Nat} : ∀ g, 0 ≤ mfp J h r set g → ∃ j, j < g ∧ set.testBit j = false ∧ mayB J (h - (r + 1)) j = true ∧ 0 ≤ mfv J h r (set ||| 2 ^ j) ∧ (J (8 * (h - (r + 1)) + j)).toInt + mfv J h r (set ||| 2 ^ j) = mfp J h r set g := by
  intro g
  induction g with
  | zero => intro hh; exact absurd hh (by show ¬ (0 : Int) ≤ -1; decide)
  | succ g ih =>
    intro hh
    rw [mfp_succ] at hh ⊢
    unfold mfs at hh ⊢
    split at hh
    · rename_i hc
      rw [if_pos hc]
      obtain ⟨j, q1, q2⟩ := ih hh
      exact ⟨j, by omega, q2⟩
    · rename_i hc
      rw [if_neg hc]
      split at hh
      · rename_i hc2
        rw [if_pos hc2]
        refine ⟨g, by omega, ?_, ?_, by omega, rfl⟩
        · cases e : set.testBit g
          · rfl
          · exact absurd (Or.inl e) hc
        · cases e : mayB J (h - (r + 1)) g
          · exact absurd (Or.inr (Or.inl e)) hc
          · rfl
      · rename_i hc2
        rw [if_neg hc2]
        obtain ⟨j, q1, q2⟩ := ih hh
        exact ⟨j, by omega, q2⟩
theorem mfg_ok {J : Nat → Int32} {h r set : Nat} (hv : 0 ≤ mfv J h (r + 1) set) : mfg J h r set < h ∧ mfq J h r set (mfg J h r set) = true ∧ ∀ j, j < mfg J h r set → ¬ mfq J h r set j = true := by
  rw [mfv_eq] at hv
  obtain ⟨j, q1, q2, q3, q4, q5⟩ := mfp_has h hv
  have hq : mfq J h r set j = true := by rw [mfq_iff, mfv_eq]; exact ⟨q2, q3, q4, q5⟩
  have e : ∃ g, (List.range h).find? (mfq J h r set) = some g := by
    cases e : (List.range h).find? (mfq J h r set) with
    | some g => exact ⟨g, rfl⟩
    | none =>
      rw [List.find?_eq_none] at e
      exact absurd hq (e j (List.mem_range.mpr q1))
  obtain ⟨g, e⟩ := e
  have e' := e
  rw [List.find?_range_eq_some] at e'
  obtain ⟨w1, w2, w3⟩ := e'
  have eg : mfg J h r set = g := mfg_eq (List.mem_range.mp w2) w1 (fun j hj => by have := w3 j hj; simpa using this)
  rw [eg]
  exact ⟨List.mem_range.mp w2, w1, fun j hj => by have := w3 j hj; simpa using this⟩
/-- to leave all as it is can always be done -/
theorem mfp_ge {J : Nat → Int32} {h r set j : Nat} (hj : set.testBit j = false) (hm : mayB J (h - (r + 1)) j = true) (h0 : 0 ≤ mfv J h r (set ||| 2 ^ j)) (hJ : 0 ≤ (J (8 * (h - (r + 1)) + j)).toInt) : ∀ g, j < g → 0 ≤ mfp J h r set g := by
  intro g
  induction g with
  | zero => intro h; omega
  | succ g ih =>
    intro hg
    rw [mfp_succ]
    unfold mfs
    by_cases e : j = g
    · subst e
      rw [if_neg (by rw [hj, hm]; simp; omega)]
      split <;> omega
    · have := ih (by omega)
      split
      · exact this
      · split <;> omega
theorem mf_id {J : Nat → Int32} {h : Nat} (hJ : jOk J) (h8 : h ≤ 8) : ∀ r, r ≤ h → 0 ≤ mfv J h r (2 ^ (h - r) - 1)
  | 0, _ => by rw [mfv]; omega
  | r + 1, hr => by
    have ih := mf_id hJ h8 r (by omega)
    rw [mfv_eq]
    have e : (2 ^ (h - (r + 1)) - 1) ||| 2 ^ (h - (r + 1)) = 2 ^ (h - r) - 1 := by
      have hh : h - r = (h - (r + 1)) + 1 := by omega
      rw [hh]
      have : ∀ i : Fin 8, (2 ^ i.val - 1) ||| 2 ^ i.val = 2 ^ (i.val + 1) - 1 := by decide
      exact this ⟨h - (r + 1), by omega⟩
    refine mfp_ge (j := h - (r + 1)) ?_ ?_ ?_ ?_ h (by omega)
    · have : ∀ i : Fin 8, (2 ^ i.val - 1).testBit i.val = false := by decide
      exact this ⟨h - (r + 1), by omega⟩
    · unfold mayB; simp
    · rw [e]; exact ih
    · exact (hJ _ (by omega)).1
theorem mfset_ok {J : Nat → Int32} {h : Nat} (hJ : jOk J) (h8 : h ≤ 8) : ∀ i, i ≤ h → mfset J h i < 2 ^ h ∧ pcn (mfset J h i) = i ∧ 0 ≤ mfv J h (h - i) (mfset J h i)
  | 0, _ => by
    refine ⟨Nat.two_pow_pos h, (by decide : pcn 0 = 0), ?_⟩
    have := mf_id hJ h8 h (Nat.le_refl _)
    rw [Nat.sub_self] at this
    exact this
  | i + 1, hi => by
    obtain ⟨h1, h2, h3⟩ := mfset_ok hJ h8 i (by omega)
    have er : h - i = (h - (i + 1)) + 1 := by omega
    rw [er] at h3
    obtain ⟨g1, g2, -⟩ := mfg_ok h3
    rw [mfq_iff] at g2
    obtain ⟨b1, b2', b3, b4⟩ := g2
    have p := pow_le h8
    have ba := bits_all ⟨mfset J h i, by omega⟩ ⟨mfg J h (h - (i + 1)) (mfset J h i), by omega⟩
    refine ⟨or_lt h1 g1, ?_, b3⟩
    have := (ba.2.2.2.2 b1).1
    rw [mfset]
    rw [h2] at this
    exact this
end K24
