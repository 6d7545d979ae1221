section K48
/-! a line and the law over the kinds of the tokens -/
def badAt (K : Nat → Nat) (e : Nat) : Nat × Nat := (fkd (K e), e)
def rulP (K nv : Nat → Nat) (k : Nat) : Except (Nat × Nat) (Nat × Nat × Nat) :=
  if 11 ≤ K k ∧ K k ≤ 14 then (if K k = 13 then (if K (k + 1) = 19 then (if 100 < nv (k + 1) then .error (3, k + 1) else .ok (k + 2, 3, nv (k + 1))) else .error (badAt K (k + 1))) else .ok (k + 1, K k - 10, 0)) else .error (badAt K k)
def tailP (K nv : Nat → Nat) (s : PSt) : Except (Nat × Nat) (Nat × Nat × Ln1) :=
  if K s.1 = 10 then (match rulP K nv (s.1 + 1) with
    | .error e => .error e
    | .ok r => if K r.1 = 22 then .ok (r.1 + 1, s.2.1, (s.2.2, r.2.1, r.2.2)) else .error (badAt K r.1)) else .error (badAt K s.1)
def lineP (K nv : Nat → Nat) (j tc : Nat) : Except (Nat × Nat) (Nat × Nat × Ln1) :=
  if K j = 9 then (match eitherP K (oneP K nv 6) (j + 1) tc with
    | .error e => .error (badAt K e)
    | .ok s => tailP K nv s) else .error (badAt K j)
def lawP (K nv : Nat → Nat) : Nat → Nat → Nat → List Ln1 → Except (Nat × Nat) (List Ln1)
  | 0, j, _, law => if K j = 20 then .ok law else .error (badAt K j)
  | n + 1, j, tc, law => if K j = 9 then (match lineP K nv j tc with
    | .error e => .error e
    | .ok s => lawP K nv n s.1 s.2.1 (law ++ [s.2.2])) else if K j = 20 then .ok law else .error (badAt K j)
variable {K nv : Nat → Nat} {m : Nat}
theorem rulP_ok (hK : KOk K nv m) {k : Nat} (hk : k ≤ m) {r : Nat × Nat × Nat} (h : rulP K nv k = .ok r) : k < r.1 ∧ r.1 ≤ m ∧ 1 ≤ r.2.1 ∧ r.2.1 ≤ 4 ∧ r.2.2 ≤ 100 := by
  unfold rulP at h
  split at h
  · rename_i h1
    have n1 := hK.nxt hk (by omega) (by omega)
    split at h
    · split at h
      · rename_i h3
        have n2 := hK.nxt n1 (by omega) (by omega)
        split at h
        · cases h
        · injection h with h; subst h
          exact ⟨by show k < k + 2; omega, n2, by show 1 ≤ 3; omega, by show 3 ≤ 4; omega, by show nv (k + 1) ≤ 100; omega⟩
      · cases h
    · injection h with h; subst h
      exact ⟨by show k < k + 1; omega, n1, by show 1 ≤ K k - 10; omega, by show K k - 10 ≤ 4; omega, Nat.zero_le _⟩
  · cases h
theorem lineP_ok (hK : KOk K nv m) {j tc : Nat} (hj : j ≤ m) {s : Nat × Nat × Ln1} (h : lineP K nv j tc = .ok s) : j + s.2.2.1.length ≤ s.1 ∧ s.1 ≤ m ∧ s.2.1 ≤ 80 ∧ lnOk s.2.2 := by
  unfold lineP at h
  split at h
  · have n1 := hK.nxt hj (by omega) (by omega)
    have ho := eitherP_ok (tc := tc) hK (show 1 ≤ 2 * 6 + 1 by omega) (oneP_ok hK 6) n1
    cases e : eitherP K (oneP K nv 6) (j + 1) tc with
    | error e' => rw [e] at h; cases h
    | ok t =>
      rw [e] at h ho
      obtain ⟨o1, o2, o3, o4, o5, o6⟩ := ho
      dsimp only at h
      unfold tailP at h
      split at h
      · have n2 := hK.nxt o2 (by omega) (by omega)
        cases e2 : rulP K nv (t.1 + 1) with
        | error e' => rw [e2] at h; cases h
        | ok r =>
          rw [e2] at h
          obtain ⟨r1, r2, r3, r4, r5⟩ := rulP_ok hK n2 e2
          dsimp only at h
          split at h
          · have n3 := hK.nxt r2 (by omega) (by omega)
            injection h with h; subst h
            exact ⟨by show j + t.2.2.length ≤ r.1 + 1; omega, n3, o4, o5, o6 0 (by omega), r3, r4, r5⟩
          · cases h
      · cases h
  · cases h
theorem flat_app {law : List Ln1} {w : Ln1} : flat (law ++ [w]) = flat law ++ w.1 := by
  unfold flat
  rw [List.flatMap_append]
  simp
theorem lawP_ok (hK : KOk K nv m) (hm : m ≤ 600) {w : List Ln1} : ∀ (n j tc : Nat) (law : List Ln1), j ≤ m → (flat law).length ≤ j → (∀ q ∈ law, lnOk q) → law.length + n = 16 → lawP K nv n j tc law = .ok w → lawOk w
  | 0, j, tc, law, hj, hf, ho, hn, h => by
    rw [lawP] at h
    split at h
    · injection h with h; subst h
      exact ⟨by omega, by omega, ho⟩
    · cases h
  | n + 1, j, tc, law, hj, hf, ho, hn, h => by
    rw [lawP] at h
    split at h
    · cases e : lineP K nv j tc with
      | error e' => rw [e] at h; cases h
      | ok s =>
        rw [e] at h
        obtain ⟨s1, s2, s3, s4⟩ := lineP_ok hK hj e
        refine lawP_ok hK hm n s.1 s.2.1 (law ++ [s.2.2]) s2 ?_ ?_ ?_ h
        · rw [flat_app, List.length_append]; omega
        · intro q hq
          rcases List.mem_append.mp hq with hq | hq
          · exact ho q hq
          · simp only [List.mem_singleton] at hq
            rw [hq]; exact s4
        · rw [List.length_append, List.length_singleton]; omega
    · split at h
      · injection h with h; subst h
        exact ⟨by omega, by omega, ho⟩
      · cases h
end K48
section K49
variable {d : Nat} {x y z : Int32} {M M' M0 : Mt} {N N' : Nt} {b : Bool} {Q : Qt} {C : Nat → Nat} {l m dl st le ru pe sz : Nat} {pre : List Op1}
/-- the draft's object and rows, one of the two -/
def DL (b : Bool) (dl st le ru pe : Nat) : Prop := (b = true ∧ dl = 11 ∧ st = 40 ∧ le = 41 ∧ ru = 42 ∧ pe = 43) ∨ (b = false ∧ dl = 12 ∧ st = 45 ∧ le = 46 ∧ ru = 47 ∧ pe = 48)
theorem DL.dr (h : DL b dl st le ru pe) : DR b dl st := by
  rcases h with ⟨rfl, rfl, rfl, -⟩ | ⟨rfl, rfl, rfl, -⟩
  · exact DR_t
  · exact DR_f
theorem DL.ne (h : DL b dl st le ru pe) : ¬ dl = 9 ∧ ¬ st = 9 ∧ ¬ le = 9 ∧ ¬ ru = 9 ∧ ¬ pe = 9 ∧ ¬ st = dl ∧ ¬ le = dl ∧ ¬ ru = dl ∧ ¬ pe = dl ∧ ¬ le = st ∧ ¬ ru = st ∧ ¬ pe = st ∧ ¬ ru = le ∧ ¬ pe = le ∧ ¬ pe = ru := by
  rcases h with ⟨-, rfl, rfl, rfl, rfl, rfl⟩ | ⟨-, rfl, rfl, rfl, rfl, rfl⟩ <;> decide
theorem wX2_closeLine {s n : Nat} (hD : DL b dl st le ru pe) (h5 : M dl 5 = nI s) (h6 : M dl 6 = nI n) (hn : n < 16) (hq : Q none (up2 (up2 (up2 (up2 M ru n x) pe n y) le n (nI s)) dl 6 (nI (n + 1))) N (pr b)) : Wp mX2_closeLine d 0 [.ref dl, .int x, .int y] [] M N (pr b) Q := by
  have c1 : ¬ (16 : Int32) ≤ nI n := nI_ge (b := 16) hn (by omega)
  have v1 : vp_in (nI n) 16 := vp_in_nI hn (by omega)
  have l1 := cl_nI (show n < 2 ^ 31 by omega)
  rcases hD with ⟨rfl, rfl, rfl, rfl, rfl, rfl⟩ | ⟨rfl, rfl, rfl, rfl, rfl, rfl⟩
  · simp only [shk_0, shk_1, shk_2, shk_3, shk_4, shk_5, shk_6, shk_7, shk_8, shk_9, shk_10, shk_11, shk_12, shk_13, shk_14, shk_15, shk_16, shk_17, shk_18, shk_19, shk_20, shk_21, shk_22, shk_23, shk_24, shk_25, shk_26, shk_27, shk_28, shk_29, shk_30, shk_31, shk_32, shk_33, shk_34, shk_35, shk_36, shk_37, shk_38, shk_39, shk_40, shk_41, shk_42, shk_43, shk_44, shk_45, shk_46, shk_47, shk_48, shk_49, shk_50, shk_51, shk_52, shk_53, shk_54, shk_55, shk_56, shk_57, shk_58, shk_59, shk_60, shk_61, shk_62, shk_63, shk_64, shk_65, shk_66, shk_67, shk_68, shk_69, shk_70, shk_71, shk_72, shk_73, shk_74, shk_75, shk_76, shk_77, shk_78, shk_79, shk_80, shk_81, shk_82, shk_83, shk_84, nl_i, nl_r, nl_f, cat_i, cat_r, sk_0, sk_1, sk_2, sk_3, sk_4, tl_some, tl_none, bit0, bit1, bit_b2, b2_eq0, isB_1, isB_2, isA_0, isA_1, pr_0_0, pr_0_1, pr_0_2, pr_0_3, pr_0_4, pr_0_5, pr_0_6, pr_0_7, pr_0_8, pr_0_9, pr_0_10, pr_0_11, pr_1_0, pr_1_1, pr_1_2, pr_2_0, pr_2_1, pr_2_2, pr_2_3, pr_3_0, pr_3_1, pr_4_0, pr_4_1, pr_4_2, pr_4_3, pr_4_4, pr_4_5, pr_4_6, pr_4_7, pr_4_8, pr_5_0, pr_5_1, pr_6_0, pr_6_1, pr_7_0, pr_8_0, pr_8_1, pr_8_2, pr_9_0, pr_9_1, pr_10_0, pr_10_1, pr_10_2, pr_11_0, pr_11_1, pr_11_2, pr_11_3, pr_11_4, pr_12_0, pr_12_1, pr_12_2, pr_12_3, pr_12_4, pr_50_0, pr_50_1, pr_50_2, pr_50_3, pr_50_4, pr_50_5, pr_50_9, pr_50_10, pr_50_11, pr_50_12, pr_50_13, pr_50_14, pr_50_15, pr_50_16, pr_50_17, pr_50_18, pr_50_21, pr_50_22, pr_50_32, pr_50_33, pr_50_34, pr_50_35, pr_50_36, pr_50_37, pr_50_38, pr_50_43, pr_50_46, pr_50_47, pr_50_48, pr_50_50, pr_50_51, pr_50_52, pr_50_53, pr_50_54, up2_at, Nat.reduceEqDiff, ↓reduceIte, if_true, if_false, sX2_closeLine_0, sX2_closeLine_1, sX2_closeLine_4, sX2_closeLine_6, sX2_closeLine_9, sX2_closeLine_10, sX2_closeLine_13, sX2_closeLine_14, sX2_closeLine_17, sX2_closeLine_18, sX2_closeLine_19, sX2_closeLine_20, sX2_closeLine_23, sX2_closeLine_24, sX2_closeLine_27, sX2_closeLine_28, sX2_closeLine_29, sX2_closeLine_30, sX2_closeLine_33, sX2_closeLine_34, sX2_closeLine_37, sX2_closeLine_38, sX2_closeLine_41, sX2_closeLine_42, sX2_closeLine_43, sX2_closeLine_44, sX2_closeLine_47, sX2_closeLine_48, sX2_closeLine_49, sX2_closeLine_52, h5, h6, c1, v1, l1, true_and, nI_1]
    exact hq
  · simp only [shk_0, shk_1, shk_2, shk_3, shk_4, shk_5, shk_6, shk_7, shk_8, shk_9, shk_10, shk_11, shk_12, shk_13, shk_14, shk_15, shk_16, shk_17, shk_18, shk_19, shk_20, shk_21, shk_22, shk_23, shk_24, shk_25, shk_26, shk_27, shk_28, shk_29, shk_30, shk_31, shk_32, shk_33, shk_34, shk_35, shk_36, shk_37, shk_38, shk_39, shk_40, shk_41, shk_42, shk_43, shk_44, shk_45, shk_46, shk_47, shk_48, shk_49, shk_50, shk_51, shk_52, shk_53, shk_54, shk_55, shk_56, shk_57, shk_58, shk_59, shk_60, shk_61, shk_62, shk_63, shk_64, shk_65, shk_66, shk_67, shk_68, shk_69, shk_70, shk_71, shk_72, shk_73, shk_74, shk_75, shk_76, shk_77, shk_78, shk_79, shk_80, shk_81, shk_82, shk_83, shk_84, nl_i, nl_r, nl_f, cat_i, cat_r, sk_0, sk_1, sk_2, sk_3, sk_4, tl_some, tl_none, bit0, bit1, bit_b2, b2_eq0, isB_1, isB_2, isA_0, isA_1, pr_0_0, pr_0_1, pr_0_2, pr_0_3, pr_0_4, pr_0_5, pr_0_6, pr_0_7, pr_0_8, pr_0_9, pr_0_10, pr_0_11, pr_1_0, pr_1_1, pr_1_2, pr_2_0, pr_2_1, pr_2_2, pr_2_3, pr_3_0, pr_3_1, pr_4_0, pr_4_1, pr_4_2, pr_4_3, pr_4_4, pr_4_5, pr_4_6, pr_4_7, pr_4_8, pr_5_0, pr_5_1, pr_6_0, pr_6_1, pr_7_0, pr_8_0, pr_8_1, pr_8_2, pr_9_0, pr_9_1, pr_10_0, pr_10_1, pr_10_2, pr_11_0, pr_11_1, pr_11_2, pr_11_3, pr_11_4, pr_12_0, pr_12_1, pr_12_2, pr_12_3, pr_12_4, pr_50_0, pr_50_1, pr_50_2, pr_50_3, pr_50_4, pr_50_5, pr_50_9, pr_50_10, pr_50_11, pr_50_12, pr_50_13, pr_50_14, pr_50_15, pr_50_16, pr_50_17, pr_50_18, pr_50_21, pr_50_22, pr_50_32, pr_50_33, pr_50_34, pr_50_35, pr_50_36, pr_50_37, pr_50_38, pr_50_43, pr_50_46, pr_50_47, pr_50_48, pr_50_50, pr_50_51, pr_50_52, pr_50_53, pr_50_54, up2_at, Nat.reduceEqDiff, ↓reduceIte, if_true, if_false, sX2_closeLine_0, sX2_closeLine_1, sX2_closeLine_4, sX2_closeLine_6, sX2_closeLine_9, sX2_closeLine_10, sX2_closeLine_13, sX2_closeLine_14, sX2_closeLine_17, sX2_closeLine_18, sX2_closeLine_19, sX2_closeLine_20, sX2_closeLine_23, sX2_closeLine_24, sX2_closeLine_27, sX2_closeLine_28, sX2_closeLine_29, sX2_closeLine_30, sX2_closeLine_33, sX2_closeLine_34, sX2_closeLine_37, sX2_closeLine_38, sX2_closeLine_41, sX2_closeLine_42, sX2_closeLine_43, sX2_closeLine_44, sX2_closeLine_47, sX2_closeLine_48, sX2_closeLine_49, sX2_closeLine_52, h5, h6, c1, v1, l1, true_and, nI_1]
    exact hq
def PLn (C : Nat → Nat) (l dl st le ru pe : Nat) (M0 M : Mt) (j tc : Nat) (law : List Ln1) : Prop := (∀ o, ¬ o = 9 → ¬ o = dl → ¬ o = st → ¬ o = le → ¬ o = ru → ¬ o = pe → M o = M0 o) ∧ M 9 2 = 0 ∧ M 9 3 = -1 ∧ M 9 4 = nI j ∧ M 9 5 = nI (kK C l j) ∧ M 9 6 = vK C l j ∧ M 9 7 = nI tc ∧ M dl 5 = nI (flat law).length ∧ lawC dl st le ru pe law M
def PLf (C : Nat → Nat) (l dl st le ru pe : Nat) (M0 M : Mt) (e : Nat × Nat) : Prop := (∀ o, ¬ o = 9 → ¬ o = dl → ¬ o = st → ¬ o = le → ¬ o = ru → ¬ o = pe → M o = M0 o) ∧ M 9 2 = nI e.1 ∧ M 9 3 = nI (tA C l e.2)
/-- behind a line's ruling: what stood before the line is M, n lines -/
def PCc (C : Nat → Nat) (l dl st le ru pe : Nat) (M M' : Mt) (j tc sz : Nat) (ops : List Op1) (n rl pt : Nat) : Prop := (∀ o, ¬ o = 9 → ¬ o = dl → ¬ o = st → ¬ o = le → ¬ o = ru → ¬ o = pe → M' o = M o) ∧ (M' 9 2 = M 9 2 ∧ M' 9 3 = M 9 3) ∧ M' 9 4 = nI j ∧ M' 9 5 = nI (kK C l j) ∧ M' 9 6 = vK C l j ∧ M' 9 7 = nI tc ∧ M' dl 5 = nI (sz + ops.length) ∧ M' dl 6 = nI (n + 1) ∧ (∀ i, i < sz → M' st i = M st i) ∧ (∀ i, i < ops.length → M' st (sz + i) = opI (ops.getD i (0, 0))) ∧ (∀ i, M' le i = if i = n then nI (sz + ops.length) else M le i) ∧ (∀ i, M' ru i = if i = n then nI rl else M ru i) ∧ ∀ i, M' pe i = if i = n then nI pt else M pe i
theorem PF.plf {e : Nat} (hD : DL b dl st le ru pe) (h : PF C l dl st M M' e) (hf : ∀ o, ¬ o = 9 → ¬ o = dl → ¬ o = st → ¬ o = le → ¬ o = ru → ¬ o = pe → M o = M0 o) : PLf C l dl st le ru pe M0 M' (badAt (kK C l) e) :=
  ⟨fun o h1 h2 h3 h4 h5 h6 => by rw [h.1 o h1 h2 h3]; exact hf o h1 h2 h3 h4 h5 h6, h.2.1, h.2.2.1⟩
theorem PCc.base {j tc n rl pt : Nat} {ops : List Op1} (h : PCc C l dl st le ru pe M M' j tc sz ops n rl pt) : PC C l dl st M' M' j tc (sz + ops.length) [] := by
  obtain ⟨f, ⟨f2, f3⟩, f4, f5, f6, f7, f8, f9, -⟩ := h
  exact ⟨fun _ _ _ _ => rfl, ⟨rfl, rfl⟩, f4, f5, f6, f7, f8, rfl, fun _ _ => rfl, fun i hi => absurd hi (Nat.not_lt_zero i)⟩
theorem PCc.step {j j' tc n rl pt : Nat} {ops : List Op1} {M2 : Mt} (hD : DL b dl st le ru pe) (h : PCc C l dl st le ru pe M M' j tc sz ops n rl pt) (h2 : PC C l dl st M' M2 j' tc (sz + ops.length) []) : PCc C l dl st le ru pe M M2 j' tc sz ops n rl pt := by
  obtain ⟨d1, d2, d3, d4, d5, d6, d7, d8, d9, d10, d11, d12, d13, d14, d15⟩ := hD.ne
  obtain ⟨f, ⟨f2, f3⟩, f4, f5, f6, f7, f8, f9, f10, f11, f12, f13, f14⟩ := h
  obtain ⟨g, ⟨g2, g3⟩, g4, g5, g6, g7, g8, g9, g10, g11⟩ := h2
  refine ⟨fun o k1 k2 k3 k4 k5 k6 => ?_, ⟨?_, ?_⟩, g4, g5, g6, g7, ?_, ?_, fun i hi => ?_, fun i hi => ?_, fun i => ?_, fun i => ?_, fun i => ?_⟩
  · rw [g o k1 k2 k3]; exact f o k1 k2 k3 k4 k5 k6
  · rw [g2]; exact f2
  · rw [g3]; exact f3
  · exact g8
  · rw [g9]; exact f9
  · rw [g10 i (by omega)]; exact f10 i hi
  · rw [g10 _ (by omega)]; exact f11 i hi
  · rw [g le d3 d7 d10]; exact f12 i
  · rw [g ru d4 d8 d11]; exact f13 i
  · rw [g pe d5 d9 d12]; exact f14 i
theorem PCc.tk {j tc n rl pt : Nat} {ops : List Op1} (hD : DL b dl st le ru pe) (h : PCc C l dl st le ru pe M M' j tc sz ops n rl pt) (ht : TKs C l m M) : TKs C l m M' := by
  obtain ⟨f, -⟩ := h
  have k : ∀ o, o = 8 ∨ o = 34 ∨ o = 35 ∨ o = 36 → M' o = M o := fun o ho => by
    rcases hD with ⟨rfl, rfl, rfl, rfl, rfl, rfl⟩ | ⟨rfl, rfl, rfl, rfl, rfl, rfl⟩ <;> exact f o (by omega) (by omega) (by omega) (by omega) (by omega) (by omega)
  refine ⟨?_, fun i hi => ?_, ht.2.2⟩
  · rw [k 8 (by omega)]; exact ht.1
  · rw [k 34 (by omega), k 35 (by omega), k 36 (by omega)]; exact ht.2.1 i hi
theorem PC.close {j tc n rl pt : Nat} {ops : List Op1} (hD : DL b dl st le ru pe) (h : PC C l dl st M M' j tc sz ops) : PCc C l dl st le ru pe M (up2 (up2 (up2 (up2 M' ru n (nI rl)) pe n (nI pt)) le n (nI (sz + ops.length))) dl 6 (nI (n + 1))) j tc sz ops n rl pt := by
  obtain ⟨d1, d2, d3, d4, d5, d6, d7, d8, d9, d10, d11, d12, d13, d14, d15⟩ := hD.ne
  obtain ⟨g, ⟨g2, g3⟩, g4, g5, g6, g7, g8, g9, g10, g11⟩ := h
  have e9 : ∀ i, up2 (up2 (up2 (up2 M' ru n (nI rl)) pe n (nI pt)) le n (nI (sz + ops.length))) dl 6 (nI (n + 1)) 9 i = M' 9 i := fun i => by
    rw [up2_ne 9 (fun e => d1 e.symm), up2_ne 9 (fun e => d3 e.symm), up2_ne 9 (fun e => d5 e.symm), up2_ne 9 (fun e => d4 e.symm)]
  have es : ∀ i, up2 (up2 (up2 (up2 M' ru n (nI rl)) pe n (nI pt)) le n (nI (sz + ops.length))) dl 6 (nI (n + 1)) st i = M' st i := fun i => by
    rw [up2_ne st d6, up2_ne st (fun e => d10 e.symm), up2_ne st (fun e => d12 e.symm), up2_ne st (fun e => d11 e.symm)]
  refine ⟨fun o k1 k2 k3 k4 k5 k6 => ?_, ⟨?_, ?_⟩, ?_, ?_, ?_, ?_, ?_, ?_, fun i hi => ?_, fun i hi => ?_, fun i => ?_, fun i => ?_, fun i => ?_⟩
  · rw [up2_ne o k2, up2_ne o k4, up2_ne o k6, up2_ne o k5]; exact g o k1 k2 k3
  · rw [e9]; exact g2
  · rw [e9]; exact g3
  · rw [e9]; exact g4
  · rw [e9]; exact g5
  · rw [e9]; exact g6
  · rw [e9]; exact g7
  · rw [upM (by decide), up2_ne dl (fun e => d7 e.symm), up2_ne dl (fun e => d9 e.symm), up2_ne dl (fun e => d8 e.symm)]; exact g8
  · rw [upO]
  · rw [es]; exact g10 i hi
  · rw [es]; exact g11 i hi
  · rw [up2_ne le d7, up2_self, up2_ne le (fun e => d14 e.symm), up2_ne le (fun e => d13 e.symm), g le d3 d7 d10]
  · rw [up2_ne ru d8, up2_ne ru d13, up2_ne ru (fun e => d15 e.symm), up2_self, g ru d4 d8 d11]
  · rw [up2_ne pe d9, up2_ne pe d14, up2_self, up2_ne pe d15, g pe d5 d9 d12]
end K49
