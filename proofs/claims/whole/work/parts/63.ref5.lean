section K58
variable {d : Nat} {M0 : Mt} {b : Bool} {Q : Qt} {C : Nat → Nat} {l m rb cz : Nat} {j tc dp : Nat} {ops : List Op1} {σ τ : List Nat}
/-- from a wanted one on: a piece of the grammar is read -/
def rOK (C : Nat → Nat) (l m rb cz : Nat) (M0 : Mt) (b : Bool) (d : Nat) (Q : Qt) (H dp : Nat) (f : Nat → Nat → PRes) : Prop := ∀ (j tc : Nat) (ops : List Op1) (σ : List Nat), j ≤ m → tc ≤ 80 → cz + ops.length ≤ j → 1 ≤ σ.length → σ.length ≤ H → (∀ s, f j tc = .ok s → PH C l rb cz M0 b d Q s.1 s.2.1 (ops ++ s.2.2) σ dp) → (∀ e, f j tc = .error e → EF C l rb cz M0 b Q (badAt (kK C l) e)) → EH C l rb cz M0 b d Q 1 j tc ops σ dp
theorem loop_stop {K : Nat → Nat} {kd op n : Nat} {f : Nat → Nat → PRes} {s : PSt} (h : ¬ K s.1 = kd) : loopP K kd op f n s = .ok s := by
  cases n with
  | zero => rfl
  | succ n => rw [loopP, if_neg h]
theorem loop_go {K : Nat → Nat} {kd op n : Nat} {f : Nat → Nat → PRes} {s q : PSt} (h : K s.1 = kd) (e : f (s.1 + 1) s.2.1 = .ok q) : loopP K kd op f (n + 1) s = loopP K kd op f n (q.1, q.2.1, s.2.2 ++ (q.2.2 ++ [(op, 0)])) := by
  rw [loopP, if_pos h, e]
theorem loop_bad {K : Nat → Nat} {kd op n : Nat} {f : Nat → Nat → PRes} {s : PSt} {e' : Nat} (h : K s.1 = kd) (e : f (s.1 + 1) s.2.1 = .error e') : loopP K kd op f (n + 1) s = .error e' := by
  rw [loopP, if_pos h, e]
theorem simAnd {H hh t : Nat} {f : Nat → Nat → PRes} (hB : RB C l rb M0) (hK : KOk (kK C l) (nvK C l) m) (hm : m ≤ 600) (hH : H ≤ 50) (hf : rOK C l m rb cz M0 b d Q H dp f) (hfo : ∀ j tc, j ≤ m → okR m hh j tc (f j tc)) (ht : t = 1 ∨ t = 4 ∨ t = 5) (hl : τ.length + 2 ≤ H) : ∀ (n : Nat) (s : PSt), 81 ≤ n + s.2.1 → s.1 ≤ m → s.2.1 ≤ 80 → cz + ops.length + s.2.2.length ≤ s.1 →
    (∀ q, loopP (kK C l) 16 3 f n s = .ok q → ¬ kK C l q.1 = 16 → PH C l rb cz M0 b d Q q.1 q.2.1 (ops ++ q.2.2) (τ ++ [t]) dp) →
    (∀ e, loopP (kK C l) 16 3 f n s = .error e → EF C l rb cz M0 b Q (badAt (kK C l) e)) → PH C l rb cz M0 b d Q s.1 s.2.1 (ops ++ s.2.2) (τ ++ [t]) dp
  | 0, s, hn, hj, htc, hs, hok, hno => by omega
  | n + 1, s, hn, hj, htc, hs, hok, hno => by
    by_cases q : kK C l s.1 = 16
    · have er : rk C l s.1 = 2 := by unfold rk; rw [if_pos q]
      have hj1 : s.1 + 1 ≤ m := hK.nxt hj (by omega) (by omega)
      refine PHpush hB (by omega) (by omega) (by rw [er]; omega) (by omega) ?_
      rw [er]
      have ho := hfo (s.1 + 1) s.2.1 hj1
      refine hf (s.1 + 1) s.2.1 (ops ++ s.2.2) (τ ++ [t] ++ [2]) hj1 htc (by rw [List.length_append]; omega) (by rw [List.length_append]; simp) (by rw [List.length_append, List.length_append, List.length_singleton, List.length_singleton]; omega) (fun u e => ?_) (fun u e => hno u (loop_bad q e))
      rw [e] at ho
      obtain ⟨o1, o2, o3, o4, -⟩ := ho
      refine PHpop2 hB (by rw [List.length_append, List.length_singleton]; omega) (by rw [List.length_append, List.length_append]; omega) rk_le ?_
      rw [List.append_assoc, List.append_assoc]
      have hh2 := loop_go (n := n) (op := 3) q e
      refine simAnd hB hK hm hH hf hfo ht hl n (u.1, u.2.1, s.2.2 ++ (u.2.2 ++ [(3, 0)])) (by show 81 ≤ n + u.2.1; omega) o2 o4 ?_ (fun w e2 => hok w (by rw [hh2]; exact e2)) (fun w e2 => hno w (by rw [hh2]; exact e2))
      show cz + ops.length + (s.2.2 ++ (u.2.2 ++ [(3, 0)])).length ≤ u.1
      rw [List.length_append, List.length_append, List.length_singleton]
      omega
    · exact hok s (loop_stop q) q
theorem simBoth {H hh t : Nat} {f : Nat → Nat → PRes} (hB : RB C l rb M0) (hK : KOk (kK C l) (nvK C l) m) (hm : m ≤ 600) (hH : H ≤ 50) (hf : rOK C l m rb cz M0 b d Q H dp f) (hfo : ∀ j tc, j ≤ m → okR m hh j tc (f j tc)) (ht : t = 1 ∨ t = 4 ∨ t = 5) (hl : τ.length + 2 ≤ H) (hj : j ≤ m) (htc : tc ≤ 80) (hs : cz + ops.length ≤ j)
    (hok : ∀ q, bothP (kK C l) f j tc = .ok q → ¬ kK C l q.1 = 16 → PH C l rb cz M0 b d Q q.1 q.2.1 (ops ++ q.2.2) (τ ++ [t]) dp)
    (hno : ∀ e, bothP (kK C l) f j tc = .error e → EF C l rb cz M0 b Q (badAt (kK C l) e)) : EH C l rb cz M0 b d Q 1 j tc ops (τ ++ [t]) dp := by
  have ho := hfo j tc hj
  refine hf j tc ops (τ ++ [t]) hj htc hs (by rw [List.length_append]; simp) (by rw [List.length_append, List.length_singleton]; omega) (fun s e => ?_) (fun s e => hno s (by unfold bothP; rw [e]))
  rw [e] at ho
  obtain ⟨o1, o2, o3, o4, -⟩ := ho
  have hh2 : bothP (kK C l) f j tc = loopP (kK C l) 16 3 f 80 s := by unfold bothP; rw [e]
  exact simAnd hB hK hm hH hf hfo ht hl 80 s (by omega) o2 o4 (by omega) (fun w e2 => hok w (by rw [hh2]; exact e2)) (fun w e2 => hno w (by rw [hh2]; exact e2))
theorem simOr {H hh t : Nat} {f : Nat → Nat → PRes} (hB : RB C l rb M0) (hK : KOk (kK C l) (nvK C l) m) (hm : m ≤ 600) (hH : H ≤ 50) (h1 : 1 ≤ hh) (hf : rOK C l m rb cz M0 b d Q H dp f) (hfo : ∀ j tc, j ≤ m → okR m hh j tc (f j tc)) (ht : t = 4 ∨ t = 5) (hl : τ.length + 3 ≤ H) : ∀ (n : Nat) (s : PSt), 81 ≤ n + s.2.1 → s.1 ≤ m → s.2.1 ≤ 80 → cz + ops.length + s.2.2.length ≤ s.1 → ¬ kK C l s.1 = 16 →
    (∀ q, loopP (kK C l) 15 4 (bothP (kK C l) f) n s = .ok q → ¬ kK C l q.1 = 16 → ¬ kK C l q.1 = 15 → PH C l rb cz M0 b d Q q.1 q.2.1 (ops ++ q.2.2) (τ ++ [t]) dp) →
    (∀ e, loopP (kK C l) 15 4 (bothP (kK C l) f) n s = .error e → EF C l rb cz M0 b Q (badAt (kK C l) e)) → PH C l rb cz M0 b d Q s.1 s.2.1 (ops ++ s.2.2) (τ ++ [t]) dp
  | 0, s, hn, hj, htc, hs, h16, hok, hno => by omega
  | n + 1, s, hn, hj, htc, hs, h16, hok, hno => by
    by_cases q : kK C l s.1 = 15
    · have er : rk C l s.1 = 1 := by unfold rk; rw [if_neg h16, if_pos q]
      have hj1 : s.1 + 1 ≤ m := hK.nxt hj (by omega) (by omega)
      refine PHpush hB (by omega) (by omega) (by rw [er]; omega) (by omega) ?_
      rw [er]
      have ho := bothP_ok (tc := s.2.1) hK h1 hfo hj1
      refine simBoth hB hK hm hH hf hfo (Or.inl rfl) (by rw [List.length_append, List.length_singleton]; omega) hj1 htc (by rw [List.length_append]; omega) (fun u e hu => ?_) (fun u e => hno u (loop_bad q e))
      rw [e] at ho
      obtain ⟨o1, o2, o3, o4, -⟩ := ho
      refine PHpop1 hB (by rw [List.length_append, List.length_singleton]; omega) (by rw [List.length_append, List.length_append]; omega) (by unfold rk; rw [if_neg hu]; split <;> omega) ?_
      rw [List.append_assoc, List.append_assoc]
      have hh2 := loop_go (n := n) (op := 4) q e
      refine simOr hB hK hm hH h1 hf hfo ht hl n (u.1, u.2.1, s.2.2 ++ (u.2.2 ++ [(4, 0)])) (by show 81 ≤ n + u.2.1; omega) o2 o4 ?_ hu (fun w e2 => hok w (by rw [hh2]; exact e2)) (fun w e2 => hno w (by rw [hh2]; exact e2))
      show cz + ops.length + (s.2.2 ++ (u.2.2 ++ [(4, 0)])).length ≤ u.1
      rw [List.length_append, List.length_append, List.length_singleton]
      omega
    · exact hok s (loop_stop q) h16 q
theorem simEither {H hh t : Nat} {f : Nat → Nat → PRes} (hB : RB C l rb M0) (hK : KOk (kK C l) (nvK C l) m) (hm : m ≤ 600) (hH : H ≤ 50) (h1 : 1 ≤ hh) (hf : rOK C l m rb cz M0 b d Q H dp f) (hfo : ∀ j tc, j ≤ m → okR m hh j tc (f j tc)) (ht : t = 4 ∨ t = 5) (hl : τ.length + 3 ≤ H) (hj : j ≤ m) (htc : tc ≤ 80) (hs : cz + ops.length ≤ j)
    (hok : ∀ q, eitherP (kK C l) f j tc = .ok q → ¬ kK C l q.1 = 16 → ¬ kK C l q.1 = 15 → PH C l rb cz M0 b d Q q.1 q.2.1 (ops ++ q.2.2) (τ ++ [t]) dp)
    (hno : ∀ e, eitherP (kK C l) f j tc = .error e → EF C l rb cz M0 b Q (badAt (kK C l) e)) : EH C l rb cz M0 b d Q 1 j tc ops (τ ++ [t]) dp := by
  have ho := bothP_ok (tc := tc) hK h1 hfo hj
  refine simBoth hB hK hm hH hf hfo (Or.inr ht) (by omega) hj htc hs (fun s e h16 => ?_) (fun s e => hno s (by unfold eitherP; rw [e]))
  rw [e] at ho
  obtain ⟨o1, o2, o3, o4, -⟩ := ho
  have hh2 : eitherP (kK C l) f j tc = loopP (kK C l) 15 4 (bothP (kK C l) f) 80 s := by unfold eitherP; rw [e]
  exact simOr hB hK hm hH h1 hf hfo ht hl 80 s (by omega) o2 o4 (by omega) h16 (fun w e2 => hok w (by rw [hh2]; exact e2)) (fun w e2 => hno w (by rw [hh2]; exact e2))
theorem simOne (hB : RB C l rb M0) (hK : KOk (kK C l) (nvK C l) m) (hm : m ≤ 600) : ∀ (r dp : Nat), dp + (r + 1) = 6 → rOK C l m rb cz M0 b d Q (3 * dp + 3) dp (oneP (kK C l) (nvK C l) (r + 1)) := by
  intro r
  induction r with
  | zero =>
    intro dp hr j tc ops σ hj htc hs h1 h2 hok hno
    by_cases q23 : kK C l j = 23
    · refine EH1P hB h1 (by omega) (by omega) (Or.inl q23) (fun q => by omega) (fun _ => hno (j + 1) ?_)
      rw [oneP, if_pos q23]
      rfl
    · by_cases q17 : kK C l j = 17
      · refine EH1P hB h1 (by omega) (by omega) (Or.inr q17) (fun q => by omega) (fun _ => hno (j + 1) ?_)
        rw [oneP, if_neg q23, if_pos q17]
        rfl
      · have eO : oneP (kK C l) (nvK C l) (0 + 1) j tc = relP (kK C l) (nvK C l) j tc := by rw [oneP, if_neg q23, if_neg q17]
        exact EH1R hB hK hm h1 (by omega) hj htc hs q23 q17 (fun s e => EH0 hB h1 (by omega) (hok s (by rw [eO]; exact e))) (fun s e => hno s (by rw [eO]; exact e))
  | succ r ih =>
    intro dp hr j tc ops σ hj htc hs h1 h2 hok hno
    have ihf := ih (dp + 1) (by omega)
    have iho : ∀ j tc, j ≤ m → okR m (2 * (r + 1) + 1) j tc (oneP (kK C l) (nvK C l) (r + 1) j tc) := oneP_ok hK (r + 1)
    by_cases q23 : kK C l j = 23
    · have hj1 : j + 1 ≤ m := hK.nxt hj (by omega) (by omega)
      refine EH1P hB h1 (by omega) (by omega) (Or.inl q23) (fun _ => ?_) (fun q => by omega)
      rw [if_pos q23]
      have eO : oneP (kK C l) (nvK C l) (r + 1 + 1) j tc = (match eitherP (kK C l) (oneP (kK C l) (nvK C l) (r + 1)) (j + 1) tc with
        | .error e => .error e
        | .ok s => if kK C l s.1 = 24 then .ok (s.1 + 1, s.2.1, s.2.2) else .error s.1) := by rw [oneP, if_pos q23]; rfl
      refine simEither hB hK hm (by omega) (by omega) ihf iho (Or.inl rfl) (by omega) hj1 htc (by omega) (fun s e h16 h15 => ?_) (fun s e => hno s (by rw [eO, e]))
      have er : rk C l s.1 = 0 := by unfold rk; rw [if_neg h16, if_neg h15]
      refine PHclose hB h1 (by omega) er (fun q24 => EH0 hB h1 (by omega) (hok (s.1 + 1, s.2.1, s.2.2) (by rw [eO, e]; exact if_pos q24))) (fun q24 => hno s.1 (by rw [eO, e]; exact if_neg q24))
    · by_cases q17 : kK C l j = 17
      · have hj1 : j + 1 ≤ m := hK.nxt hj (by omega) (by omega)
        have eO : oneP (kK C l) (nvK C l) (r + 1 + 1) j tc = (match oneP (kK C l) (nvK C l) (r + 1) (j + 1) tc with
          | .error e => .error e
          | .ok s => .ok (s.1, s.2.1, s.2.2 ++ [(2, 0)])) := by rw [oneP, if_neg q23, if_pos q17]; rfl
        refine EH1P hB h1 (by omega) (by omega) (Or.inr q17) (fun _ => ?_) (fun q => by omega)
        rw [if_neg q23]
        have ho := iho (j + 1) tc hj1
        refine ihf (j + 1) tc ops (σ ++ [3]) hj1 htc (by omega) (by rw [List.length_append]; simp) (by rw [List.length_append, List.length_singleton]; omega) (fun s e => ?_) (fun s e => hno s (by rw [eO, e]))
        rw [e] at ho
        obtain ⟨o1, o2, o3, o4, -⟩ := ho
        have hr2 := rk_le (C := C) (l := l) (j := s.1)
        refine PHpop3 hB (by omega) (by rw [List.length_append]; omega) (by omega) ?_
        rw [List.append_assoc]
        exact hok (s.1, s.2.1, s.2.2 ++ [(2, 0)]) (by rw [eO, e])
      · have eO : oneP (kK C l) (nvK C l) (r + 1 + 1) j tc = relP (kK C l) (nvK C l) j tc := by rw [oneP, if_neg q23, if_neg q17]
        exact EH1R hB hK hm h1 (by omega) hj htc hs q23 q17 (fun s e => EH0 hB h1 (by omega) (hok s (by rw [eO]; exact e))) (fun s e => hno s (by rw [eO]; exact e))
end K58
section K59
variable {d : Nat} {M M0 : Mt} {N : Nt} {b : Bool} {Q : Qt} {C : Nat → Nat} {l m rb cz : Nat} {j tc dp : Nat} {ops : List Op1} {σ τ : List Nat}
theorem RG.nil (h : RG C l rb cz M0 M N j tc ops σ dp) : RG C l rb cz M0 (up2 (up2 M 50 44 0) 50 45 0) N j tc ops [] 0 := by
  obtain ⟨f, f2, f3, f4, f5, f6, f7, f8, f9, f10⟩ := h
  refine ⟨fun o k1 k2 k3 k4 => ?_, fun k hk => ?_, ?_, ?_, ?_, ?_, ?_, fun i hi => ?_, fun i hi => ?_, fun i hi => absurd hi (Nat.not_lt_zero i)⟩
  · rw [up2_ne o k1, up2_ne o k1]; exact f o k1 k2 k3 k4
  · have := wrk_nx hk
    rw [upN this.2.2.2.2.2.2.2, upN this.2.2.2.2.2.2.1]; exact f2 k hk
  · refine f3.ext ?_ ?_ ?_ ?_ <;> rw [upN (by decide), upN (by decide)]
  · rw [upN (by decide), upN (by decide)]; exact f4
  · rw [upN (by decide), upN (by decide)]; exact f5
  · rw [upN (by decide), upS]; rfl
  · rw [upS]; rfl
  · rw [up2_ne 74 (by decide), up2_ne 74 (by decide), up2_ne 75 (by decide), up2_ne 75 (by decide)]; exact f8 i hi
  · rw [up2_ne 74 (by decide), up2_ne 74 (by decide), up2_ne 75 (by decide), up2_ne 75 (by decide)]; exact f9 i hi
theorem rE (hB : RB C l rb M0) (hK : KOk (kK C l) (nvK C l) m) (hm : m ≤ 600) (h : RG C l rb cz M0 M N j tc [] σ dp) (hj : j ≤ m) (htc : tc ≤ 80) (hs : cz ≤ j)
    (hok : ∀ s, eitherP (kK C l) (oneP (kK C l) (nvK C l) 6) j tc = .ok s → ∀ M' N', RG C l rb cz M0 M' N' s.1 s.2.1 s.2.2 [] 0 → Q none M' N' (pr b))
    (hno : ∀ e, eitherP (kK C l) (oneP (kK C l) (nvK C l) 6) j tc = .error e → ∀ M' N', RF C l rb cz M0 M' (badAt (kK C l) e) → Q none M' N' (pr b)) : Wp mX12_e (d + 5) 0 [.ref (50 : Nat), .float 0] [] M N (pr b) Q := by
  rw [show d + 5 = (d + 4) + 1 by omega]
  simp only [shk_0, shk_1, shk_2, shk_3, shk_4, shk_5, shk_6, shk_7, shk_8, shk_9, shk_10, shk_11, shk_12, shk_13, shk_14, shk_15, shk_16, shk_17, shk_18, shk_19, shk_20, shk_21, shk_22, shk_23, shk_24, shk_25, shk_26, shk_27, shk_28, shk_29, shk_30, shk_31, shk_32, shk_33, shk_34, shk_35, shk_36, shk_37, shk_38, shk_39, shk_40, shk_41, shk_42, shk_43, shk_44, shk_45, shk_46, shk_47, shk_48, shk_49, shk_50, shk_51, shk_52, shk_53, shk_54, shk_55, shk_56, shk_57, shk_58, shk_59, shk_60, shk_61, shk_62, shk_63, shk_64, shk_65, shk_66, shk_67, shk_68, shk_69, shk_70, shk_71, shk_72, shk_73, shk_74, shk_75, shk_76, shk_77, shk_78, shk_79, shk_80, shk_81, shk_82, shk_83, shk_84, nl_i, nl_r, nl_f, cat_i, cat_r, sk_0, sk_1, sk_2, sk_3, sk_4, tl_some, tl_none, bit0, bit1, bit_b2, b2_eq0, isB_1, isB_2, isA_0, isA_1, pr_0_0, pr_0_1, pr_0_2, pr_0_3, pr_0_4, pr_0_5, pr_0_6, pr_0_7, pr_0_8, pr_0_9, pr_0_10, pr_0_11, pr_1_0, pr_1_1, pr_1_2, pr_2_0, pr_2_1, pr_2_2, pr_2_3, pr_3_0, pr_3_1, pr_4_0, pr_4_1, pr_4_2, pr_4_3, pr_4_4, pr_4_5, pr_4_6, pr_4_7, pr_4_8, pr_5_0, pr_5_1, pr_6_0, pr_6_1, pr_7_0, pr_8_0, pr_8_1, pr_8_2, pr_9_0, pr_9_1, pr_10_0, pr_10_1, pr_10_2, pr_11_0, pr_11_1, pr_11_2, pr_11_3, pr_11_4, pr_12_0, pr_12_1, pr_12_2, pr_12_3, pr_12_4, pr_50_0, pr_50_1, pr_50_2, pr_50_3, pr_50_4, pr_50_5, pr_50_9, pr_50_10, pr_50_11, pr_50_12, pr_50_13, pr_50_14, pr_50_15, pr_50_16, pr_50_17, pr_50_18, pr_50_21, pr_50_22, pr_50_32, pr_50_33, pr_50_34, pr_50_35, pr_50_36, pr_50_37, pr_50_38, pr_50_43, pr_50_46, pr_50_47, pr_50_48, pr_50_50, pr_50_51, pr_50_52, pr_50_53, pr_50_54, up2_at, Nat.reduceEqDiff, ↓reduceIte, if_true, if_false, sX12_e_0, sX12_e_1, sX12_e_2, sX12_e_5, sX12_e_6, sX12_e_7, sX12_e_10, sX12_e_11, sX12_e_12]
  refine rPile (k := 5) hB h.nil (by decide) rfl (fun M1 h1 => ?_)
  simp only [shk_0, shk_1, shk_2, shk_3, shk_4, shk_5, shk_6, shk_7, shk_8, shk_9, shk_10, shk_11, shk_12, shk_13, shk_14, shk_15, shk_16, shk_17, shk_18, shk_19, shk_20, shk_21, shk_22, shk_23, shk_24, shk_25, shk_26, shk_27, shk_28, shk_29, shk_30, shk_31, shk_32, shk_33, shk_34, shk_35, shk_36, shk_37, shk_38, shk_39, shk_40, shk_41, shk_42, shk_43, shk_44, shk_45, shk_46, shk_47, shk_48, shk_49, shk_50, shk_51, shk_52, shk_53, shk_54, shk_55, shk_56, shk_57, shk_58, shk_59, shk_60, shk_61, shk_62, shk_63, shk_64, shk_65, shk_66, shk_67, shk_68, shk_69, shk_70, shk_71, shk_72, shk_73, shk_74, shk_75, shk_76, shk_77, shk_78, shk_79, shk_80, shk_81, shk_82, shk_83, shk_84, nl_i, nl_r, nl_f, cat_i, cat_r, sk_0, sk_1, sk_2, sk_3, sk_4, tl_some, tl_none, bit0, bit1, bit_b2, b2_eq0, isB_1, isB_2, isA_0, isA_1, pr_0_0, pr_0_1, pr_0_2, pr_0_3, pr_0_4, pr_0_5, pr_0_6, pr_0_7, pr_0_8, pr_0_9, pr_0_10, pr_0_11, pr_1_0, pr_1_1, pr_1_2, pr_2_0, pr_2_1, pr_2_2, pr_2_3, pr_3_0, pr_3_1, pr_4_0, pr_4_1, pr_4_2, pr_4_3, pr_4_4, pr_4_5, pr_4_6, pr_4_7, pr_4_8, pr_5_0, pr_5_1, pr_6_0, pr_6_1, pr_7_0, pr_8_0, pr_8_1, pr_8_2, pr_9_0, pr_9_1, pr_10_0, pr_10_1, pr_10_2, pr_11_0, pr_11_1, pr_11_2, pr_11_3, pr_11_4, pr_12_0, pr_12_1, pr_12_2, pr_12_3, pr_12_4, pr_50_0, pr_50_1, pr_50_2, pr_50_3, pr_50_4, pr_50_5, pr_50_9, pr_50_10, pr_50_11, pr_50_12, pr_50_13, pr_50_14, pr_50_15, pr_50_16, pr_50_17, pr_50_18, pr_50_21, pr_50_22, pr_50_32, pr_50_33, pr_50_34, pr_50_35, pr_50_36, pr_50_37, pr_50_38, pr_50_43, pr_50_46, pr_50_47, pr_50_48, pr_50_50, pr_50_51, pr_50_52, pr_50_53, pr_50_54, up2_at, Nat.reduceEqDiff, ↓reduceIte, if_true, if_false, sX12_e_15, sX12_e_16]
  have := simEither (τ := []) (t := 5) (ops := []) (b := b) (d := d) (Q := Q) (cz := cz) hB hK hm (by omega) (by omega) (simOne hB hK hm 5 0 rfl) (oneP_ok hK 6) (Or.inr rfl) (by decide) hj htc (by show cz + 0 ≤ j; omega) (fun s e h16 h15 => ?_) (fun e' e => fun M2 N2 h2 => hno e' e M2 N2 h2)
  · exact this M1 N h1
  · have er : rk C l s.1 = 0 := by unfold rk; rw [if_neg h16, if_neg h15]
    exact PHend hB er (fun M2 N2 h2 => hok s e M2 N2 h2)
end K59
