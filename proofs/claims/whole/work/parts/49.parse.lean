section K40
/-! the law's grammar over the kinds of the tokens: the place of the fault, or where it goes on, with the terms so far and the steps -/
abbrev PSt : Type := Nat × Nat × List Op1
abbrev PRes : Type := Except Nat PSt
def termP (K nv : Nat → Nat) (j tc : Nat) : PRes := if (K j = 19 ∨ K j < 9) ∧ tc < 80 then .ok (j + 1, tc + 1, [if K j = 19 then (0, nv j) else (1, K j)]) else .error j
def sumL (K nv : Nat → Nat) : Nat → PSt → PRes
  | 0, s => if K s.1 = 28 ∨ K s.1 = 29 then .error (s.1 + 1) else .ok s
  | n + 1, s => if K s.1 = 28 ∨ K s.1 = 29 then (match termP K nv (s.1 + 1) s.2.1 with
    | .error e => .error e
    | .ok q => sumL K nv n (q.1, q.2.1, s.2.2 ++ (q.2.2 ++ [(if K s.1 = 28 then 8 else 9, 0)]))) else .ok s
def sumP (K nv : Nat → Nat) (j tc : Nat) : PRes := match termP K nv j tc with
  | .error e => .error e
  | .ok s => sumL K nv 80 s
def relP (K nv : Nat → Nat) (j tc : Nat) : PRes := match sumP K nv j tc with
  | .error e => .error e
  | .ok s => if 25 ≤ K s.1 ∧ K s.1 ≤ 27 then (match sumP K nv (s.1 + 1) s.2.1 with
    | .error e => .error e
    | .ok q => .ok (q.1, q.2.1, s.2.2 ++ (q.2.2 ++ [(K s.1 - 20, 0)]))) else .ok s
def loopP (K : Nat → Nat) (kd op : Nat) (f : Nat → Nat → PRes) : Nat → PSt → PRes
  | 0, s => .ok s
  | n + 1, s => if K s.1 = kd then (match f (s.1 + 1) s.2.1 with
    | .error e => .error e
    | .ok q => loopP K kd op f n (q.1, q.2.1, s.2.2 ++ (q.2.2 ++ [(op, 0)]))) else .ok s
def bothP (K : Nat → Nat) (f : Nat → Nat → PRes) (j tc : Nat) : PRes := match f j tc with
  | .error e => .error e
  | .ok s => loopP K 16 3 f 80 s
def eitherP (K : Nat → Nat) (f : Nat → Nat → PRes) (j tc : Nat) : PRes := match bothP K f j tc with
  | .error e => .error e
  | .ok s => loopP K 15 4 (bothP K f) 80 s
def oneP (K nv : Nat → Nat) : Nat → Nat → Nat → PRes
  | 0, j, _ => .error j
  | r + 1, j, tc => if K j = 23 then (match eitherP K (oneP K nv r) (j + 1) tc with
    | .error e => .error e
    | .ok s => if K s.1 = 24 then .ok (s.1 + 1, s.2.1, s.2.2) else .error s.1)
    else if K j = 17 then (match oneP K nv r (j + 1) tc with
    | .error e => .error e
    | .ok s => .ok (s.1, s.2.1, s.2.2 ++ [(2, 0)])) else relP K nv j tc
variable {K nv : Nat → Nat} {m : Nat}
def KOk (K nv : Nat → Nat) (m : Nat) : Prop := (∀ j, j < m → ¬ K j = 20 ∧ ¬ K j = 21) ∧ (K m = 20 ∨ K m = 21) ∧ ∀ j, K j = 19 → nv j < 10000000
theorem KOk.nxt (h : KOk K nv m) {j : Nat} (hj : j ≤ m) (h1 : ¬ K j = 20) (h2 : ¬ K j = 21) : j + 1 ≤ m := by
  by_cases e : j = m
  · subst e; rcases h.2.1 with q | q
    · exact absurd q h1
    · exact absurd q h2
  · omega
/-- what is sure of a piece that was read from j with tc terms before, with a stack of at most h more -/
def okR (m h j tc : Nat) : PRes → Prop
  | .error e => j ≤ e ∧ e ≤ m
  | .ok s => j + s.2.2.length ≤ s.1 ∧ s.1 ≤ m ∧ tc < s.2.1 ∧ s.2.1 ≤ 80 ∧ (∀ o ∈ s.2.2, opOk o) ∧ ∀ n, n + h ≤ 20 → dep n s.2.2 = some (n + 1)
theorem dep_app : ∀ (a c : List Op1) (n k : Nat), dep n a = some k → dep n (a ++ c) = dep k c
  | [], c, n, k, h => by
    rw [dep] at h
    injection h with h
    rw [h]; rfl
  | o :: a, c, n, k, h => by
    rw [List.cons_append, dep]
    rw [dep] at h
    split
    · rename_i q; rw [if_pos q] at h
      split
      · rename_i q2; rw [if_pos q2] at h; exact dep_app a c _ _ h
      · rename_i q2; rw [if_neg q2] at h; cases h
    · rename_i q; rw [if_neg q] at h
      split
      · rename_i q2; rw [if_pos q2] at h
        split
        · rename_i q3; rw [if_pos q3] at h; exact dep_app a c _ _ h
        · rename_i q3; rw [if_neg q3] at h; cases h
      · rename_i q2; rw [if_neg q2] at h
        split
        · rename_i q3; rw [if_pos q3] at h; exact dep_app a c _ _ h
        · rename_i q3; rw [if_neg q3] at h; cases h
theorem dep_bin {op n : Nat} (h : 3 ≤ op) (hn : 2 ≤ n) : dep n [(op, 0)] = some (n - 1) := by
  rw [dep, if_neg (by show ¬ op ≤ 1; omega), if_neg (by show ¬ op = 2; omega), if_pos hn, dep]
theorem termP_ok (hK : KOk K nv m) {j tc : Nat} (hj : j ≤ m) : okR m 1 j tc (termP K nv j tc) := by
  unfold termP
  split
  · rename_i h
    refine ⟨by simp, hK.nxt hj (by omega) (by omega), by show tc < tc + 1; omega, by show tc + 1 ≤ 80; omega, ?_, ?_⟩
    · intro o ho
      simp only [List.mem_singleton] at ho
      rw [ho]
      by_cases q : K j = 19
      · rw [if_pos q]
        exact ⟨by show 0 ≤ 9; omega, hK.2.2 j q, fun h => by cases h⟩
      · rw [if_neg q]
        have : K j < 9 := by omega
        exact ⟨by show 1 ≤ 9; omega, by show K j < 10000000; omega, fun _ => this⟩
    · intro n hn
      show dep n [_] = some (n + 1)
      rw [dep, if_pos (by split <;> simp), if_pos (by omega), dep]
  · exact ⟨Nat.le_refl _, hj⟩
theorem bin_ok {m h j tc op : Nat} {s q : PSt} (hop : 3 ≤ op) (hop9 : op ≤ 9) (h1 : 1 ≤ h) (hs : okR m (h + 1) j tc (.ok s)) (hq : okR m h (s.1 + 1) s.2.1 (.ok q)) : okR m (h + 1) j tc (.ok (q.1, q.2.1, s.2.2 ++ (q.2.2 ++ [(op, 0)]))) := by
  obtain ⟨a1, a2, a3, a4, a5, a6⟩ := hs
  obtain ⟨b1, b2', b3, b4, b5, b6⟩ := hq
  refine ⟨?_, b2', by show tc < q.2.1; omega, b4, ?_, ?_⟩
  · show j + (s.2.2 ++ (q.2.2 ++ [(op, 0)])).length ≤ q.1
    rw [List.length_append, List.length_append, List.length_singleton]
    omega
  · intro o ho
    rcases List.mem_append.mp ho with ho | ho
    · exact a5 o ho
    · rcases List.mem_append.mp ho with ho | ho
      · exact b5 o ho
      · simp only [List.mem_singleton] at ho
        rw [ho]
        exact ⟨hop9, by show 0 < 10000000; omega, fun e => by have : op = 1 := e; omega⟩
  · intro n hn
    show dep n (s.2.2 ++ (q.2.2 ++ [(op, 0)])) = some (n + 1)
    rw [dep_app _ _ _ _ (a6 n hn), dep_app _ _ _ _ (b6 (n + 1) (by omega)), dep_bin hop (by omega)]
    congr 1
theorem sumL_ok (hK : KOk K nv m) {j tc : Nat} : ∀ (n : Nat) (s : PSt), okR m 2 j tc (.ok s) → okR m 2 j tc (sumL K nv n s)
  | 0, s, hs => by
    rw [sumL]
    split
    · rename_i h
      have := hK.nxt hs.2.1 (by omega) (by omega)
      have := hs.1
      exact ⟨by omega, by omega⟩
    · exact hs
  | n + 1, s, hs => by
    rw [sumL]
    split
    · rename_i h
      have hn := hK.nxt hs.2.1 (by omega) (by omega)
      have ht := termP_ok (tc := s.2.1) hK hn
      cases e : termP K nv (s.1 + 1) s.2.1 with
      | error e' =>
        rw [e] at ht
        have := ht.1
        have := hs.1
        exact ⟨by omega, ht.2⟩
      | ok q =>
        rw [e] at ht
        exact sumL_ok hK n _ (bin_ok (by split <;> omega) (by split <;> omega) (Nat.le_refl _) hs ht)
    · exact hs
theorem okR_mono {h h' j tc : Nat} {r : PRes} (hh : h ≤ h') (hr : okR m h j tc r) : okR m h' j tc r := by
  cases r with
  | error e => exact hr
  | ok s => exact ⟨hr.1, hr.2.1, hr.2.2.1, hr.2.2.2.1, hr.2.2.2.2.1, fun n hn => hr.2.2.2.2.2 n (by omega)⟩
theorem sumP_ok (hK : KOk K nv m) {j tc : Nat} (hj : j ≤ m) : okR m 2 j tc (sumP K nv j tc) := by
  have ht := termP_ok (tc := tc) hK hj
  unfold sumP
  cases e : termP K nv j tc with
  | error e' => rw [e] at ht; exact ht
  | ok s => rw [e] at ht; exact sumL_ok hK 80 s (okR_mono (by omega) ht)
theorem relP_ok (hK : KOk K nv m) {j tc : Nat} (hj : j ≤ m) : okR m 3 j tc (relP K nv j tc) := by
  have ht := sumP_ok (tc := tc) hK hj
  unfold relP
  cases e : sumP K nv j tc with
  | error e' => rw [e] at ht; exact ht
  | ok s =>
    rw [e] at ht
    dsimp only
    split
    · rename_i h
      have hn := hK.nxt ht.2.1 (by omega) (by omega)
      have ht2 := sumP_ok (tc := s.2.1) hK hn
      cases e2 : sumP K nv (s.1 + 1) s.2.1 with
      | error e' =>
        rw [e2] at ht2
        have := ht2.1
        have := ht.1
        exact ⟨by omega, ht2.2⟩
      | ok q =>
        rw [e2] at ht2
        exact bin_ok (by omega) (by omega) (by omega) (okR_mono (by omega) ht) ht2
    · exact okR_mono (by omega) ht
theorem loopP_ok (hK : KOk K nv m) {j tc kd op h : Nat} {f : Nat → Nat → PRes} (hkd : ¬ kd = 20 ∧ ¬ kd = 21) (hop : 3 ≤ op) (hop9 : op ≤ 9) (h1 : 1 ≤ h) (hf : ∀ j tc, j ≤ m → okR m h j tc (f j tc)) : ∀ (n : Nat) (s : PSt), okR m (h + 1) j tc (.ok s) → okR m (h + 1) j tc (loopP K kd op f n s)
  | 0, s, hs => hs
  | n + 1, s, hs => by
    rw [loopP]
    split
    · rename_i hk
      have hn := hK.nxt hs.2.1 (by omega) (by omega)
      have ht := hf (s.1 + 1) s.2.1 hn
      cases e : f (s.1 + 1) s.2.1 with
      | error e' =>
        rw [e] at ht
        have := ht.1
        have := hs.1
        exact ⟨by omega, ht.2⟩
      | ok q =>
        rw [e] at ht
        exact loopP_ok hK hkd hop hop9 h1 hf n _ (bin_ok hop hop9 h1 hs ht)
    · exact hs
theorem bothP_ok (hK : KOk K nv m) {h : Nat} {f : Nat → Nat → PRes} (h1 : 1 ≤ h) (hf : ∀ j tc, j ≤ m → okR m h j tc (f j tc)) {j tc : Nat} (hj : j ≤ m) : okR m (h + 1) j tc (bothP K f j tc) := by
  have ht := hf j tc hj
  unfold bothP
  cases e : f j tc with
  | error e' => rw [e] at ht; exact ht
  | ok s => rw [e] at ht; exact loopP_ok hK (by decide) (by decide) (by decide) h1 hf 80 s (okR_mono (by omega) ht)
theorem eitherP_ok (hK : KOk K nv m) {h : Nat} {f : Nat → Nat → PRes} (h1 : 1 ≤ h) (hf : ∀ j tc, j ≤ m → okR m h j tc (f j tc)) {j tc : Nat} (hj : j ≤ m) : okR m (h + 2) j tc (eitherP K f j tc) := by
  have ht := bothP_ok (tc := tc) hK h1 hf hj
  unfold eitherP
  cases e : bothP K f j tc with
  | error e' => rw [e] at ht; exact ht
  | ok s => rw [e] at ht; exact loopP_ok hK (by decide) (by decide) (by decide) (by omega) (fun j tc hj => bothP_ok hK h1 hf hj) 80 s (okR_mono (by omega) ht)
theorem oneP_ok (hK : KOk K nv m) : ∀ (r j tc : Nat), j ≤ m → okR m (2 * r + 1) j tc (oneP K nv r j tc)
  | 0, j, tc, hj => ⟨Nat.le_refl _, hj⟩
  | r + 1, j, tc, hj => by
    have ih := oneP_ok hK r
    rw [oneP]
    split
    · rename_i h
      have hn := hK.nxt hj (by omega) (by omega)
      have ht := eitherP_ok (tc := tc) hK (show 1 ≤ 2 * r + 1 by omega) ih hn
      cases e : eitherP K (oneP K nv r) (j + 1) tc with
      | error e' => rw [e] at ht; exact ⟨by have := ht.1; omega, ht.2⟩
      | ok s =>
        rw [e] at ht
        dsimp only
        have a1 := ht.1
        split
        · rename_i h24
          have hn2 := hK.nxt ht.2.1 (by omega) (by omega)
          exact ⟨by show j + s.2.2.length ≤ s.1 + 1; omega, hn2, ht.2.2.1, ht.2.2.2.1, ht.2.2.2.2.1, fun n hn => ht.2.2.2.2.2 n (by omega)⟩
        · exact ⟨by omega, ht.2.1⟩
    · split
      · rename_i h
        have hn := hK.nxt hj (by omega) (by omega)
        have ht := ih (j + 1) tc hn
        cases e : oneP K nv r (j + 1) tc with
        | error e' => rw [e] at ht; exact ⟨by have := ht.1; omega, ht.2⟩
        | ok s =>
          rw [e] at ht
          obtain ⟨a1, a2, a3, a4, a5, a6⟩ := ht
          refine ⟨?_, a2, a3, a4, ?_, ?_⟩
          · show j + (s.2.2 ++ [(2, 0)]).length ≤ s.1
            rw [List.length_append, List.length_singleton]; omega
          · intro o ho
            rcases List.mem_append.mp ho with ho | ho
            · exact a5 o ho
            · simp only [List.mem_singleton] at ho
              rw [ho]
              exact ⟨by decide, by decide, fun e => by cases e⟩
          · intro n hn
            show dep n (s.2.2 ++ [(2, 0)]) = some (n + 1)
            rw [dep_app _ _ _ _ (a6 n (by omega)), dep, if_neg (by decide), if_pos rfl, if_pos (by omega), dep]
      · exact okR_mono (by omega) (relP_ok hK hj)
end K40
