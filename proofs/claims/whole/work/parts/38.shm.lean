section K29
variable {mo fa de : Nat → Int32} {day : Int32} {n : Nat} {T T' : Nat → Bool}
def chB (mo fa : Nat → Int32) (c p : Nat) : Bool := decide (mo c = nI p ∨ fa c = nI p)
def hB (mo fa : Nat → Int32) (T : Nat → Bool) (p c : Nat) : Bool := decide (p < c) && (T c && chB mo fa c p)
def hc (mo fa : Nat → Int32) (T : Nat → Bool) (n p : Nat) : Nat := cN (hB mo fa T p) n
def ddB (de : Nat → Int32) (day : Int32) (p : Nat) : Bool := decide (0 ≤ (de p).toInt ∧ (de p).toInt ≤ day.toInt)
def TOk (mo fa de : Nat → Int32) (day : Int32) (n : Nat) (T : Nat → Bool) (p0 : Nat) : Prop := ∀ p, p0 ≤ p → p < n → T p = (!ddB de day p || decide (0 < hc mo fa T n p))
theorem hc_congr {p : Nat} (h : ∀ c, p < c → c < n → T c = T' c) : hc mo fa T n p = hc mo fa T' n p := by
  refine cN_congr n (fun c hc => ?_)
  unfold hB
  by_cases q : p < c
  · rw [h c q hc]
  · simp [q]
theorem TOk_uniq (h : TOk mo fa de day n T 0) (h' : TOk mo fa de day n T' 0) : ∀ r c, c + r = n → 0 < r → T c = T' c := by
  intro r
  induction r using Nat.strongRecOn with
  | _ r ih =>
    intro c hcr hr
    rw [h c (by omega) (by omega), h' c (by omega) (by omega), hc_congr (T := T) (T' := T') (fun c' h1 h2 => ih (n - c') (by omega) c' (by omega) (by omega))]
theorem hc_le {p : Nat} : hc mo fa T n p ≤ n := cN_le n
def fc (mo fa de : Nat → Int32) (day : Int32) (n : Nat) (T : Nat → Bool) (p : Nat) : Nat := if ddB de day p = true ∧ 0 < hc mo fa T n p then hc mo fa T n p else 1
def pF (mo fa de : Nat → Int32) (day : Int32) (n : Nat) (T : Nat → Bool) : Nat → Nat
  | 0 => 1
  | r + 1 => pF mo fa de day n T r * fc mo fa de day n T (n - (r + 1))
def sF (mo fa : Nat → Int32) (n : Nat) (T : Nat → Bool) : Nat → Nat
  | 0 => 0
  | r + 1 => sF mo fa n T r + hc mo fa T n (n - (r + 1))
theorem cube_le : ∀ k : Fin 25, k.val ^ 3 ≤ 3 ^ k.val := by decide
theorem pF_cube (h24 : n ≤ 24) : ∀ r, pF mo fa de day n T r ^ 3 ≤ 3 ^ sF mo fa n T r
  | 0 => by simp [pF, sF]
  | r + 1 => by
    have ih := pF_cube h24 r
    rw [pF, sF, Nat.mul_pow, Nat.pow_add]
    refine Nat.mul_le_mul ih ?_
    have hl := hc_le (mo := mo) (fa := fa) (T := T) (n := n) (p := n - (r + 1))
    have cb := cube_le ⟨hc mo fa T n (n - (r + 1)), by omega⟩
    unfold fc
    split
    · exact cb
    · have : 0 < 3 ^ hc mo fa T n (n - (r + 1)) := Nat.pow_pos (by decide)
      omega
def wq (mo fa : Nat → Int32) (k : Nat) (c : Nat) : Nat := (if (k : Int) ≤ (mo c).toInt then 1 else 0) + (if (k : Int) ≤ (fa c).toInt then 1 else 0)
theorem sF_le (h24 : n ≤ 24) : ∀ r, r ≤ n → sF mo fa n T r ≤ sN (wq mo fa (n - r)) n
  | 0, _ => by rw [sF]; exact Nat.zero_le _
  | r + 1, hr => by
    have ih := sF_le h24 r (by omega)
    rw [sF]
    have h1 : hc mo fa T n (n - (r + 1)) ≤ sN (fun c => (if mo c = nI (n - (r + 1)) then 1 else 0) + (if fa c = nI (n - (r + 1)) then 1 else 0)) n := by
      unfold hc
      rw [cN_sN]
      refine sN_le n (fun c hc => ?_)
      unfold hB chB
      by_cases q1 : mo c = nI (n - (r + 1))
      · rw [if_pos q1]; split <;> omega
      · by_cases q2 : fa c = nI (n - (r + 1))
        · rw [if_pos q2]; split <;> omega
        · rw [if_neg (by simp [q1, q2])]; omega
    have h2 : sN (wq mo fa (n - r)) n + sN (fun c => (if mo c = nI (n - (r + 1)) then 1 else 0) + (if fa c = nI (n - (r + 1)) then 1 else 0)) n ≤ sN (wq mo fa (n - (r + 1))) n := by
      rw [← sN_add]
      refine sN_le n (fun c hc => ?_)
      unfold wq
      have e := nI_toI (show n - (r + 1) < 2 ^ 31 by omega)
      have key : ∀ x : Int32, (if ((n - r : Nat) : Int) ≤ x.toInt then 1 else 0) + (if x = nI (n - (r + 1)) then 1 else 0) ≤ (if ((n - (r + 1) : Nat) : Int) ≤ x.toInt then 1 else 0) := by
        intro x
        by_cases q : x = nI (n - (r + 1))
        · rw [if_pos q, q, e]
          split <;> split <;> omega
        · have nq : ¬ x.toInt = ((n - (r + 1) : Nat) : Int) := fun h => q (toI_eq.mpr (h.trans e.symm))
          rw [if_neg q]
          split <;> split <;> omega
      have k1 := key (mo c)
      have k2 := key (fa c)
      omega
    omega
theorem pF_le (h24 : n ≤ 24) {r : Nat} (hr : r ≤ n) : pF mo fa de day n T r ≤ 43046721 := by
  have h1 := pF_cube (mo := mo) (fa := fa) (de := de) (day := day) (T := T) h24 r
  have h2 := sF_le (mo := mo) (fa := fa) (T := T) h24 r hr
  have h3 : sN (wq mo fa (n - r)) n ≤ sN (fun _ => 2) n := sN_le n (fun c _ => by unfold wq; split <;> split <;> omega)
  rw [sN_const] at h3
  have h4 : 3 ^ sF mo fa n T r ≤ 3 ^ 48 := Nat.pow_le_pow_right (by decide) (by omega)
  rcases Nat.lt_or_ge 43046721 (pF mo fa de day n T r) with h | h
  · have h5 : 43046721 ^ 3 < pF mo fa de day n T r ^ 3 := Nat.pow_lt_pow_left h (by decide)
    have h6 : (43046721 : Nat) ^ 3 = 3 ^ 48 := by decide
    omega
  · exact h
theorem fc_pos {p : Nat} : 0 < fc mo fa de day n T p := by unfold fc; split <;> omega
theorem pF_pos : ∀ r, 0 < pF mo fa de day n T r
  | 0 => by simp [pF]
  | r + 1 => by rw [pF]; exact Nat.mul_pos (pF_pos r) fc_pos
def stp (mo fa de : Nat → Int32) (day : Int32) (n : Nat) (T : Nat → Bool) (p : Nat) (P : Nat → Nat) : Nat → Nat := if 0 < P p ∧ ddB de day p = true then hnd P (hB mo fa T p) p (P p / hc mo fa T n p) else P
def PS (mo fa de : Nat → Int32) (day : Int32) (n : Nat) (T : Nat → Bool) (of W : Nat) : Nat → Nat → Nat
  | 0 => fun c => if c = of then W else 0
  | p + 1 => stp mo fa de day n T p (PS mo fa de day n T of W p)
theorem PS_of {of W : Nat} : ∀ p, p ≤ of → PS mo fa de day n T of W p = fun c => if c = of then W else 0
  | 0, _ => rfl
  | p + 1, h => by
    have ih := PS_of (W := W) p (show p ≤ of by omega)
    rw [PS, ih, stp, if_neg (by rw [if_neg (show ¬ p = of by omega)]; omega)]
theorem hB_self {p : Nat} : hB mo fa T p p = false := by unfold hB; simp
theorem PS_ok (h24 : n ≤ 24) {of : Nat} (hof : of < n) : ∀ p, p ≤ n → (∀ c, p ≤ c → c < n → pF mo fa de day n T (n - p) ∣ PS mo fa de day n T of (pF mo fa de day n T n) p c) ∧ sN (PS mo fa de day n T of (pF mo fa de day n T n) p) n ≤ pF mo fa de day n T n
  | 0, _ => by
    refine ⟨fun c _ _ => ?_, ?_⟩
    · rw [PS, Nat.sub_zero]
      dsimp only
      split
      · exact Nat.dvd_refl _
      · exact Nat.dvd_zero _
    · have : ∀ (W m : Nat), sN (fun c => if c = of then W else 0) m = if of < m then W else 0 := by
        intro W m
        induction m with
        | zero => rfl
        | succ m ih =>
          rw [sN, ih]
          by_cases q : m = of
          · rw [if_pos q, if_neg (by omega), if_pos (by omega)]; omega
          · rw [if_neg q]
            by_cases q2 : of < m
            · rw [if_pos q2, if_pos (by omega)]; omega
            · rw [if_neg q2, if_neg (by omega)]
      show sN (fun c => if c = of then _ else 0) n ≤ _
      rw [this, if_pos hof]
      exact Nat.le_refl _
  | p + 1, hp => by
    obtain ⟨i1, i2⟩ := PS_ok h24 hof p (by omega)
    have er : n - p = (n - (p + 1)) + 1 := by omega
    have ep : n - (n - (p + 1) + 1) = p := by omega
    have efp : pF mo fa de day n T (n - p) = pF mo fa de day n T (n - (p + 1)) * fc mo fa de day n T p := by rw [er, pF, ep]
    rw [efp] at i1
    rw [PS]
    generalize PS mo fa de day n T of (pF mo fa de day n T n) p = P at *
    unfold stp
    split
    · rename_i hcnd
      have hs := sN_hnd (P := P) (H := hB mo fa T p) (p := p) (e := P p / hc mo fa T n p) hB_self n
      rw [if_pos (by omega)] at hs
      have hm : P p / hc mo fa T n p * cN (hB mo fa T p) n ≤ P p := Nat.div_mul_le_self _ _
      refine ⟨fun c h1 h2 => ?_, by omega⟩
      have dc : pF mo fa de day n T (n - (p + 1)) ∣ P c := Nat.dvd_trans (Nat.dvd_mul_right _ _) (i1 c (by omega) h2)
      unfold hnd
      rw [if_neg (by omega)]
      split
      · refine Nat.dvd_add dc ?_
        by_cases q : 0 < hc mo fa T n p
        · have e1 : fc mo fa de day n T p = hc mo fa T n p := by unfold fc; rw [if_pos ⟨hcnd.2, q⟩]
          have := i1 p (Nat.le_refl _) (by omega)
          rw [e1] at this
          obtain ⟨k, hk⟩ := this
          refine ⟨k, ?_⟩
          rw [hk]
          refine Nat.div_eq_of_eq_mul_left q ?_
          ac_rfl
        · have : hc mo fa T n p = 0 := by omega
          rw [this, Nat.div_zero]
          exact Nat.dvd_zero _
      · exact dc
    · exact ⟨fun c h1 h2 => Nat.dvd_trans (Nat.dvd_mul_right _ _) (i1 c (by omega) h2), i2⟩
theorem PS_bd (h24 : n ≤ 24) {of p c : Nat} (hof : of < n) (hp : p ≤ n) (hc : c < n) : PS mo fa de day n T of (pF mo fa de day n T n) p c ≤ pF mo fa de day n T n := Nat.le_trans (sN_ge hc) (PS_ok h24 hof p hp).2
theorem PS_dvd (h24 : n ≤ 24) {of p : Nat} (hof : of < n) (hp : p < n) (hd : ddB de day p = true) (h0 : 0 < hc mo fa T n p) : hc mo fa T n p ∣ PS mo fa de day n T of (pF mo fa de day n T n) p p := by
  have i1 := (PS_ok (mo := mo) (fa := fa) (de := de) (day := day) (T := T) h24 hof p (by omega)).1 p (Nat.le_refl _) hp
  have er : n - p = (n - (p + 1)) + 1 := by omega
  have ep : n - (n - (p + 1) + 1) = p := by omega
  have e1 : fc mo fa de day n T p = hc mo fa T n p := by unfold fc; rw [if_pos ⟨hd, h0⟩]
  rw [er, pF, ep, e1] at i1
  exact Nat.dvd_trans (Nat.dvd_mul_left _ _) i1
end K29
