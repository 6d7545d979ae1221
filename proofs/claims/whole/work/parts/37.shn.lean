section K28
/-! fractions in their lowest terms -/
def lo1 (p w : Nat) : Nat := p / Nat.gcd p w
def lo2 (p w : Nat) : Nat := w / Nat.gcd p w
theorem lo_uniq {a b' x w : Nat} (hb : 0 < b') (hw : 0 < w) (h : a * w = x * b') : a / Nat.gcd a b' = lo1 x w ∧ b' / Nat.gcd a b' = lo2 x w := by
  have g0 : 0 < Nat.gcd a b' := Nat.gcd_pos_of_pos_right _ hb
  have h0 : 0 < Nat.gcd x w := Nat.gcd_pos_of_pos_right _ hw
  obtain ⟨a1, ea⟩ := Nat.gcd_dvd_left a b'
  obtain ⟨b1, eb⟩ := Nat.gcd_dvd_right a b'
  obtain ⟨x1, ex⟩ := Nat.gcd_dvd_left x w
  obtain ⟨w1, ew⟩ := Nat.gcd_dvd_right x w
  have c1 : Nat.Coprime (a / Nat.gcd a b') (b' / Nat.gcd a b') := Nat.coprime_div_gcd_div_gcd g0
  have c2 : Nat.Coprime (x / Nat.gcd x w) (w / Nat.gcd x w) := Nat.coprime_div_gcd_div_gcd h0
  have da : a / Nat.gcd a b' = a1 := Nat.div_eq_of_eq_mul_right g0 ea
  have db : b' / Nat.gcd a b' = b1 := Nat.div_eq_of_eq_mul_right g0 eb
  have dx : x / Nat.gcd x w = x1 := Nat.div_eq_of_eq_mul_right h0 ex
  have dw : w / Nat.gcd x w = w1 := Nat.div_eq_of_eq_mul_right h0 ew
  unfold lo1 lo2
  rw [da, db] at c1
  rw [dx, dw] at c2
  rw [da, db, dx, dw]
  generalize Nat.gcd a b' = g at *
  generalize Nat.gcd x w = k at *
  subst ea eb ex ew
  have e : a1 * w1 = x1 * b1 := by
    have h1 : (g * k) * (a1 * w1) = (g * k) * (x1 * b1) := by
      calc (g * k) * (a1 * w1) = g * a1 * (k * w1) := by ac_rfl
        _ = k * x1 * (g * b1) := h
        _ = (g * k) * (x1 * b1) := by ac_rfl
    exact Nat.eq_of_mul_eq_mul_left (Nat.mul_pos g0 h0) h1
  have d1 : b1 ∣ w1 := by
    have : b1 ∣ a1 * w1 := ⟨x1, by rw [e, Nat.mul_comm]⟩
    exact c1.symm.dvd_of_dvd_mul_left this
  have d2 : w1 ∣ b1 := by
    have : w1 ∣ x1 * b1 := ⟨a1, by rw [← e, Nat.mul_comm]⟩
    exact c2.symm.dvd_of_dvd_mul_left this
  have eb : b1 = w1 := Nat.dvd_antisymm d1 d2
  subst eb
  have : 0 < b1 := by
    rcases Nat.eq_zero_or_pos b1 with z | z
    · rw [z] at hb; omega
    · exact z
  exact ⟨Nat.eq_of_mul_eq_mul_right this e, rfl⟩
theorem lo_cross {p w : Nat} (hw : 0 < w) : lo1 p w * w = p * lo2 p w := by
  have h0 : 0 < Nat.gcd p w := Nat.gcd_pos_of_pos_right _ hw
  obtain ⟨x1, ex⟩ := Nat.gcd_dvd_left p w
  obtain ⟨w1, ew⟩ := Nat.gcd_dvd_right p w
  have dx : p / Nat.gcd p w = x1 := Nat.div_eq_of_eq_mul_right h0 ex
  have dw : w / Nat.gcd p w = w1 := Nat.div_eq_of_eq_mul_right h0 ew
  unfold lo1 lo2
  rw [dx, dw]
  generalize Nat.gcd p w = k at *
  subst ex ew
  ac_rfl
theorem lo2_pos {p w : Nat} (hw : 0 < w) : 0 < lo2 p w := Nat.div_pos (Nat.le_of_dvd hw (Nat.gcd_dvd_right p w)) (Nat.gcd_pos_of_pos_right _ hw)
theorem lo2_le {p w : Nat} : lo2 p w ≤ w := Nat.div_le_self _ _
theorem lo1_le {p w : Nat} : lo1 p w ≤ p := Nat.div_le_self _ _
theorem lo1_0 {w : Nat} (hw : 0 < w) : lo1 0 w = 0 ∧ lo2 0 w = 1 := by
  unfold lo1 lo2
  rw [Nat.gcd_zero_left]
  exact ⟨Nat.zero_div _, Nat.div_self hw⟩
theorem lo1_w {w : Nat} (hw : 0 < w) : lo1 w w = 1 ∧ lo2 w w = 1 := by
  unfold lo1 lo2
  rw [Nat.gcd_self]
  exact ⟨Nat.div_self hw, Nat.div_self hw⟩
theorem lo1_eq0 {p w : Nat} (hw : 0 < w) : lo1 p w = 0 ↔ p = 0 := by
  constructor
  · intro h
    have := lo_cross (p := p) hw
    rw [h, Nat.zero_mul] at this
    have h2 := lo2_pos (p := p) hw
    rcases Nat.mul_eq_zero.mp this.symm with h | h
    · exact h
    · omega
  · intro h; rw [h]; exact (lo1_0 hw).1
/-- a part more, of which n make p -/
theorem lo_gets {c p n w : Nat} (hw : 0 < w) (hn : 0 < n) (hd : n ∣ p) :
    let a := lo1 c w * (lo2 p w * n) + lo1 p w * lo2 c w
    let b' := lo2 c w * (lo2 p w * n)
    a / Nat.gcd a b' = lo1 (c + p / n) w ∧ b' / Nat.gcd a b' = lo2 (c + p / n) w := by
  intro a b'
  refine lo_uniq (Nat.mul_pos (lo2_pos hw) (Nat.mul_pos (lo2_pos hw) hn)) hw ?_
  obtain ⟨e, he⟩ := hd
  have hdiv : p / n = e := Nat.div_eq_of_eq_mul_right hn he
  rw [hdiv]
  show (lo1 c w * (lo2 p w * n) + lo1 p w * lo2 c w) * w = (c + e) * (lo2 c w * (lo2 p w * n))
  have h1 := lo_cross (p := c) hw
  have h2 := lo_cross (p := p) hw
  calc (lo1 c w * (lo2 p w * n) + lo1 p w * lo2 c w) * w = (lo1 c w * w) * (lo2 p w * n) + (lo1 p w * w) * lo2 c w := by rw [Nat.add_mul]; congr 1 <;> ac_rfl
    _ = (c * lo2 c w) * (lo2 p w * n) + (p * lo2 p w) * lo2 c w := by rw [h1, h2]
    _ = (c * lo2 c w) * (lo2 p w * n) + (n * e * lo2 p w) * lo2 c w := by rw [← he]
    _ = (c + e) * (lo2 c w * (lo2 p w * n)) := by rw [Nat.add_mul]; congr 1 <;> ac_rfl
/-! counts and sums below a number -/
def cN (H : Nat → Bool) : Nat → Nat
  | 0 => 0
  | n + 1 => cN H n + (if H n then 1 else 0)
def sN (f : Nat → Nat) : Nat → Nat
  | 0 => 0
  | n + 1 => sN f n + f n
theorem cN_congr {H H' : Nat → Bool} : ∀ n, (∀ c, c < n → H c = H' c) → cN H n = cN H' n
  | 0, _ => rfl
  | n + 1, h => by rw [cN, cN, cN_congr n (fun c hc => h c (by omega)), h n (by omega)]
theorem cN_le {H : Nat → Bool} : ∀ n, cN H n ≤ n
  | 0 => Nat.le_refl _
  | n + 1 => by
    have := cN_le (H := H) n
    rw [cN]; split <;> omega
theorem sN_ge {f : Nat → Nat} : ∀ {n c : Nat}, c < n → f c ≤ sN f n
  | n + 1, c, h => by
    rw [sN]
    by_cases e : c = n
    · rw [e]; omega
    · have := sN_ge (f := f) (n := n) (c := c) (by omega)
      omega
theorem sN_le {f g : Nat → Nat} : ∀ n, (∀ c, c < n → f c ≤ g c) → sN f n ≤ sN g n
  | 0, _ => Nat.le_refl _
  | n + 1, h => by
    have := sN_le (f := f) (g := g) n (fun c hc => h c (by omega))
    have := h n (by omega)
    rw [sN, sN]; omega
theorem sN_add {f g : Nat → Nat} : ∀ n, sN (fun c => f c + g c) n = sN f n + sN g n
  | 0 => rfl
  | n + 1 => by rw [sN, sN, sN, sN_add n]; omega
theorem cN_sN {H : Nat → Bool} : ∀ n, cN H n = sN (fun c => if H c then 1 else 0) n
  | 0 => rfl
  | n + 1 => by rw [cN, sN, cN_sN n]
theorem sN_const {k : Nat} : ∀ n, sN (fun _ => k) n = k * n
  | 0 => rfl
  | n + 1 => by rw [sN, sN_const n, Nat.mul_succ]
/-- handing on: the parts behind it -/
def hnd (P : Nat → Nat) (H : Nat → Bool) (p e : Nat) (c : Nat) : Nat := if c = p then 0 else if H c then P c + e else P c
theorem sN_hnd {P : Nat → Nat} {H : Nat → Bool} {p e : Nat} (hp : H p = false) : ∀ n, sN (hnd P H p e) n + (if p < n then P p else 0) = sN P n + e * cN H n
  | 0 => rfl
  | n + 1 => by
    have ih := sN_hnd (P := P) (H := H) (p := p) (e := e) hp n
    rw [sN, sN, cN]
    by_cases q : n = p
    · subst q
      have : hnd P H n e n = 0 := by unfold hnd; rw [if_pos rfl]
      rw [this, if_pos (by omega), hp]
      rw [if_neg (by omega)] at ih
      simp only [Bool.false_eq_true, if_false, Nat.add_zero] at ih ⊢
      omega
    · have : hnd P H p e n = P n + (if H n then e else 0) := by
        unfold hnd; rw [if_neg q]; split <;> simp
      rw [this]
      have e2 : e * (cN H n + if H n = true then 1 else 0) = e * cN H n + (if H n then e else 0) := by
        rw [Nat.mul_add]; split <;> simp
      rw [e2]
      by_cases q2 : p < n
      · rw [if_pos (show p < n + 1 by omega)]; rw [if_pos q2] at ih; omega
      · rw [if_neg (show ¬ p < n + 1 by omega)]; rw [if_neg q2] at ih; omega
end K28
