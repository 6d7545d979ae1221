/-! What the class's places and the reference's have to do with each other between two calls. -/
def Rpe (n : Nat) (M : Mt) : Prop := n ≤ 24 ∧ M 1 3 = nI n ∧ M 50 6 = nI n ∧ ∀ i, i < n → M 51 i = M 14 i ∧ M 52 i = M 15 i ∧ M 53 i = M 16 i ∧ -1 ≤ (M 14 i).toInt ∧ (M 14 i).toInt < i ∧ -1 ≤ (M 15 i).toInt ∧ (M 15 i).toInt < i ∧ -1 ≤ (M 16 i).toInt ∧ (M 16 i).toInt ≤ 36499
def Rho (n h : Nat) (M : Mt) : Prop := h ≤ 8 ∧ M 3 2 = nI h ∧ M 50 7 = nI h ∧ M 10 3 = nI h ∧ ∀ i, i < h → M 54 i = M 20 i ∧ M 55 i = M 21 i ∧ 0 ≤ (M 20 i).toInt ∧ (M 20 i).toInt < n ∧ 0 ≤ (M 21 i).toInt ∧ (M 21 i).toInt ≤ 1000000
def Rle (M : Mt) : Prop := ∀ i, i < 100 → M 56 i = M 13 i ∧ 1 ≤ (M 13 i).toInt ∧ (M 13 i).toInt ≤ 10000
def Rtd (t : Nat) (M : Mt) : Prop := t ≤ 36499 ∧ M 0 12 = nI t ∧ M 50 8 = nI t
/-- a paper's own row -/
def Rp1 (n h t i : Nat) (M : Mt) : Prop := M 57 i = M 22 i ∧ M 58 i = M 23 i ∧ M 59 i = M 24 i ∧ M 60 i = M 25 i ∧ M 61 i = M 26 i ∧ M 62 i = M 27 i ∧ M 63 i = M 28 i ∧ M 64 i = M 29 i ∧ 0 ≤ (M 22 i).toInt ∧ (M 22 i).toInt < h ∧ 0 ≤ (M 23 i).toInt ∧ (M 23 i).toInt < n ∧ 0 ≤ (M 24 i).toInt ∧ (M 24 i).toInt < n ∧ 0 ≤ (M 25 i).toInt ∧ (M 25 i).toInt ≤ (M 28 i).toInt ∧ 0 ≤ (M 26 i).toInt ∧ (M 26 i).toInt ≤ 2 ∧ 0 ≤ (M 27 i).toInt ∧ (M 27 i).toInt ≤ 1000000 ∧ (M 28 i).toInt ≤ t ∧ -1 ≤ (M 29 i).toInt ∧ (M 29 i).toInt ≤ t
/-- a before b in the order in which papers take effect -/
def pOrd (D : Nat → Int32) (a b : Nat) : Prop := (D a).toInt < (D b).toInt ∨ ((D a).toInt = (D b).toInt ∧ a < b)
def Rby (k : Nat) (M : Mt) : Prop := ∃ l : List Nat, l.length = k ∧ l.Nodup ∧ (∀ x ∈ l, x < k) ∧ l.Pairwise (pOrd (M 25)) ∧ ∀ i, i < k → M 30 i = nI (l.getD i 0)
def Rpa (n h t k : Nat) (M : Mt) : Prop := k ≤ 60 ∧ M 4 9 = nI k ∧ M 50 19 = nI k ∧ (∀ i, i < k → Rp1 n h t i M) ∧ Rby k M
def Rcl (k c : Nat) (M : Mt) : Prop := c ≤ 30 ∧ M 6 2 = nI c ∧ M 50 49 = nI c ∧ ∀ i, i < c → M 79 i = M 31 i ∧ 0 ≤ (M 31 i).toInt ∧ (M 31 i).toInt < k
def Rta (l : Nat) (M : Mt) : Prop := l ≤ 600 ∧ M 7 1 = nI l ∧ M 50 23 = nI l ∧ ∀ i, i < l → M 67 i = M 33 i ∧ -128 ≤ (M 33 i).toInt ∧ (M 33 i).toInt ≤ 127
def Rfa (M : Mt) : Prop := M 50 25 = M 9 2 ∧ M 50 26 = M 9 3
def Rwa (w : Nat) (M : Mt) : Prop := w ≤ 40 ∧ M 10 4 = nI w ∧ M 50 55 = nI w ∧ (∀ i, i < 64 → M 83 i = M 37 i ∧ 0 ≤ (M 37 i).toInt ∧ (M 37 i).toInt ≤ 1000) ∧ ∀ i, i < 8 → M 37 (9 * i) = 0
/-! swaps: the greatest joy of r houses that are left, by the set that is given -/
/-- one house more that may be given: the better of v and its joy with what is behind -/
def mfs (may : Bool) (tk : Bool) (j m v : Int) : Int := if tk = true ∨ may = false ∨ m < 0 then v else if v < j + m then j + m else v
def mayB (J : Nat → Int32) (i g : Nat) : Bool := decide (i = g) || decide (0 < (J (8 * i + g)).toInt)
def mfv (J : Nat → Int32) (h : Nat) : Nat → Nat → Int
  | 0, _ => 0
  | r + 1, set => (List.range h).foldl (fun v g => mfs (mayB J (h - (r + 1)) g) (set.testBit g) ((J (8 * (h - (r + 1)) + g)).toInt) (mfv J h r (set ||| 2 ^ g)) v) (-1)
/-- the least house that keeps the greatest joy -/
def mfg (J : Nat → Int32) (h r set : Nat) : Nat := ((List.range h).find? (fun g => !set.testBit g && mayB J (h - (r + 1)) g && decide (0 ≤ mfv J h r (set ||| 2 ^ g)) && decide ((J (8 * (h - (r + 1)) + g)).toInt + mfv J h r (set ||| 2 ^ g) = mfv J h (r + 1) set))).getD 0
/-- the set that is given for the first i houses -/
def mfset (J : Nat → Int32) (h : Nat) : Nat → Nat
  | 0 => 0
  | i + 1 => mfset J h i ||| 2 ^ mfg J h (h - (i + 1)) (mfset J h i)
def Settled (h : Nat) (M : Mt) : Prop := (M 39 0).toInt = mfv (M 37) h h 0 ∧ ∀ i, i < h → M 38 i = nI (mfg (M 37) h (h - (i + 1)) (mfset (M 37) h i))
def Rsw (h : Nat) (M : Mt) : Prop := bit (M 10 5) ∧ (M 10 5 = 1 → Settled h M)
/-! the law in force: lines of steps (kind, value), with ruling and percent -/
abbrev Op1 : Type := Nat × Nat
abbrev Ln1 : Type := List Op1 × Nat × Nat
def chrOf (k : Nat) : Nat := match k with
  | 0 => 110
  | 1 => 116
  | 2 => 126
  | 3 => 38
  | 4 => 124
  | 5 => 60
  | 6 => 62
  | 7 => 61
  | 8 => 43
  | _ => 45
def opOk (o : Op1) : Prop := o.1 ≤ 9 ∧ o.2 < 10000000 ∧ (o.1 = 1 → o.2 < 9)
/-- the depth behind steps, none if they take what isn't there or go above 20 -/
def dep : Nat → List Op1 → Option Nat
  | n, [] => some n
  | n, o :: r => if o.1 ≤ 1 then (if n < 20 then dep (n + 1) r else none) else if o.1 = 2 then (if 1 ≤ n then dep n r else none) else (if 2 ≤ n then dep (n - 1) r else none)
def lnOk (l : Ln1) : Prop := (∀ o ∈ l.1, opOk o) ∧ dep 0 l.1 = some 1 ∧ 1 ≤ l.2.1 ∧ l.2.1 ≤ 4 ∧ l.2.2 ≤ 100
def preL (law : List Ln1) (j : Nat) : Nat := ((law.take j).map (fun l => l.1.length)).sum
def flat (law : List Ln1) : List Op1 := law.flatMap (fun l => l.1)
/-- the class's law: object lw, steps st, line ends le, rulings ru, percents pe -/
def lawC (lw st le ru pe : Nat) (law : List Ln1) (M : Mt) : Prop := M lw 6 = nI law.length ∧ (∀ j, j < law.length → M le j = nI (preL law (j + 1)) ∧ M ru j = nI ((law.getD j ([], 0, 0)).2.1) ∧ M pe j = nI ((law.getD j ([], 0, 0)).2.2)) ∧ ∀ i, i < (flat law).length → M st i = nI (((flat law).getD i (0, 0)).2 * 16 + ((flat law).getD i (0, 0)).1)
/-- the reference's law, in one of its two halves -/
def lawR (bk : Nat) (law : List Ln1) (M : Mt) : Prop := M 69 bk = nI law.length ∧ (∀ j, j < law.length → M 72 (16 * bk + j) = nI (preL law j) ∧ M 73 (16 * bk + j) = nI (preL law (j + 1)) ∧ M 70 (16 * bk + j) = nI ((law.getD j ([], 0, 0)).2.1) ∧ M 71 (16 * bk + j) = nI ((law.getD j ([], 0, 0)).2.2)) ∧ ∀ i, i < (flat law).length → M 74 (600 * bk + i) = nI (chrOf (((flat law).getD i (0, 0)).1)) ∧ M 75 (600 * bk + i) = nI (((flat law).getD i (0, 0)).2)
def lawOk (law : List Ln1) : Prop := law.length ≤ 16 ∧ (flat law).length ≤ 600 ∧ ∀ l ∈ law, lnOk l
def Rlaw (b : Bool) (M : Mt) : Prop := ∃ (law : List Ln1) (bk : Nat), lawOk law ∧ bk < 2 ∧ M 50 39 = nI bk ∧ (if b then lawC 12 45 46 47 48 law M else lawC 11 40 41 42 43 law M) ∧ lawR bk law M
theorem Rlaw.ext {b : Bool} {M M' : Mt} (h : Rlaw b M) (h1 : M' 50 39 = M 50 39) (h11 : M' 11 = M 11) (h12 : M' 12 = M 12) (h40 : M' 40 = M 40) (h41 : M' 41 = M 41) (h42 : M' 42 = M 42) (h43 : M' 43 = M 43) (h45 : M' 45 = M 45) (h46 : M' 46 = M 46) (h47 : M' 47 = M 47) (h48 : M' 48 = M 48) (h69 : M' 69 = M 69) (h70 : M' 70 = M 70) (h71 : M' 71 = M 71) (h72 : M' 72 = M 72) (h73 : M' 73 = M 73) (h74 : M' 74 = M 74) (h75 : M' 75 = M 75) : Rlaw b M' := by
  obtain ⟨law, bk, g1, g2, g3, g4, g5⟩ := h
  refine ⟨law, bk, g1, g2, h1.trans g3, ?_, ?_⟩
  · simpa only [lawC, h11, h40, h41, h42, h43, h12, h45, h46, h47, h48] using g4
  · simpa only [lawR, h69, h70, h71, h72, h73, h74, h75] using g5
theorem Rsw.ext {h : Nat} {M M' : Mt} (g : Rsw h M) (h1 : M' 10 5 = M 10 5) (h2 : M' 37 = M 37) (h3 : M' 38 = M 38) (h4 : M' 39 = M 39) : Rsw h M' := by
  simpa only [Rsw, Settled, h1, h2, h3, h4] using g
def Rel (b : Bool) (M : Mt) : Prop := ∃ n h t k c l w, Rpe n M ∧ Rho n h M ∧ Rle M ∧ Rtd t M ∧ Rpa n h t k M ∧ Rcl k c M ∧ Rta l M ∧ Rfa M ∧ Rwa w M ∧ Rsw h M ∧ Rlaw b M
/-- a call of both: the reference's answer is the class's, and the relation holds behind it -/
def Both (d : Nat) (mC mR : Yt) (as : List Value) (b : Bool) (M : Mt) (N : Nt) : Prop := Wp mC (d + 60) 0 (padL mC.2.2.1 (entL (.ref (0 : Nat) :: as))) [] M N (pr b) (fun v M1 N1 P1 => Wp mR (d + 60) 0 (padL mR.2.2.1 (entL (.ref (50 : Nat) :: as))) [] M1 N1 P1 (fun v2 M2 N2 P2 => v2 = v ∧ ∃ b2, P2 = pr b2 ∧ Rel b2 M2))
