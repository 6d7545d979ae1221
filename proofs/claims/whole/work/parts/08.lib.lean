/-! the references that stay, and the two laws that change places -/
def pr0 (o k : Nat) : Nat := match o with
  | 0 => match k with
    | 0 => 1
    | 1 => 2
    | 2 => 3
    | 3 => 13
    | 4 => 4
    | 5 => 5
    | 6 => 6
    | 7 => 7
    | 8 => 8
    | 9 => 9
    | 10 => 10
    | 11 => 11
    | _ => 0
  | 1 => match k with
    | 0 => 14
    | 1 => 15
    | 2 => 16
    | _ => 0
  | 2 => match k with
    | 0 => 1
    | 1 => 17
    | 2 => 18
    | 3 => 19
    | _ => 0
  | 3 => match k with
    | 0 => 20
    | 1 => 21
    | _ => 0
  | 4 => match k with
    | 0 => 22
    | 1 => 23
    | 2 => 24
    | 3 => 25
    | 4 => 26
    | 5 => 27
    | 6 => 28
    | 7 => 29
    | 8 => 30
    | _ => 0
  | 5 => match k with
    | 0 => 3
    | 1 => 4
    | _ => 0
  | 6 => match k with
    | 0 => 31
    | 1 => 32
    | _ => 0
  | 7 => match k with
    | 0 => 33
    | _ => 0
  | 8 => match k with
    | 0 => 34
    | 1 => 35
    | 2 => 36
    | _ => 0
  | 9 => match k with
    | 0 => 8
    | 1 => 12
    | _ => 0
  | 10 => match k with
    | 0 => 37
    | 1 => 38
    | 2 => 39
    | _ => 0
  | 11 => match k with
    | 0 => 40
    | 1 => 41
    | 2 => 42
    | 3 => 43
    | 4 => 44
    | _ => 0
  | 12 => match k with
    | 0 => 45
    | 1 => 46
    | 2 => 47
    | 3 => 48
    | 4 => 49
    | _ => 0
  | 50 => match k with
    | 0 => 51
    | 1 => 52
    | 2 => 53
    | 3 => 54
    | 4 => 55
    | 5 => 56
    | 9 => 57
    | 10 => 58
    | 11 => 59
    | 12 => 60
    | 13 => 61
    | 14 => 62
    | 15 => 63
    | 16 => 64
    | 17 => 65
    | 18 => 66
    | 21 => 67
    | 22 => 68
    | 32 => 69
    | 33 => 70
    | 34 => 71
    | 35 => 72
    | 36 => 73
    | 37 => 74
    | 38 => 75
    | 43 => 76
    | 46 => 77
    | 47 => 78
    | 48 => 79
    | 50 => 80
    | 51 => 81
    | 52 => 82
    | 53 => 83
    | 54 => 84
    | _ => 0
  | _ => 0
def pr (b : Bool) : Pt' := up2 (up2 pr0 0 11 (if b then 12 else 11)) 9 1 (if b then 11 else 12)
theorem pr_0_0 {b : Bool} : pr b 0 0 = 1 := rfl
theorem pr_0_1 {b : Bool} : pr b 0 1 = 2 := rfl
theorem pr_0_2 {b : Bool} : pr b 0 2 = 3 := rfl
theorem pr_0_3 {b : Bool} : pr b 0 3 = 13 := rfl
theorem pr_0_4 {b : Bool} : pr b 0 4 = 4 := rfl
theorem pr_0_5 {b : Bool} : pr b 0 5 = 5 := rfl
theorem pr_0_6 {b : Bool} : pr b 0 6 = 6 := rfl
theorem pr_0_7 {b : Bool} : pr b 0 7 = 7 := rfl
theorem pr_0_8 {b : Bool} : pr b 0 8 = 8 := rfl
theorem pr_0_9 {b : Bool} : pr b 0 9 = 9 := rfl
theorem pr_0_10 {b : Bool} : pr b 0 10 = 10 := rfl
theorem pr_0_11 {b : Bool} : pr b 0 11 = if b then 12 else 11 := rfl
theorem pr_1_0 {b : Bool} : pr b 1 0 = 14 := rfl
theorem pr_1_1 {b : Bool} : pr b 1 1 = 15 := rfl
theorem pr_1_2 {b : Bool} : pr b 1 2 = 16 := rfl
theorem pr_2_0 {b : Bool} : pr b 2 0 = 1 := rfl
theorem pr_2_1 {b : Bool} : pr b 2 1 = 17 := rfl
theorem pr_2_2 {b : Bool} : pr b 2 2 = 18 := rfl
theorem pr_2_3 {b : Bool} : pr b 2 3 = 19 := rfl
theorem pr_3_0 {b : Bool} : pr b 3 0 = 20 := rfl
theorem pr_3_1 {b : Bool} : pr b 3 1 = 21 := rfl
theorem pr_4_0 {b : Bool} : pr b 4 0 = 22 := rfl
theorem pr_4_1 {b : Bool} : pr b 4 1 = 23 := rfl
theorem pr_4_2 {b : Bool} : pr b 4 2 = 24 := rfl
theorem pr_4_3 {b : Bool} : pr b 4 3 = 25 := rfl
theorem pr_4_4 {b : Bool} : pr b 4 4 = 26 := rfl
theorem pr_4_5 {b : Bool} : pr b 4 5 = 27 := rfl
theorem pr_4_6 {b : Bool} : pr b 4 6 = 28 := rfl
theorem pr_4_7 {b : Bool} : pr b 4 7 = 29 := rfl
theorem pr_4_8 {b : Bool} : pr b 4 8 = 30 := rfl
theorem pr_5_0 {b : Bool} : pr b 5 0 = 3 := rfl
theorem pr_5_1 {b : Bool} : pr b 5 1 = 4 := rfl
theorem pr_6_0 {b : Bool} : pr b 6 0 = 31 := rfl
theorem pr_6_1 {b : Bool} : pr b 6 1 = 32 := rfl
theorem pr_7_0 {b : Bool} : pr b 7 0 = 33 := rfl
theorem pr_8_0 {b : Bool} : pr b 8 0 = 34 := rfl
theorem pr_8_1 {b : Bool} : pr b 8 1 = 35 := rfl
theorem pr_8_2 {b : Bool} : pr b 8 2 = 36 := rfl
theorem pr_9_0 {b : Bool} : pr b 9 0 = 8 := rfl
theorem pr_9_1 {b : Bool} : pr b 9 1 = if b then 11 else 12 := rfl
theorem pr_10_0 {b : Bool} : pr b 10 0 = 37 := rfl
theorem pr_10_1 {b : Bool} : pr b 10 1 = 38 := rfl
theorem pr_10_2 {b : Bool} : pr b 10 2 = 39 := rfl
theorem pr_11_0 {b : Bool} : pr b 11 0 = 40 := rfl
theorem pr_11_1 {b : Bool} : pr b 11 1 = 41 := rfl
theorem pr_11_2 {b : Bool} : pr b 11 2 = 42 := rfl
theorem pr_11_3 {b : Bool} : pr b 11 3 = 43 := rfl
theorem pr_11_4 {b : Bool} : pr b 11 4 = 44 := rfl
theorem pr_12_0 {b : Bool} : pr b 12 0 = 45 := rfl
theorem pr_12_1 {b : Bool} : pr b 12 1 = 46 := rfl
theorem pr_12_2 {b : Bool} : pr b 12 2 = 47 := rfl
theorem pr_12_3 {b : Bool} : pr b 12 3 = 48 := rfl
theorem pr_12_4 {b : Bool} : pr b 12 4 = 49 := rfl
theorem pr_50_0 {b : Bool} : pr b 50 0 = 51 := rfl
theorem pr_50_1 {b : Bool} : pr b 50 1 = 52 := rfl
theorem pr_50_2 {b : Bool} : pr b 50 2 = 53 := rfl
theorem pr_50_3 {b : Bool} : pr b 50 3 = 54 := rfl
theorem pr_50_4 {b : Bool} : pr b 50 4 = 55 := rfl
theorem pr_50_5 {b : Bool} : pr b 50 5 = 56 := rfl
theorem pr_50_9 {b : Bool} : pr b 50 9 = 57 := rfl
theorem pr_50_10 {b : Bool} : pr b 50 10 = 58 := rfl
theorem pr_50_11 {b : Bool} : pr b 50 11 = 59 := rfl
theorem pr_50_12 {b : Bool} : pr b 50 12 = 60 := rfl
theorem pr_50_13 {b : Bool} : pr b 50 13 = 61 := rfl
theorem pr_50_14 {b : Bool} : pr b 50 14 = 62 := rfl
theorem pr_50_15 {b : Bool} : pr b 50 15 = 63 := rfl
theorem pr_50_16 {b : Bool} : pr b 50 16 = 64 := rfl
theorem pr_50_17 {b : Bool} : pr b 50 17 = 65 := rfl
theorem pr_50_18 {b : Bool} : pr b 50 18 = 66 := rfl
theorem pr_50_21 {b : Bool} : pr b 50 21 = 67 := rfl
theorem pr_50_22 {b : Bool} : pr b 50 22 = 68 := rfl
theorem pr_50_32 {b : Bool} : pr b 50 32 = 69 := rfl
theorem pr_50_33 {b : Bool} : pr b 50 33 = 70 := rfl
theorem pr_50_34 {b : Bool} : pr b 50 34 = 71 := rfl
theorem pr_50_35 {b : Bool} : pr b 50 35 = 72 := rfl
theorem pr_50_36 {b : Bool} : pr b 50 36 = 73 := rfl
theorem pr_50_37 {b : Bool} : pr b 50 37 = 74 := rfl
theorem pr_50_38 {b : Bool} : pr b 50 38 = 75 := rfl
theorem pr_50_43 {b : Bool} : pr b 50 43 = 76 := rfl
theorem pr_50_46 {b : Bool} : pr b 50 46 = 77 := rfl
theorem pr_50_47 {b : Bool} : pr b 50 47 = 78 := rfl
theorem pr_50_48 {b : Bool} : pr b 50 48 = 79 := rfl
theorem pr_50_50 {b : Bool} : pr b 50 50 = 80 := rfl
theorem pr_50_51 {b : Bool} : pr b 50 51 = 81 := rfl
theorem pr_50_52 {b : Bool} : pr b 50 52 = 82 := rfl
theorem pr_50_53 {b : Bool} : pr b 50 53 = 83 := rfl
theorem pr_50_54 {b : Bool} : pr b 50 54 = 84 := rfl
theorem pr_swap {b : Bool} : up2 (up2 (pr b) 0 11 (pr b 9 1)) 9 1 (pr b 0 11) = pr (!b) := by
  funext o k
  cases b <;> by_cases h : o = 0 <;> by_cases h2 : o = 9 <;> simp [pr, up2, h, h2] <;> split <;> simp_all
theorem toI_lt {a b : Int32} : a < b ↔ a.toInt < b.toInt := Int32.lt_iff_toInt_lt
theorem toI_le {a b : Int32} : a ≤ b ↔ a.toInt ≤ b.toInt := Int32.le_iff_toInt_le
theorem toI_eq {a b : Int32} : a = b ↔ a.toInt = b.toInt := Int32.toInt_inj.symm
theorem vp_in_nat {x : Int32} {n : Nat} (h : vp_in x n) : x.toNatClampNeg < n ∧ x = nI x.toNatClampNeg := by
  rw [vp_in_iff] at h
  have e : x.toNatClampNeg = x.toInt.toNat := rfl
  refine ⟨by omega, ?_⟩
  have hb : x.toInt < 2 ^ 31 := by have := x.toInt_lt; omega
  rw [toI_eq, nI_toInt (by omega)]
  omega
theorem up2_at {α : Type} {M : Nat → Nat → α} {o k o' k' : Nat} {x : α} : up2 M o k x o' k' = if o' = o then if k' = k then x else M o k' else M o' k' := by
  unfold up2; split <;> rfl
/-- a truth as an int -/
def b2 (p : Prop) [Decidable p] : Int32 := if p then 1 else 0
theorem bit_b2 {p : Prop} [Decidable p] : bit (b2 p) := by unfold b2; split; exact bit1; exact bit0
theorem b2_eq0 {p : Prop} [Decidable p] : (b2 p = 0) = ¬ p := by unfold b2; split <;> simp_all
theorem b2_t {p : Prop} [Decidable p] (h : p) : b2 p = 1 := if_pos h
theorem b2_f {p : Prop} [Decidable p] (h : ¬ p) : b2 p = 0 := if_neg h
theorem nI_toI {n : Nat} (h : n < 2 ^ 31) : (nI n).toInt = n := nI_toInt h
theorem cl_nI {n : Nat} (h : n < 2 ^ 31) : (nI n).toNatClampNeg = n := nI_clamp h
theorem cat_le (v : Value) : v.category ≤ 2 := by rcases lv_cat v with h | h <;> omega
theorem sk_0 : stk [] ≤ 8 := by decide
theorem sk_1 {a : Value} : stk [a] ≤ 8 := by have := cat_le a; simp only [stk]; omega
theorem sk_2 {a b : Value} : stk [a, b] ≤ 8 := by have := cat_le a; have := cat_le b; simp only [stk]; omega
theorem sk_3 {a b c : Value} : stk [a, b, c] ≤ 8 := by have := cat_le a; have := cat_le b; have := cat_le c; simp only [stk]; omega
theorem sk_4 {a b c e : Value} : stk [a, b, c, e] ≤ 8 := by have := cat_le a; have := cat_le b; have := cat_le c; have := cat_le e; simp only [stk]; omega
theorem ti_m1 : (-1 : Int32).toInt = -1 := by decide
theorem ti_0 : (0 : Int32).toInt = 0 := by decide
theorem ti_1 : (1 : Int32).toInt = 1 := by decide
theorem ti_2 : (2 : Int32).toInt = 2 := by decide
theorem ti_3 : (3 : Int32).toInt = 3 := by decide
theorem ti_4 : (4 : Int32).toInt = 4 := by decide
theorem ti_5 : (5 : Int32).toInt = 5 := by decide
theorem ti_6 : (6 : Int32).toInt = 6 := by decide
theorem ti_7 : (7 : Int32).toInt = 7 := by decide
theorem ti_8 : (8 : Int32).toInt = 8 := by decide
theorem ti_9 : (9 : Int32).toInt = 9 := by decide
theorem ti_10 : (10 : Int32).toInt = 10 := by decide
theorem ti_16 : (16 : Int32).toInt = 16 := by decide
theorem ti_24 : (24 : Int32).toInt = 24 := by decide
theorem ti_30 : (30 : Int32).toInt = 30 := by decide
theorem ti_32 : (32 : Int32).toInt = 32 := by decide
theorem ti_40 : (40 : Int32).toInt = 40 := by decide
theorem ti_60 : (60 : Int32).toInt = 60 := by decide
theorem ti_80 : (80 : Int32).toInt = 80 := by decide
theorem ti_99 : (99 : Int32).toInt = 99 := by decide
theorem ti_100 : (100 : Int32).toInt = 100 := by decide
theorem ti_365 : (365 : Int32).toInt = 365 := by decide
theorem ti_600 : (600 : Int32).toInt = 600 := by decide
theorem ti_1000 : (1000 : Int32).toInt = 1000 := by decide
theorem ti_10000 : (10000 : Int32).toInt = 10000 := by decide
theorem ti_36499 : (36499 : Int32).toInt = 36499 := by decide
theorem ti_1000000 : (1000000 : Int32).toInt = 1000000 := by decide
