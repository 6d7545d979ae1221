section K34
/-! the text and its tokens -/
def isLn (c : Nat) : Bool := decide (97 ≤ c ∧ c ≤ 122)
def isDn (c : Nat) : Bool := decide (48 ≤ c ∧ c ≤ 57)
def isBn (c : Nat) : Bool := decide (c = 32 ∨ c = 10)
def runF (p : Nat → Bool) (C : Nat → Nat) : Nat → Nat → Nat
  | 0, i => i
  | n + 1, i => if p (C i) then runF p C n (i + 1) else i
def sg (c : Nat) : Nat := if c = 59 then 0 else if c = 40 then 1 else if c = 41 then 2 else if c = 60 then 3 else if c = 62 then 4 else if c = 61 then 5 else if c = 43 then 6 else if c = 45 then 7 else 8
/-- a word's letter, behind its end a blank -/
def padW (C : Nat → Nat) (at' e k : Nat) : Nat := if at' + k < e then C (at' + k) else 32
def mrow (C : Nat → Nat) (at' e i r : Nat) : Bool := (List.range 8).all (fun k => decide (padW C at' e k = (strB i).getD (8 * r + k) 0))
def rowF (C : Nat → Nat) (at' e i : Nat) : Option Nat := (List.range 9).find? (mrow C at' e i)
def wK (C : Nat → Nat) (at' e : Nat) : Nat := match rowF C at' e 1 with
  | some r => r
  | none => match rowF C at' e 2 with
    | some r => 9 + r
    | none => 18
def pl (C : Nat → Nat) (l i : Nat) : Nat := runF isBn C (l - i) i
def wE (C : Nat → Nat) (l i : Nat) : Nat := runF isLn C (l - i) i
def dE (C : Nat → Nat) (l i : Nat) : Nat := runF isDn C (l - i) i
def vI (C : Nat → Nat) (at' : Nat) : Nat → Int32
  | 0 => 0
  | k + 1 => vI C at' k * 10 + (nI (C (at' + k)) - 48)
def tK (C : Nat → Nat) (l a : Nat) : Nat := if a = l then 20 else if isLn (C a) then (if wE C l a - a > 8 then 21 else wK C a (wE C l a)) else if isDn (C a) then (if dE C l a - a > 7 ∨ isLn (C (dE C l a)) = true then 21 else 19) else if sg (C a) < 8 then 22 + sg (C a) else 21
def tE (C : Nat → Nat) (l a : Nat) : Nat := if a = l then l else if isLn (C a) then wE C l a else if isDn (C a) then dE C l a else a + 1
def tV (C : Nat → Nat) (l a : Nat) : Int32 := if tK C l a = 19 then vI C a (dE C l a - a) else 0
def ps (C : Nat → Nat) (l : Nat) : Nat → Nat
  | 0 => 0
  | j + 1 => tE C l (pl C l (ps C l j))
def tA (C : Nat → Nat) (l j : Nat) : Nat := pl C l (ps C l j)
/-- what is asked of the text: bytes, and nothing behind its end -/
def CO (C : Nat → Nat) (l : Nat) : Prop := (∀ i, C i < 256) ∧ ∀ i, l ≤ i → C i = 0
variable {C : Nat → Nat} {l : Nat} {p : Nat → Bool}
theorem runF_ge : ∀ n i, i ≤ runF p C n i ∧ runF p C n i ≤ i + n
  | 0, i => by rw [runF]; omega
  | n + 1, i => by
    have := runF_ge n (i + 1)
    rw [runF]
    split <;> omega
theorem runF_in : ∀ n i k, i ≤ k → k < runF p C n i → p (C k) = true
  | 0, i, k, h1, h2 => by rw [runF] at h2; omega
  | n + 1, i, k, h1, h2 => by
    rw [runF] at h2
    split at h2
    · rename_i hp
      by_cases e : k = i
      · rw [e]; exact hp
      · exact runF_in n (i + 1) k (by omega) h2
    · omega
theorem runF_stop : ∀ n i, runF p C n i < i + n → p (C (runF p C n i)) = false
  | 0, i, h => by rw [runF] at h; omega
  | n + 1, i, h => by
    rw [runF] at h ⊢
    split at h
    · rename_i hp
      rw [if_pos hp]
      exact runF_stop n (i + 1) (by omega)
    · rename_i hp
      rw [if_neg hp]
      cases e : p (C i)
      · rfl
      · exact absurd e hp
/-- where nothing stands behind the end, a run stops -/
theorem runF_stop' {i : Nat} (hC : CO C l) (hp : p 0 = false) (hi : i ≤ l) : p (C (runF p C (l - i) i)) = false := by
  have h := runF_ge (p := p) (C := C) (l - i) i
  by_cases e : runF p C (l - i) i < i + (l - i)
  · exact runF_stop _ _ e
  · have : runF p C (l - i) i = l := by omega
    rw [this, hC.2 l (Nat.le_refl _)]
    exact hp
theorem run_one {i : Nat} (hi : i < l) (h : p (C i) = true) : runF p C (l - i) i = runF p C (l - (i + 1)) (i + 1) := by
  have e : l - i = (l - (i + 1)) + 1 := by omega
  rw [e, runF, if_pos h]
theorem run_no {i : Nat} (h : p (C i) = false) : runF p C (l - i) i = i := by
  cases e : l - i with
  | zero => rw [runF]
  | succ n => rw [runF, if_neg (by rw [h]; simp)]
theorem pl_le {i : Nat} (h : i ≤ l) : i ≤ pl C l i ∧ pl C l i ≤ l := by
  have := runF_ge (p := isBn) (C := C) (l - i) i
  unfold pl; omega
theorem wE_bd {i : Nat} (h : i ≤ l) : i ≤ wE C l i ∧ wE C l i ≤ l := by
  have := runF_ge (p := isLn) (C := C) (l - i) i
  unfold wE; omega
theorem dE_bd {i : Nat} (h : i ≤ l) : i ≤ dE C l i ∧ dE C l i ≤ l := by
  have := runF_ge (p := isDn) (C := C) (l - i) i
  unfold dE; omega
theorem wE_gt {i : Nat} (h : i < l) (hp : isLn (C i) = true) : i < wE C l i := by
  unfold wE
  rw [run_one h hp]
  have := runF_ge (p := isLn) (C := C) (l - (i + 1)) (i + 1)
  omega
theorem dE_gt {i : Nat} (h : i < l) (hp : isDn (C i) = true) : i < dE C l i := by
  unfold dE
  rw [run_one h hp]
  have := runF_ge (p := isDn) (C := C) (l - (i + 1)) (i + 1)
  omega
theorem tE_bd {a : Nat} (h : a ≤ l) : tE C l a ≤ l ∧ (a < l → a < tE C l a) ∧ a ≤ tE C l a := by
  unfold tE
  split
  · omega
  · split
    · have := wE_bd (C := C) h
      exact ⟨this.2, fun q => wE_gt q (by assumption), this.1⟩
    · split
      · have := dE_bd (C := C) h
        exact ⟨this.2, fun q => dE_gt q (by assumption), this.1⟩
      · omega
theorem ps_le : ∀ j, ps C l j ≤ l
  | 0 => Nat.zero_le _
  | j + 1 => by
    rw [ps]
    exact (tE_bd (pl_le (ps_le j)).2).1
theorem tA_le (j : Nat) : ps C l j ≤ tA C l j ∧ tA C l j ≤ l := pl_le (ps_le j)
theorem tK_lt {a : Nat} (h : ¬ tK C l a = 20) : ¬ a = l := fun e => h (by unfold tK; rw [if_pos e])
theorem find9 {f : Nat → Bool} {r : Nat} (h : (List.range 9).find? f = some r) : r < 9 ∧ f r = true := by
  have h1 := List.mem_of_find?_eq_some h
  have h2 := List.find?_some h
  exact ⟨List.mem_range.mp h1, h2⟩
theorem wK_le {a e : Nat} : wK C a e ≤ 18 := by
  unfold wK
  split
  · rename_i r h; have := (find9 h).1; omega
  · split
    · rename_i r h; have := (find9 h).1; omega
    · omega
theorem sg_le (c : Nat) : sg c ≤ 8 := by unfold sg; (repeat' split) <;> omega
/-- the words by their kinds -/
def wRow (q : Nat) : Nat × Nat := if q < 9 then (1, q) else (2, q - 9)
def wLen (q : Nat) : Nat := [6, 5, 5, 5, 4, 4, 5, 5, 4, 4, 2, 4, 5, 5, 4, 2, 3, 3].getD q 0
def cw (q : Nat) : Nat := [112628846519652, 444150998382, 482955846501, 512970880104, 2036687218, 1751477348, 448311223411, 465625834867, 1684365668, 2003330414, 25711, 1650549611, 478694368626, 470020941177, 1852796517, 28530, 6385252, 7237492].getD q 0
def wf (q k : Nat) : Nat := (strB (wRow q).1).getD (8 * (wRow q).2 + k) 0
def pkN (f : Nat → Nat) : Nat → Nat
  | 0 => 0
  | n + 1 => pkN f n * 256 + f n
theorem w_all : ∀ q : Fin 18, wLen q.val ≤ 8 ∧ cw q.val = pkN (wf q.val) (wLen q.val) ∧ cw q.val < 9223372036854775808 ∧ ∀ k : Fin 8, if k.val < wLen q.val then 97 ≤ wf q.val k.val ∧ wf q.val k.val ≤ 122 else wf q.val k.val = 32 := by decide
theorem cw_inj : ∀ q q' : Fin 18, cw q.val = cw q'.val → q = q' := by decide
theorem pk_inj {f g : Nat → Nat} : ∀ n m, (∀ k, k < n → 1 ≤ f k ∧ f k < 256) → (∀ k, k < m → 1 ≤ g k ∧ g k < 256) → pkN f n = pkN g m → n = m ∧ ∀ k, k < n → f k = g k
  | 0, 0, _, _, _ => ⟨rfl, fun k h => by omega⟩
  | 0, m + 1, _, hg, e => by
    have := hg m (by omega)
    rw [pkN, pkN] at e; omega
  | n + 1, 0, hf, _, e => by
    have := hf n (by omega)
    rw [pkN, pkN] at e; omega
  | n + 1, m + 1, hf, hg, e => by
    have h1 := hf n (by omega)
    have h2 := hg m (by omega)
    rw [pkN, pkN] at e
    obtain ⟨r1, r2⟩ := pk_inj n m (fun k hk => hf k (by omega)) (fun k hk => hg k (by omega)) (by omega)
    refine ⟨by omega, fun k hk => ?_⟩
    by_cases ek : k = n
    · rw [ek]
      have : n = m := r1
      rw [this] at h1 e ⊢
      omega
    · exact r2 k (by omega)
theorem pkN_lt {f : Nat → Nat} : ∀ n, (∀ k, k < n → f k < 128) → n ≤ 8 → pkN f n < 256 ^ n ∧ (0 < n → 2 * pkN f n < 256 ^ n)
  | 0, _, _ => by simp [pkN]
  | n + 1, hf, hn => by
    have ih := pkN_lt n (fun k hk => hf k (by omega)) (by omega)
    have h1 := hf n (by omega)
    rw [pkN, Nat.pow_succ]
    rcases Nat.eq_zero_or_pos n with z | z
    · subst z
      simp only [pkN]
      omega
    · have := ih.2 z
      omega
theorem mrow_iff {a n q : Nat} (hq : q < 18) (h1 : 1 ≤ n) (h8 : n ≤ 8) (hL : ∀ k, k < n → isLn (C (a + k)) = true) : mrow C a (a + n) (wRow q).1 (wRow q).2 = true ↔ pkN (fun k => C (a + k)) n = cw q := by
  obtain ⟨w1, w2, w3, w4⟩ := w_all ⟨q, hq⟩
  dsimp only at w1 w2 w3 w4
  have hL' : ∀ k, k < n → 97 ≤ C (a + k) ∧ C (a + k) ≤ 122 := fun k hk => by
    have := hL k hk
    unfold isLn at this
    simpa using this
  have hw : ∀ k, k < 8 → if k < wLen q then 97 ≤ wf q k ∧ wf q k ≤ 122 else wf q k = 32 := fun k hk => w4 ⟨k, hk⟩
  have hm : mrow C a (a + n) (wRow q).1 (wRow q).2 = true ↔ ∀ k, k < 8 → padW C a (a + n) k = wf q k := by
    unfold mrow wf
    rw [List.all_eq_true]
    constructor
    · intro h k hk
      have := h k (List.mem_range.mpr hk)
      simpa using this
    · intro h k hk
      have := h k (List.mem_range.mp hk)
      simpa using this
  rw [hm, w2]
  constructor
  · intro h
    have en : n = wLen q := by
      by_cases c1 : n < wLen q
      · have := h n (by omega)
        have k2 := hw n (by omega)
        rw [if_pos c1] at k2
        unfold padW at this
        rw [if_neg (by omega)] at this
        omega
      · by_cases c2 : wLen q < n
        · have := h (wLen q) (by omega)
          have k2 := hw (wLen q) (by omega)
          rw [if_neg (by omega)] at k2
          unfold padW at this
          rw [if_pos (by omega)] at this
          have := hL' (wLen q) c2
          omega
        · omega
    rw [← en]
    have : ∀ m, m ≤ n → pkN (fun k => C (a + k)) m = pkN (wf q) m := by
      intro m
      induction m with
      | zero => intro _; rfl
      | succ m ih =>
        intro hm
        have := h m (by omega)
        unfold padW at this
        rw [if_pos (by omega)] at this
        rw [pkN, pkN, ih (by omega), this]
    exact this n (Nat.le_refl _)
  · intro h k hk
    obtain ⟨r1, r2⟩ := pk_inj n (wLen q) (fun k hk => by have := hL' k hk; omega) (fun k hk => by have := hw k (by omega); rw [if_pos hk] at this; omega) h
    unfold padW
    by_cases c : k < n
    · rw [if_pos (by omega)]; exact r2 k c
    · rw [if_neg (by omega)]
      have := hw k hk
      rw [if_neg (by omega)] at this
      exact this.symm
theorem wK_iff {a n q : Nat} (hq : q < 18) (h1 : 1 ≤ n) (h8 : n ≤ 8) (hL : ∀ k, k < n → isLn (C (a + k)) = true) : pkN (fun k => C (a + k)) n = cw q ↔ wK C a (a + n) = q := by
  have key : ∀ q, q < 18 → (mrow C a (a + n) (wRow q).1 (wRow q).2 = true ↔ pkN (fun k => C (a + k)) n = cw q) := fun q hq => mrow_iff hq h1 h8 hL
  have r1 : ∀ r, r < 9 → wRow r = (1, r) := fun r hr => by unfold wRow; rw [if_pos hr]
  have r2 : ∀ r, wRow (9 + r) = (2, r) := fun r => by unfold wRow; rw [if_neg (by omega)]; congr 1; omega
  have fwd : ∀ q', wK C a (a + n) = q' → q' < 18 → pkN (fun k => C (a + k)) n = cw q' := by
    intro q' h hq'
    unfold wK at h
    split at h
    · rename_i r hr
      obtain ⟨k1, k2⟩ := find9 hr
      rw [← h]
      have := (key r (by omega)).mp (by rw [r1 r k1]; exact k2)
      exact this
    · split at h
      · rename_i r hr
        obtain ⟨k1, k2⟩ := find9 hr
        rw [← h]
        exact (key (9 + r) (by omega)).mp (by rw [r2 r]; exact k2)
      · omega
  constructor
  · intro h
    by_cases c : wK C a (a + n) < 18
    · have := fwd _ rfl c
      rw [this] at h
      have := cw_inj ⟨_, c⟩ ⟨q, hq⟩ h
      exact Fin.mk.inj this
    · exfalso
      have hm := (key q hq).mpr h
      have hle := wK_le (C := C) (a := a) (e := a + n)
      unfold wK at c
      split at c
      · rename_i r hr; have := (find9 hr).1; omega
      · rename_i hn1
        split at c
        · rename_i r hr; have := (find9 hr).1; omega
        · rename_i hn2
          unfold rowF at hn1 hn2
          rw [List.find?_eq_none] at hn1 hn2
          by_cases c9 : q < 9
          · rw [r1 q c9] at hm
            exact hn1 q (List.mem_range.mpr c9) hm
          · have e : q = 9 + (q - 9) := by omega
            rw [e, r2] at hm
            exact hn2 (q - 9) (List.mem_range.mpr (by omega)) hm
  · intro h
    exact fwd q h hq
end K34
