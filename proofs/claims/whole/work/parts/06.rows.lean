def npB (y : Yt) : Bool := !(y.1.cls == "java/lang/String")
theorem primR_np {y : Yt} {L : List Value} {r : Value} (h : primR y L r) : npB y = false := by
  rcases h with ⟨rfl, -⟩ | ⟨rfl, -⟩ | ⟨rfl, -⟩ <;> rfl
theorem Wp.step {y : Yt} {d pc len : Nat} {i : Instr} {L S : List Value} {M : Mt} {N : Nt} {P : Pt'} {Q : Qt} (hy : npB y = true) (hd : decode y.2.1 pc = .ok (i, len)) : Wp y d pc L S M N P Q ↔ onei i len d y pc L S M N P (fun pc' L' S' M' N' P' => Wp y d pc' L' S' M' N' P' Q) (fun y' As k => ∃ d', d = d' + 1 ∧ Wp y' d' 0 (padL y'.2.2.1 (entL As)) [] M N P k) (fun v => Q v M N P) := by
  rw [Wp.fix]
  constructor
  · rintro (⟨i', len', hd', h⟩ | ⟨r, -, -, -, hp, -⟩)
    · rw [hd] at hd'
      cases hd'
      exact h
    · rw [primR_np hp] at hy
      cases hy
  · intro h
    exact Or.inl ⟨i, len, hd, h⟩
/-- an answer of one of String's own -/
theorem Wp.prim {y : Yt} {d : Nat} {L : List Value} {r : Value} {M : Mt} {N : Nt} {P : Pt'} {Q : Qt} (hd : 5 ≤ d) (h : primR y L r) (hQ : Q (some r) M N P) : Wp y d 0 L [] M N P Q := Wp.fix.mpr (Or.inr ⟨r, rfl, rfl, hd, h, hQ⟩)
def bit (x : Int32) : Prop := x = 0 ∨ x = 1
theorem bit0 : bit 0 := Or.inl rfl
theorem bit1 : bit 1 := Or.inr rfl
theorem bit_n {x : Int32} (h : bit x) : narrow .boolean (.int x) = .int x := by rcases h with rfl | rfl <;> rfl
theorem bit_f {x : Int32} (h : bit x) : fits .boolean (.int x) = true := by rcases h with rfl | rfl <;> rfl
theorem cat_i {x : Int32} : (Value.int x).category = 1 := Eq.trans rfl rfl
theorem cat_r {x : Nat} : (Value.ref x).category = 1 := Eq.trans rfl rfl
theorem stk_n : stk [] = 0 := Eq.trans rfl rfl
theorem stk_i {x : Int32} {r : List Value} : stk (.int x :: r) = 1 + stk r := Eq.trans rfl rfl
theorem stk_r {x : Nat} {r : List Value} : stk (.ref x :: r) = 1 + stk r := Eq.trans rfl rfl
theorem stk_l {x : Int64} {r : List Value} : stk (.long x :: r) = 2 + stk r := Eq.trans rfl rfl
theorem tl_some {v : Value} {S : List Value} : (some v).toList ++ S = v :: S := rfl
theorem tl_none {S : List Value} : (none : Option Value).toList ++ S = S := rfl
section WR
variable {y : Yt} {d pc : Nat} {L S : List Value} {M : Mt} {N : Nt} {P : Pt'} {Q : Qt}
theorem wp_iconst (hy : npB y = true) {n : Int} {v : Int32} (hd : decode y.2.1 pc = .ok (.iconst n, 1)) (hv : Int32.ofInt n = v) : Wp y d pc L S M N P Q = (Wp y d (pc + 1) L (.int v :: S) M N P Q) := by
  rw [Wp.step hy hd]
  apply propext
  constructor
  · intro h
    obtain ⟨-, h⟩ := h; rw [hv] at h; exact h
  · intro h
    exact ⟨rfl, by rw [hv]; exact h⟩
theorem wp_bipush (hy : npB y = true) {n : Int} {v : Int32} (hd : decode y.2.1 pc = .ok (.bipush n, 2)) (hv : (Int8.ofInt n).toInt32 = v) : Wp y d pc L S M N P Q = (Wp y d (pc + 2) L (.int v :: S) M N P Q) := by
  rw [Wp.step hy hd]
  apply propext
  constructor
  · intro h
    obtain ⟨-, h⟩ := h; rw [hv] at h; exact h
  · intro h
    exact ⟨rfl, by rw [hv]; exact h⟩
theorem wp_sipush (hy : npB y = true) {n : Int} {v : Int32} (hd : decode y.2.1 pc = .ok (.sipush n, 3)) (hv : (Int16.ofInt n).toInt32 = v) : Wp y d pc L S M N P Q = (Wp y d (pc + 3) L (.int v :: S) M N P Q) := by
  rw [Wp.step hy hd]
  apply propext
  constructor
  · intro h
    obtain ⟨-, h⟩ := h; rw [hv] at h; exact h
  · intro h
    exact ⟨rfl, by rw [hv]; exact h⟩
theorem wp_lconst (hy : npB y = true) {n : Fin 2} {v : Int64} (hd : decode y.2.1 pc = .ok (.lconst n, 1)) (hv : Int64.ofNat (n : Nat) = v) : Wp y d pc L S M N P Q = (Wp y d (pc + 1) L (.long v :: S) M N P Q) := by
  rw [Wp.step hy hd]
  apply propext
  constructor
  · intro h
    obtain ⟨-, h⟩ := h; rw [hv] at h; exact h
  · intro h
    exact ⟨rfl, by rw [hv]; exact h⟩
theorem wp_iload_n (hy : npB y = true) {k : Fin 4} {x : Int32} (hd : decode y.2.1 pc = .ok (.iload_n k, 1)) (hk : L[(k : Nat)]? = some (.int x)) : Wp y d pc L S M N P Q = (Wp y d (pc + 1) L (.int x :: S) M N P Q) := by
  rw [Wp.step hy hd]
  apply propext
  constructor
  · intro h
    obtain ⟨u, -, hx, h⟩ := h; rw [hk] at hx; cases hx; exact h
  · intro h
    exact ⟨x, rfl, hk, h⟩
theorem wp_iload (hy : npB y = true) {k : Nat} {x : Int32} (hd : decode y.2.1 pc = .ok (.iload k, 2)) (hk : L[(k : Nat)]? = some (.int x)) : Wp y d pc L S M N P Q = (Wp y d (pc + 2) L (.int x :: S) M N P Q) := by
  rw [Wp.step hy hd]
  apply propext
  constructor
  · intro h
    obtain ⟨u, -, hx, h⟩ := h; rw [hk] at hx; cases hx; exact h
  · intro h
    exact ⟨x, rfl, hk, h⟩
theorem wp_lload_n (hy : npB y = true) {k : Fin 4} {x : Int64} (hd : decode y.2.1 pc = .ok (.lload_n k, 1)) (hk : L[(k : Nat)]? = some (.long x)) : Wp y d pc L S M N P Q = (Wp y d (pc + 1) L (.long x :: S) M N P Q) := by
  rw [Wp.step hy hd]
  apply propext
  constructor
  · intro h
    obtain ⟨u, -, hx, h⟩ := h; rw [hk] at hx; cases hx; exact h
  · intro h
    exact ⟨x, rfl, hk, h⟩
theorem wp_lload (hy : npB y = true) {k : Nat} {x : Int64} (hd : decode y.2.1 pc = .ok (.lload k, 2)) (hk : L[(k : Nat)]? = some (.long x)) : Wp y d pc L S M N P Q = (Wp y d (pc + 2) L (.long x :: S) M N P Q) := by
  rw [Wp.step hy hd]
  apply propext
  constructor
  · intro h
    obtain ⟨u, -, hx, h⟩ := h; rw [hk] at hx; cases hx; exact h
  · intro h
    exact ⟨x, rfl, hk, h⟩
theorem wp_aload_n (hy : npB y = true) {k : Fin 4} {x : Nat} (hd : decode y.2.1 pc = .ok (.aload_n k, 1)) (hk : L[(k : Nat)]? = some (.ref x)) : Wp y d pc L S M N P Q = (Wp y d (pc + 1) L (.ref x :: S) M N P Q) := by
  rw [Wp.step hy hd]
  apply propext
  constructor
  · intro h
    obtain ⟨u, -, hx, h⟩ := h; rw [hk] at hx; cases hx; exact h
  · intro h
    exact ⟨x, rfl, hk, h⟩
theorem wp_aload (hy : npB y = true) {k : Nat} {x : Nat} (hd : decode y.2.1 pc = .ok (.aload k, 2)) (hk : L[(k : Nat)]? = some (.ref x)) : Wp y d pc L S M N P Q = (Wp y d (pc + 2) L (.ref x :: S) M N P Q) := by
  rw [Wp.step hy hd]
  apply propext
  constructor
  · intro h
    obtain ⟨u, -, hx, h⟩ := h; rw [hk] at hx; cases hx; exact h
  · intro h
    exact ⟨x, rfl, hk, h⟩
theorem wp_istore_n (hy : npB y = true) {k : Fin 4} {x : Int32} {L' : List Value} (hd : decode y.2.1 pc = .ok (.istore_n k, 1)) (hk : (k : Nat) < L.length) (ho : okst L k = true) (hL : L.set k (.int x) = L') : Wp y d pc L (.int x :: S) M N P Q = (Wp y d (pc + 1) L' S M N P Q) := by
  rw [Wp.step hy hd]
  apply propext
  constructor
  · intro h
    obtain ⟨u, S', -, hx, -, -, h⟩ := h; cases hx; rw [hL] at h; exact h
  · intro h
    exact ⟨x, S, rfl, rfl, hk, ho, by rw [hL]; exact h⟩
theorem wp_istore (hy : npB y = true) {k : Nat} {x : Int32} {L' : List Value} (hd : decode y.2.1 pc = .ok (.istore k, 2)) (hk : (k : Nat) < L.length) (ho : okst L k = true) (hL : L.set k (.int x) = L') : Wp y d pc L (.int x :: S) M N P Q = (Wp y d (pc + 2) L' S M N P Q) := by
  rw [Wp.step hy hd]
  apply propext
  constructor
  · intro h
    obtain ⟨u, S', -, hx, -, -, h⟩ := h; cases hx; rw [hL] at h; exact h
  · intro h
    exact ⟨x, S, rfl, rfl, hk, ho, by rw [hL]; exact h⟩
theorem wp_astore_n (hy : npB y = true) {k : Fin 4} {x : Nat} {L' : List Value} (hd : decode y.2.1 pc = .ok (.astore_n k, 1)) (hk : (k : Nat) < L.length) (ho : okst L k = true) (hL : L.set k (.ref x) = L') : Wp y d pc L (.ref x :: S) M N P Q = (Wp y d (pc + 1) L' S M N P Q) := by
  rw [Wp.step hy hd]
  apply propext
  constructor
  · intro h
    obtain ⟨u, S', -, hx, -, -, h⟩ := h; cases hx; rw [hL] at h; exact h
  · intro h
    exact ⟨x, S, rfl, rfl, hk, ho, by rw [hL]; exact h⟩
theorem wp_astore (hy : npB y = true) {k : Nat} {x : Nat} {L' : List Value} (hd : decode y.2.1 pc = .ok (.astore k, 2)) (hk : (k : Nat) < L.length) (ho : okst L k = true) (hL : L.set k (.ref x) = L') : Wp y d pc L (.ref x :: S) M N P Q = (Wp y d (pc + 2) L' S M N P Q) := by
  rw [Wp.step hy hd]
  apply propext
  constructor
  · intro h
    obtain ⟨u, S', -, hx, -, -, h⟩ := h; cases hx; rw [hL] at h; exact h
  · intro h
    exact ⟨x, S, rfl, rfl, hk, ho, by rw [hL]; exact h⟩
theorem wp_lstore_n (hy : npB y = true) {k : Fin 4} {x : Int64} {L' : List Value} (hd : decode y.2.1 pc = .ok (.lstore_n k, 1)) (hk : (k : Nat) + 1 < L.length) (ho : okst L k = true) (hL : (L.set k (.long x)).set (k + 1) (.float 0) = L') : Wp y d pc L (.long x :: S) M N P Q = (Wp y d (pc + 1) L' S M N P Q) := by
  rw [Wp.step hy hd]
  apply propext
  constructor
  · intro h
    obtain ⟨u, S', -, hx, -, -, h⟩ := h; cases hx; rw [hL] at h; exact h
  · intro h
    exact ⟨x, S, rfl, rfl, hk, ho, by rw [hL]; exact h⟩
theorem wp_lstore (hy : npB y = true) {k : Nat} {x : Int64} {L' : List Value} (hd : decode y.2.1 pc = .ok (.lstore k, 2)) (hk : (k : Nat) + 1 < L.length) (ho : okst L k = true) (hL : (L.set k (.long x)).set (k + 1) (.float 0) = L') : Wp y d pc L (.long x :: S) M N P Q = (Wp y d (pc + 2) L' S M N P Q) := by
  rw [Wp.step hy hd]
  apply propext
  constructor
  · intro h
    obtain ⟨u, S', -, hx, -, -, h⟩ := h; cases hx; rw [hL] at h; exact h
  · intro h
    exact ⟨x, S, rfl, rfl, hk, ho, by rw [hL]; exact h⟩
theorem wp_iinc (hy : npB y = true) {k : Nat} {n : Int} {x v : Int32} {L' : List Value} (hd : decode y.2.1 pc = .ok (.iinc k n, 3)) (hk : L[k]? = some (.int x)) (hv : Int32.ofInt n = v) (ho : okst L k = true) (hL : L.set k (.int (x + v)) = L') : Wp y d pc L S M N P Q = (Wp y d (pc + 3) L' S M N P Q) := by
  rw [Wp.step hy hd]
  apply propext
  constructor
  · intro h
    obtain ⟨u, -, hx, -, h⟩ := h; rw [hk] at hx; cases hx; rw [hv, hL] at h; exact h
  · intro h
    exact ⟨x, rfl, hk, ho, by rw [hv, hL]; exact h⟩
theorem wp_iadd (hy : npB y = true) {x : Int32} {z : Int32} (hd : decode y.2.1 pc = .ok (.iadd, 1)) : Wp y d pc L (.int z :: .int x :: S) M N P Q = (Wp y d (pc + 1) L (.int (x + z) :: S) M N P Q) := by
  rw [Wp.step hy hd]
  apply propext
  constructor
  · intro h
    obtain ⟨u, u', S', -, hx, h⟩ := h; cases hx; exact h
  · intro h
    exact ⟨x, z, S, rfl, rfl, h⟩
theorem wp_isub (hy : npB y = true) {x : Int32} {z : Int32} (hd : decode y.2.1 pc = .ok (.isub, 1)) : Wp y d pc L (.int z :: .int x :: S) M N P Q = (Wp y d (pc + 1) L (.int (x - z) :: S) M N P Q) := by
  rw [Wp.step hy hd]
  apply propext
  constructor
  · intro h
    obtain ⟨u, u', S', -, hx, h⟩ := h; cases hx; exact h
  · intro h
    exact ⟨x, z, S, rfl, rfl, h⟩
theorem wp_imul (hy : npB y = true) {x : Int32} {z : Int32} (hd : decode y.2.1 pc = .ok (.imul, 1)) : Wp y d pc L (.int z :: .int x :: S) M N P Q = (Wp y d (pc + 1) L (.int (x * z) :: S) M N P Q) := by
  rw [Wp.step hy hd]
  apply propext
  constructor
  · intro h
    obtain ⟨u, u', S', -, hx, h⟩ := h; cases hx; exact h
  · intro h
    exact ⟨x, z, S, rfl, rfl, h⟩
theorem wp_iand (hy : npB y = true) {x : Int32} {z : Int32} (hd : decode y.2.1 pc = .ok (.iand, 1)) : Wp y d pc L (.int z :: .int x :: S) M N P Q = (Wp y d (pc + 1) L (.int (x &&& z) :: S) M N P Q) := by
  rw [Wp.step hy hd]
  apply propext
  constructor
  · intro h
    obtain ⟨u, u', S', -, hx, h⟩ := h; cases hx; exact h
  · intro h
    exact ⟨x, z, S, rfl, rfl, h⟩
theorem wp_ior (hy : npB y = true) {x : Int32} {z : Int32} (hd : decode y.2.1 pc = .ok (.ior, 1)) : Wp y d pc L (.int z :: .int x :: S) M N P Q = (Wp y d (pc + 1) L (.int (x ||| z) :: S) M N P Q) := by
  rw [Wp.step hy hd]
  apply propext
  constructor
  · intro h
    obtain ⟨u, u', S', -, hx, h⟩ := h; cases hx; exact h
  · intro h
    exact ⟨x, z, S, rfl, rfl, h⟩
theorem wp_idiv (hy : npB y = true) {x : Int32} {z : Int32} (hd : decode y.2.1 pc = .ok (.idiv, 1)) : Wp y d pc L (.int z :: .int x :: S) M N P Q = (¬ z = 0 ∧ Wp y d (pc + 1) L (.int (x / z) :: S) M N P Q) := by
  rw [Wp.step hy hd]
  apply propext
  constructor
  · intro h
    obtain ⟨u, u', S', -, hx, hz, h⟩ := h; cases hx; exact ⟨hz, h⟩
  · intro h
    exact ⟨x, z, S, rfl, rfl, h.1, h.2⟩
theorem wp_irem (hy : npB y = true) {x : Int32} {z : Int32} (hd : decode y.2.1 pc = .ok (.irem, 1)) : Wp y d pc L (.int z :: .int x :: S) M N P Q = (¬ z = 0 ∧ Wp y d (pc + 1) L (.int (x - x / z * z) :: S) M N P Q) := by
  rw [Wp.step hy hd]
  apply propext
  constructor
  · intro h
    obtain ⟨u, u', S', -, hx, hz, h⟩ := h; cases hx; exact ⟨hz, h⟩
  · intro h
    exact ⟨x, z, S, rfl, rfl, h.1, h.2⟩
theorem wp_ishl (hy : npB y = true) {x : Int32} {z : Int32} (hd : decode y.2.1 pc = .ok (.ishl, 1)) : Wp y d pc L (.int z :: .int x :: S) M N P Q = (Wp y d (pc + 1) L (.int (x <<< (z &&& 31)) :: S) M N P Q) := by
  rw [Wp.step hy hd]
  apply propext
  constructor
  · intro h
    obtain ⟨u, u', S', -, hx, h⟩ := h; cases hx; exact h
  · intro h
    exact ⟨x, z, S, rfl, rfl, h⟩
theorem wp_ishr (hy : npB y = true) {x : Int32} {z : Int32} (hd : decode y.2.1 pc = .ok (.ishr, 1)) : Wp y d pc L (.int z :: .int x :: S) M N P Q = (Wp y d (pc + 1) L (.int (x >>> (z &&& 31)) :: S) M N P Q) := by
  rw [Wp.step hy hd]
  apply propext
  constructor
  · intro h
    obtain ⟨u, u', S', -, hx, h⟩ := h; cases hx; exact h
  · intro h
    exact ⟨x, z, S, rfl, rfl, h⟩
theorem wp_iushr (hy : npB y = true) {x : Int32} {z : Int32} (hd : decode y.2.1 pc = .ok (.iushr, 1)) : Wp y d pc L (.int z :: .int x :: S) M N P Q = (Wp y d (pc + 1) L (.int ((x.toUInt32 >>> (z.toUInt32 &&& Int32.toUInt32 31)).toInt32) :: S) M N P Q) := by
  rw [Wp.step hy hd]
  apply propext
  constructor
  · intro h
    obtain ⟨u, u', S', -, hx, h⟩ := h; cases hx; exact h
  · intro h
    exact ⟨x, z, S, rfl, rfl, h⟩
theorem wp_ladd (hy : npB y = true) {x : Int64} {z : Int64} (hd : decode y.2.1 pc = .ok (.ladd, 1)) : Wp y d pc L (.long z :: .long x :: S) M N P Q = (Wp y d (pc + 1) L (.long (x + z) :: S) M N P Q) := by
  rw [Wp.step hy hd]
  apply propext
  constructor
  · intro h
    obtain ⟨u, u', S', -, hx, h⟩ := h; cases hx; exact h
  · intro h
    exact ⟨x, z, S, rfl, rfl, h⟩
theorem wp_lsub (hy : npB y = true) {x : Int64} {z : Int64} (hd : decode y.2.1 pc = .ok (.lsub, 1)) : Wp y d pc L (.long z :: .long x :: S) M N P Q = (Wp y d (pc + 1) L (.long (x - z) :: S) M N P Q) := by
  rw [Wp.step hy hd]
  apply propext
  constructor
  · intro h
    obtain ⟨u, u', S', -, hx, h⟩ := h; cases hx; exact h
  · intro h
    exact ⟨x, z, S, rfl, rfl, h⟩
theorem wp_lmul (hy : npB y = true) {x : Int64} {z : Int64} (hd : decode y.2.1 pc = .ok (.lmul, 1)) : Wp y d pc L (.long z :: .long x :: S) M N P Q = (Wp y d (pc + 1) L (.long (x * z) :: S) M N P Q) := by
  rw [Wp.step hy hd]
  apply propext
  constructor
  · intro h
    obtain ⟨u, u', S', -, hx, h⟩ := h; cases hx; exact h
  · intro h
    exact ⟨x, z, S, rfl, rfl, h⟩
theorem wp_lor (hy : npB y = true) {x : Int64} {z : Int64} (hd : decode y.2.1 pc = .ok (.lor, 1)) : Wp y d pc L (.long z :: .long x :: S) M N P Q = (Wp y d (pc + 1) L (.long (x ||| z) :: S) M N P Q) := by
  rw [Wp.step hy hd]
  apply propext
  constructor
  · intro h
    obtain ⟨u, u', S', -, hx, h⟩ := h; cases hx; exact h
  · intro h
    exact ⟨x, z, S, rfl, rfl, h⟩
theorem wp_ldiv (hy : npB y = true) {x : Int64} {z : Int64} (hd : decode y.2.1 pc = .ok (.ldiv, 1)) : Wp y d pc L (.long z :: .long x :: S) M N P Q = (¬ z = 0 ∧ Wp y d (pc + 1) L (.long (x / z) :: S) M N P Q) := by
  rw [Wp.step hy hd]
  apply propext
  constructor
  · intro h
    obtain ⟨u, u', S', -, hx, hz, h⟩ := h; cases hx; exact ⟨hz, h⟩
  · intro h
    exact ⟨x, z, S, rfl, rfl, h.1, h.2⟩
theorem wp_lrem (hy : npB y = true) {x : Int64} {z : Int64} (hd : decode y.2.1 pc = .ok (.lrem, 1)) : Wp y d pc L (.long z :: .long x :: S) M N P Q = (¬ z = 0 ∧ Wp y d (pc + 1) L (.long (x - x / z * z) :: S) M N P Q) := by
  rw [Wp.step hy hd]
  apply propext
  constructor
  · intro h
    obtain ⟨u, u', S', -, hx, hz, h⟩ := h; cases hx; exact ⟨hz, h⟩
  · intro h
    exact ⟨x, z, S, rfl, rfl, h.1, h.2⟩
theorem wp_lshl (hy : npB y = true) {x : Int64} {z : Int32} (hd : decode y.2.1 pc = .ok (.lshl, 1)) : Wp y d pc L (.int z :: .long x :: S) M N P Q = (Wp y d (pc + 1) L (.long (x <<< (z.toInt64 &&& 63)) :: S) M N P Q) := by
  rw [Wp.step hy hd]
  apply propext
  constructor
  · intro h
    obtain ⟨u, u', S', -, hx, h⟩ := h; cases hx; exact h
  · intro h
    exact ⟨x, z, S, rfl, rfl, h⟩
theorem wp_lcmp (hy : npB y = true) {x : Int64} {z : Int64} (hd : decode y.2.1 pc = .ok (.lcmp, 1)) : Wp y d pc L (.long z :: .long x :: S) M N P Q = (Wp y d (pc + 1) L (.int (lg_cmp x z) :: S) M N P Q) := by
  rw [Wp.step hy hd]
  apply propext
  constructor
  · intro h
    obtain ⟨u, u', S', -, hx, h⟩ := h; cases hx; exact h
  · intro h
    exact ⟨x, z, S, rfl, rfl, h⟩
theorem wp_i2l (hy : npB y = true) {x : Int32} (hd : decode y.2.1 pc = .ok (.i2l, 1)) : Wp y d pc L (.int x :: S) M N P Q = (Wp y d (pc + 1) L (.long x.toInt64 :: S) M N P Q) := by
  rw [Wp.step hy hd]
  apply propext
  constructor
  · intro h
    obtain ⟨u, S', -, hx, h⟩ := h; cases hx; exact h
  · intro h
    exact ⟨x, S, rfl, rfl, h⟩
theorem wp_l2i (hy : npB y = true) {x : Int64} (hd : decode y.2.1 pc = .ok (.l2i, 1)) : Wp y d pc L (.long x :: S) M N P Q = (Wp y d (pc + 1) L (.int x.toInt32 :: S) M N P Q) := by
  rw [Wp.step hy hd]
  apply propext
  constructor
  · intro h
    obtain ⟨u, S', -, hx, h⟩ := h; cases hx; exact h
  · intro h
    exact ⟨x, S, rfl, rfl, h⟩
theorem wp_i2b (hy : npB y = true) {x : Int32} (hd : decode y.2.1 pc = .ok (.i2b, 1)) : Wp y d pc L (.int x :: S) M N P Q = (Wp y d (pc + 1) L (.int x.toInt8.toInt32 :: S) M N P Q) := by
  rw [Wp.step hy hd]
  apply propext
  constructor
  · intro h
    obtain ⟨u, S', -, hx, h⟩ := h; cases hx; exact h
  · intro h
    exact ⟨x, S, rfl, rfl, h⟩
theorem wp_i2s (hy : npB y = true) {x : Int32} (hd : decode y.2.1 pc = .ok (.i2s, 1)) : Wp y d pc L (.int x :: S) M N P Q = (Wp y d (pc + 1) L (.int x.toInt16.toInt32 :: S) M N P Q) := by
  rw [Wp.step hy hd]
  apply propext
  constructor
  · intro h
    obtain ⟨u, S', -, hx, h⟩ := h; cases hx; exact h
  · intro h
    exact ⟨x, S, rfl, rfl, h⟩
theorem wp_i2c (hy : npB y = true) {x : Int32} (hd : decode y.2.1 pc = .ok (.i2c, 1)) : Wp y d pc L (.int x :: S) M N P Q = (Wp y d (pc + 1) L (.int (x.toUInt32 % 65536).toInt32 :: S) M N P Q) := by
  rw [Wp.step hy hd]
  apply propext
  constructor
  · intro h
    obtain ⟨u, S', -, hx, h⟩ := h; cases hx; exact h
  · intro h
    exact ⟨x, S, rfl, rfl, h⟩
theorem wp_dup (hy : npB y = true) {v : Value} (hd : decode y.2.1 pc = .ok (.dup, 1)) (hv : v.category = 1) : Wp y d pc L (v :: S) M N P Q = (Wp y d (pc + 1) L (v :: v :: S) M N P Q) := by
  rw [Wp.step hy hd]
  apply propext
  constructor
  · intro h
    obtain ⟨u, S', -, hx, -, h⟩ := h; cases hx; exact h
  · intro h
    exact ⟨v, S, rfl, rfl, hv, h⟩
theorem wp_dup2 (hy : npB y = true) {v u : Value} (hd : decode y.2.1 pc = .ok (.dup2, 1)) (hv : v.category = 1) (hu : u.category = 1) : Wp y d pc L (v :: u :: S) M N P Q = (Wp y d (pc + 1) L (v :: u :: v :: u :: S) M N P Q) := by
  rw [Wp.step hy hd]
  apply propext
  constructor
  · intro h
    obtain ⟨u1, u2, S', -, hx, -, -, h⟩ := h; cases hx; exact h
  · intro h
    exact ⟨v, u, S, rfl, rfl, hv, hu, h⟩
theorem wp_pop (hy : npB y = true) {v : Value} (hd : decode y.2.1 pc = .ok (.pop, 1)) (hv : v.category = 1) : Wp y d pc L (v :: S) M N P Q = (Wp y d (pc + 1) L S M N P Q) := by
  rw [Wp.step hy hd]
  apply propext
  constructor
  · intro h
    obtain ⟨u, S', -, hx, -, h⟩ := h; cases hx; exact h
  · intro h
    exact ⟨v, S, rfl, rfl, hv, h⟩
theorem wp_if_eq (hy : npB y = true) {x : Int32} {off : Int} {t : Nat} (hd : decode y.2.1 pc = .ok (.ifCond .eq off, 3)) (ht : (pc : Int) + off = ((t : Nat) : Int)) : Wp y d pc L (.int x :: S) M N P Q = (if x = 0 then Wp y d t L S M N P Q else Wp y d (pc + 3) L S M N P Q) := by
  rw [Wp.step hy hd]
  apply propext
  constructor
  · intro h
    obtain ⟨u, S', t', -, hx, ht', h⟩ := h; cases hx; have e := Int.ofNat.inj (ht.symm.trans ht'); subst e; split at h <;> rename_i q <;> simp only [q, if_true, if_false] <;> exact h
  · intro h
    refine ⟨x, S, t, rfl, rfl, ht, ?_⟩; split at h <;> rename_i q <;> simp only [q, if_true, if_false] <;> exact h
theorem wp_if_ne (hy : npB y = true) {x : Int32} {off : Int} {t : Nat} (hd : decode y.2.1 pc = .ok (.ifCond .ne off, 3)) (ht : (pc : Int) + off = ((t : Nat) : Int)) : Wp y d pc L (.int x :: S) M N P Q = (if x = 0 then Wp y d (pc + 3) L S M N P Q else Wp y d t L S M N P Q) := by
  rw [Wp.step hy hd]
  apply propext
  constructor
  · intro h
    obtain ⟨u, S', t', -, hx, ht', h⟩ := h; cases hx; have e := Int.ofNat.inj (ht.symm.trans ht'); subst e; split at h <;> rename_i q <;> simp only [q, if_true, if_false] <;> exact h
  · intro h
    refine ⟨x, S, t, rfl, rfl, ht, ?_⟩; split at h <;> rename_i q <;> simp only [q, if_true, if_false] <;> exact h
theorem wp_if_lt (hy : npB y = true) {x : Int32} {off : Int} {t : Nat} (hd : decode y.2.1 pc = .ok (.ifCond .lt off, 3)) (ht : (pc : Int) + off = ((t : Nat) : Int)) : Wp y d pc L (.int x :: S) M N P Q = (if x < 0 then Wp y d t L S M N P Q else Wp y d (pc + 3) L S M N P Q) := by
  rw [Wp.step hy hd]
  apply propext
  constructor
  · intro h
    obtain ⟨u, S', t', -, hx, ht', h⟩ := h; cases hx; have e := Int.ofNat.inj (ht.symm.trans ht'); subst e; split at h <;> rename_i q <;> simp only [q, if_true, if_false] <;> exact h
  · intro h
    refine ⟨x, S, t, rfl, rfl, ht, ?_⟩; split at h <;> rename_i q <;> simp only [q, if_true, if_false] <;> exact h
theorem wp_if_ge (hy : npB y = true) {x : Int32} {off : Int} {t : Nat} (hd : decode y.2.1 pc = .ok (.ifCond .ge off, 3)) (ht : (pc : Int) + off = ((t : Nat) : Int)) : Wp y d pc L (.int x :: S) M N P Q = (if 0 ≤ x then Wp y d t L S M N P Q else Wp y d (pc + 3) L S M N P Q) := by
  rw [Wp.step hy hd]
  apply propext
  constructor
  · intro h
    obtain ⟨u, S', t', -, hx, ht', h⟩ := h; cases hx; have e := Int.ofNat.inj (ht.symm.trans ht'); subst e; split at h <;> rename_i q <;> simp only [q, if_true, if_false] <;> exact h
  · intro h
    refine ⟨x, S, t, rfl, rfl, ht, ?_⟩; split at h <;> rename_i q <;> simp only [q, if_true, if_false] <;> exact h
theorem wp_if_gt (hy : npB y = true) {x : Int32} {off : Int} {t : Nat} (hd : decode y.2.1 pc = .ok (.ifCond .gt off, 3)) (ht : (pc : Int) + off = ((t : Nat) : Int)) : Wp y d pc L (.int x :: S) M N P Q = (if 0 < x then Wp y d t L S M N P Q else Wp y d (pc + 3) L S M N P Q) := by
  rw [Wp.step hy hd]
  apply propext
  constructor
  · intro h
    obtain ⟨u, S', t', -, hx, ht', h⟩ := h; cases hx; have e := Int.ofNat.inj (ht.symm.trans ht'); subst e; split at h <;> rename_i q <;> simp only [q, if_true, if_false] <;> exact h
  · intro h
    refine ⟨x, S, t, rfl, rfl, ht, ?_⟩; split at h <;> rename_i q <;> simp only [q, if_true, if_false] <;> exact h
theorem wp_if_le (hy : npB y = true) {x : Int32} {off : Int} {t : Nat} (hd : decode y.2.1 pc = .ok (.ifCond .le off, 3)) (ht : (pc : Int) + off = ((t : Nat) : Int)) : Wp y d pc L (.int x :: S) M N P Q = (if x ≤ 0 then Wp y d t L S M N P Q else Wp y d (pc + 3) L S M N P Q) := by
  rw [Wp.step hy hd]
  apply propext
  constructor
  · intro h
    obtain ⟨u, S', t', -, hx, ht', h⟩ := h; cases hx; have e := Int.ofNat.inj (ht.symm.trans ht'); subst e; split at h <;> rename_i q <;> simp only [q, if_true, if_false] <;> exact h
  · intro h
    refine ⟨x, S, t, rfl, rfl, ht, ?_⟩; split at h <;> rename_i q <;> simp only [q, if_true, if_false] <;> exact h
theorem wp_icmp_eq (hy : npB y = true) {x z : Int32} {off : Int} {t : Nat} (hd : decode y.2.1 pc = .ok (.if_icmp .eq off, 3)) (ht : (pc : Int) + off = ((t : Nat) : Int)) : Wp y d pc L (.int z :: .int x :: S) M N P Q = (if x = z then Wp y d t L S M N P Q else Wp y d (pc + 3) L S M N P Q) := by
  rw [Wp.step hy hd]
  apply propext
  constructor
  · intro h
    obtain ⟨u, u2, S', t', -, hx, ht', h⟩ := h; cases hx; have e := Int.ofNat.inj (ht.symm.trans ht'); subst e; split at h <;> rename_i q <;> simp only [q, if_true, if_false] <;> exact h
  · intro h
    refine ⟨x, z, S, t, rfl, rfl, ht, ?_⟩; split at h <;> rename_i q <;> simp only [q, if_true, if_false] <;> exact h
theorem wp_icmp_ne (hy : npB y = true) {x z : Int32} {off : Int} {t : Nat} (hd : decode y.2.1 pc = .ok (.if_icmp .ne off, 3)) (ht : (pc : Int) + off = ((t : Nat) : Int)) : Wp y d pc L (.int z :: .int x :: S) M N P Q = (if x = z then Wp y d (pc + 3) L S M N P Q else Wp y d t L S M N P Q) := by
  rw [Wp.step hy hd]
  apply propext
  constructor
  · intro h
    obtain ⟨u, u2, S', t', -, hx, ht', h⟩ := h; cases hx; have e := Int.ofNat.inj (ht.symm.trans ht'); subst e; split at h <;> rename_i q <;> simp only [q, if_true, if_false] <;> exact h
  · intro h
    refine ⟨x, z, S, t, rfl, rfl, ht, ?_⟩; split at h <;> rename_i q <;> simp only [q, if_true, if_false] <;> exact h
theorem wp_icmp_lt (hy : npB y = true) {x z : Int32} {off : Int} {t : Nat} (hd : decode y.2.1 pc = .ok (.if_icmp .lt off, 3)) (ht : (pc : Int) + off = ((t : Nat) : Int)) : Wp y d pc L (.int z :: .int x :: S) M N P Q = (if x < z then Wp y d t L S M N P Q else Wp y d (pc + 3) L S M N P Q) := by
  rw [Wp.step hy hd]
  apply propext
  constructor
  · intro h
    obtain ⟨u, u2, S', t', -, hx, ht', h⟩ := h; cases hx; have e := Int.ofNat.inj (ht.symm.trans ht'); subst e; split at h <;> rename_i q <;> simp only [q, if_true, if_false] <;> exact h
  · intro h
    refine ⟨x, z, S, t, rfl, rfl, ht, ?_⟩; split at h <;> rename_i q <;> simp only [q, if_true, if_false] <;> exact h
theorem wp_icmp_ge (hy : npB y = true) {x z : Int32} {off : Int} {t : Nat} (hd : decode y.2.1 pc = .ok (.if_icmp .ge off, 3)) (ht : (pc : Int) + off = ((t : Nat) : Int)) : Wp y d pc L (.int z :: .int x :: S) M N P Q = (if z ≤ x then Wp y d t L S M N P Q else Wp y d (pc + 3) L S M N P Q) := by
  rw [Wp.step hy hd]
  apply propext
  constructor
  · intro h
    obtain ⟨u, u2, S', t', -, hx, ht', h⟩ := h; cases hx; have e := Int.ofNat.inj (ht.symm.trans ht'); subst e; split at h <;> rename_i q <;> simp only [q, if_true, if_false] <;> exact h
  · intro h
    refine ⟨x, z, S, t, rfl, rfl, ht, ?_⟩; split at h <;> rename_i q <;> simp only [q, if_true, if_false] <;> exact h
theorem wp_icmp_gt (hy : npB y = true) {x z : Int32} {off : Int} {t : Nat} (hd : decode y.2.1 pc = .ok (.if_icmp .gt off, 3)) (ht : (pc : Int) + off = ((t : Nat) : Int)) : Wp y d pc L (.int z :: .int x :: S) M N P Q = (if z < x then Wp y d t L S M N P Q else Wp y d (pc + 3) L S M N P Q) := by
  rw [Wp.step hy hd]
  apply propext
  constructor
  · intro h
    obtain ⟨u, u2, S', t', -, hx, ht', h⟩ := h; cases hx; have e := Int.ofNat.inj (ht.symm.trans ht'); subst e; split at h <;> rename_i q <;> simp only [q, if_true, if_false] <;> exact h
  · intro h
    refine ⟨x, z, S, t, rfl, rfl, ht, ?_⟩; split at h <;> rename_i q <;> simp only [q, if_true, if_false] <;> exact h
theorem wp_icmp_le (hy : npB y = true) {x z : Int32} {off : Int} {t : Nat} (hd : decode y.2.1 pc = .ok (.if_icmp .le off, 3)) (ht : (pc : Int) + off = ((t : Nat) : Int)) : Wp y d pc L (.int z :: .int x :: S) M N P Q = (if x ≤ z then Wp y d t L S M N P Q else Wp y d (pc + 3) L S M N P Q) := by
  rw [Wp.step hy hd]
  apply propext
  constructor
  · intro h
    obtain ⟨u, u2, S', t', -, hx, ht', h⟩ := h; cases hx; have e := Int.ofNat.inj (ht.symm.trans ht'); subst e; split at h <;> rename_i q <;> simp only [q, if_true, if_false] <;> exact h
  · intro h
    refine ⟨x, z, S, t, rfl, rfl, ht, ?_⟩; split at h <;> rename_i q <;> simp only [q, if_true, if_false] <;> exact h
theorem wp_goto (hy : npB y = true) {off : Int} {t : Nat} (hd : decode y.2.1 pc = .ok (.goto off, 3)) (ht : (pc : Int) + off = ((t : Nat) : Int)) : Wp y d pc L S M N P Q = (Wp y d t L S M N P Q) := by
  rw [Wp.step hy hd]
  apply propext
  constructor
  · intro h
    obtain ⟨t', -, ht', h⟩ := h; have e := Int.ofNat.inj (ht.symm.trans ht'); subst e; exact h
  · intro h
    exact ⟨t, rfl, ht, h⟩
theorem wp_tabOut (hy : npB y = true) {dflt lo hi : Int} {offs : Array Int} {len t : Nat} {x : Int32} (hd : decode y.2.1 pc = .ok (.tableswitch dflt lo hi offs, len)) (hx : x.toInt < lo ∨ hi < x.toInt) (ht : (pc : Int) + dflt = ((t : Nat) : Int)) : Wp y d pc L (.int x :: S) M N P Q = Wp y d t L S M N P Q := by
  rw [Wp.step hy hd]
  apply propext
  constructor
  · rintro ⟨u, S', t', e, h1, h⟩
    cases e
    rcases h1 with ⟨-, h1⟩ | ⟨h1, h2, -⟩
    · have e := Int.ofNat.inj (ht.symm.trans h1); subst e; exact h
    · exact absurd hx (by omega)
  · intro h
    exact ⟨x, S, t, rfl, Or.inl ⟨hx, ht⟩, h⟩
theorem wp_tabIn (hy : npB y = true) {dflt lo hi : Int} {offs : Array Int} {len t : Nat} {off : Int} {x : Int32} (hd : decode y.2.1 pc = .ok (.tableswitch dflt lo hi offs, len)) (h1 : ¬ x.toInt < lo) (h2 : ¬ hi < x.toInt) (h3 : offs[(x.toInt - lo).toNat]? = some off) (ht : (pc : Int) + off = ((t : Nat) : Int)) : Wp y d pc L (.int x :: S) M N P Q = Wp y d t L S M N P Q := by
  rw [Wp.step hy hd]
  apply propext
  constructor
  · rintro ⟨u, S', t', e, g1, h⟩
    cases e
    rcases g1 with ⟨g1, -⟩ | ⟨-, -, off', g1, g2⟩
    · exact absurd g1 (by omega)
    · rw [h3] at g1; cases g1
      have e := Int.ofNat.inj (ht.symm.trans g2); subst e; exact h
  · intro h
    exact ⟨x, S, t, rfl, Or.inr ⟨h1, h2, off, h3, ht⟩, h⟩
theorem wp_look (hy : npB y = true) {dflt : Int} {ps : Array (Int × Int)} {len t : Nat} {x : Int32} (hd : decode y.2.1 pc = .ok (.lookupswitch dflt ps, len)) (hp : (ps.toList.zip (ps.toList.drop 1)).all (fun (a, next) => a.1 < next.1) = true) (ht : (pc : Int) + Op.lookupswitch.offset ps.toList dflt x.toInt = ((t : Nat) : Int)) : Wp y d pc L (.int x :: S) M N P Q = Wp y d t L S M N P Q := by
  rw [Wp.step hy hd]
  apply propext
  constructor
  · rintro ⟨u, S', t', e, -, g2, h⟩
    cases e
    have e := Int.ofNat.inj (ht.symm.trans g2); subst e; exact h
  · intro h
    exact ⟨x, S, t, rfl, hp, ht, h⟩
theorem wp_ldc (hy : npB y = true) {idx : Nat} {v : Value} (hd : decode y.2.1 pc = .ok (.ldc idx, 2)) (hn : y.1.cls = clsN y.2.2.2.2) (hv : kT y.2.2.2.2 idx = some v) : Wp y d pc L S M N P Q = (Wp y d (pc + 2) L (v :: S) M N P Q) := by
  rw [Wp.step hy hd]
  apply propext
  constructor
  · intro h
    obtain ⟨u, -, ⟨-, hu⟩, h⟩ := h; rw [hv] at hu; cases hu; exact h
  · intro h
    exact ⟨v, rfl, ⟨hn, hv⟩, h⟩
theorem wp_ldc_w (hy : npB y = true) {idx : Nat} {x : Int32} (hd : decode y.2.1 pc = .ok (.ldc_w idx, 3)) (hn : y.1.cls = clsN y.2.2.2.2) (hv : kT y.2.2.2.2 idx = some (.int x)) : Wp y d pc L S M N P Q = (Wp y d (pc + 3) L (.int x :: S) M N P Q) := by
  rw [Wp.step hy hd]
  apply propext
  constructor
  · intro h
    obtain ⟨u, -, -, hu, h⟩ := h; rw [hv] at hu; cases hu; exact h
  · intro h
    exact ⟨x, rfl, hn, hv, h⟩
theorem wp_ldc2_w (hy : npB y = true) {idx : Nat} {x : Int64} (hd : decode y.2.1 pc = .ok (.ldc2_w idx, 3)) (hn : y.1.cls = clsN y.2.2.2.2) (hv : lT y.2.2.2.2 idx = some x) : Wp y d pc L S M N P Q = (Wp y d (pc + 3) L (.long x :: S) M N P Q) := by
  rw [Wp.step hy hd]
  apply propext
  constructor
  · intro h
    obtain ⟨u, -, -, hu, h⟩ := h; rw [hv] at hu; cases hu; exact h
  · intro h
    exact ⟨x, rfl, hn, hv, h⟩
theorem wp_getfield (hy : npB y = true) {idx r c k : Nat} {v : Value} (hd : decode y.2.1 pc = .ok (.getfield idx, 3)) (hn : y.1.cls = clsN y.2.2.2.2) (hf : fT y.2.2.2.2 idx = some (c, k)) (hs : shk r = (c, 0)) (hv : fval (fknd c k) r k M N P = v) : Wp y d pc L (.ref r :: S) M N P Q = (Wp y d (pc + 3) L (v :: S) M N P Q) := by
  rw [Wp.step hy hd]
  apply propext
  constructor
  · intro h
    obtain ⟨r', c', k', S', -, hx, ⟨-, -, hf'⟩, h⟩ := h; cases hx; rw [hf] at hf'; cases hf'; rw [hv] at h; exact h
  · intro h
    exact ⟨r, c, k, S, rfl, rfl, ⟨hn, hs, hf⟩, by rw [hv]; exact h⟩
theorem wp_putI (hy : npB y = true) {idx r c k : Nat} {x : Int32} (hd : decode y.2.1 pc = .ok (.putfield idx, 3)) (hn : y.1.cls = clsN y.2.2.2.2) (hf : fT y.2.2.2.2 idx = some (c, k)) (hs : shk r = (c, 0)) (hk : fknd c k = 0) (ho : putOk c k (.int x)) : Wp y d pc L (.int x :: .ref r :: S) M N P Q = (Wp y d (pc + 3) L S (up2 M r k x) N P Q) := by
  rw [Wp.step hy hd]
  apply propext
  constructor
  · intro h
    obtain ⟨r', c', k', v, S', M', N', P', -, hx, ⟨-, -, hf'⟩, -, hp, h⟩ := h; cases hx; rw [hf] at hf'; cases hf'
    rcases hp with ⟨-, x', e, rfl, rfl, rfl⟩ | ⟨e, -⟩ | ⟨e, -⟩
    · cases e; exact h
    · rw [hk] at e; cases e
    · rw [hk] at e; cases e
  · intro h
    exact ⟨r, c, k, _, S, _, _, _, rfl, rfl, ⟨hn, hs, hf⟩, ho, Or.inl ⟨hk, x, rfl, rfl, rfl, rfl⟩, h⟩
theorem wp_putR (hy : npB y = true) {idx r c k : Nat} {x : Nat} (hd : decode y.2.1 pc = .ok (.putfield idx, 3)) (hn : y.1.cls = clsN y.2.2.2.2) (hf : fT y.2.2.2.2 idx = some (c, k)) (hs : shk r = (c, 0)) (hk : fknd c k = 1) (ho : putOk c k (.ref x)) : Wp y d pc L (.ref x :: .ref r :: S) M N P Q = (Wp y d (pc + 3) L S M N (up2 P r k x) Q) := by
  rw [Wp.step hy hd]
  apply propext
  constructor
  · intro h
    obtain ⟨r', c', k', v, S', M', N', P', -, hx, ⟨-, -, hf'⟩, -, hp, h⟩ := h; cases hx; rw [hf] at hf'; cases hf'
    rcases hp with ⟨e, -⟩ | ⟨-, x', e, rfl, rfl, rfl⟩ | ⟨e, -⟩
    · rw [hk] at e; cases e
    · cases e; exact h
    · rw [hk] at e; cases e
  · intro h
    exact ⟨r, c, k, _, S, _, _, _, rfl, rfl, ⟨hn, hs, hf⟩, ho, Or.inr (Or.inl ⟨hk, x, rfl, rfl, rfl, rfl⟩), h⟩
theorem wp_putL (hy : npB y = true) {idx r c k : Nat} {x : Int64} (hd : decode y.2.1 pc = .ok (.putfield idx, 3)) (hn : y.1.cls = clsN y.2.2.2.2) (hf : fT y.2.2.2.2 idx = some (c, k)) (hs : shk r = (c, 0)) (hk : fknd c k = 2) (ho : putOk c k (.long x)) : Wp y d pc L (.long x :: .ref r :: S) M N P Q = (Wp y d (pc + 3) L S M (up2 N r k x) P Q) := by
  rw [Wp.step hy hd]
  apply propext
  constructor
  · intro h
    obtain ⟨r', c', k', v, S', M', N', P', -, hx, ⟨-, -, hf'⟩, -, hp, h⟩ := h; cases hx; rw [hf] at hf'; cases hf'
    rcases hp with ⟨e, -⟩ | ⟨e, -⟩ | ⟨-, x', e, rfl, rfl, rfl⟩
    · rw [hk] at e; cases e
    · rw [hk] at e; cases e
    · cases e; exact h
  · intro h
    exact ⟨r, c, k, _, S, _, _, _, rfl, rfl, ⟨hn, hs, hf⟩, ho, Or.inr (Or.inr ⟨hk, x, rfl, rfl, rfl, rfl⟩), h⟩
theorem wp_iaload (hy : npB y = true) {j : Int32} {r n : Nat} (hd : decode y.2.1 pc = .ok (.iaload, 1)) (hs : shk r = (100, n)) : Wp y d pc L (.int j :: .ref r :: S) M N P Q = (vp_in j n ∧ Wp y d (pc + 1) L (.int (M r j.toNatClampNeg) :: S) M N P Q) := by
  rw [Wp.step hy hd]
  apply propext
  constructor
  · intro h
    obtain ⟨j', r', n', S', -, hx, hs', hj, h⟩ := h; cases hx; rw [hs] at hs'; cases hs'; exact ⟨hj, h⟩
  · intro h
    exact ⟨j, r, n, S, rfl, rfl, hs, h.1, h.2⟩
theorem wp_saload (hy : npB y = true) {j : Int32} {r n : Nat} (hd : decode y.2.1 pc = .ok (.saload, 1)) (hs : shk r = (103, n)) : Wp y d pc L (.int j :: .ref r :: S) M N P Q = (vp_in j n ∧ Wp y d (pc + 1) L (.int (M r j.toNatClampNeg) :: S) M N P Q) := by
  rw [Wp.step hy hd]
  apply propext
  constructor
  · intro h
    obtain ⟨j', r', n', S', -, hx, hs', hj, h⟩ := h; cases hx; rw [hs] at hs'; cases hs'; exact ⟨hj, h⟩
  · intro h
    exact ⟨j, r, n, S, rfl, rfl, hs, h.1, h.2⟩
theorem wp_laload (hy : npB y = true) {j : Int32} {r n : Nat} (hd : decode y.2.1 pc = .ok (.laload, 1)) (hs : shk r = (104, n)) : Wp y d pc L (.int j :: .ref r :: S) M N P Q = (vp_in j n ∧ Wp y d (pc + 1) L (.long (N r j.toNatClampNeg) :: S) M N P Q) := by
  rw [Wp.step hy hd]
  apply propext
  constructor
  · intro h
    obtain ⟨j', r', n', S', -, hx, hs', hj, h⟩ := h; cases hx; rw [hs] at hs'; cases hs'; exact ⟨hj, h⟩
  · intro h
    exact ⟨j, r, n, S, rfl, rfl, hs, h.1, h.2⟩
theorem wp_baload (hy : npB y = true) {j : Int32} {r c n : Nat} (hd : decode y.2.1 pc = .ok (.baload, 1)) (hc : c = 101 ∨ c = 102) (hs : shk r = (c, n)) : Wp y d pc L (.int j :: .ref r :: S) M N P Q = (vp_in j n ∧ Wp y d (pc + 1) L (.int (M r j.toNatClampNeg) :: S) M N P Q) := by
  rw [Wp.step hy hd]
  apply propext
  constructor
  · intro h
    obtain ⟨j', r', c', n', S', -, hx, -, hs', hj, h⟩ := h; cases hx; rw [hs] at hs'; cases hs'; exact ⟨hj, h⟩
  · intro h
    exact ⟨j, r, c, n, S, rfl, rfl, hc, hs, h.1, h.2⟩
theorem wp_iastore (hy : npB y = true) {j : Int32} {x : Int32} {r n : Nat} (hd : decode y.2.1 pc = .ok (.iastore, 1)) (hs : shk r = (100, n)) : Wp y d pc L (.int x :: .int j :: .ref r :: S) M N P Q = (vp_in j n ∧ Wp y d (pc + 1) L S (up2 M r j.toNatClampNeg x) N P Q) := by
  rw [Wp.step hy hd]
  apply propext
  constructor
  · intro h
    obtain ⟨x', j', r', n', S', -, hx, hs', hj, h⟩ := h; cases hx; rw [hs] at hs'; cases hs'; exact ⟨hj, h⟩
  · intro h
    exact ⟨x, j, r, n, S, rfl, rfl, hs, h.1, h.2⟩
theorem wp_sastore (hy : npB y = true) {j : Int32} {x : Int32} {r n : Nat} (hd : decode y.2.1 pc = .ok (.sastore, 1)) (hs : shk r = (103, n)) : Wp y d pc L (.int x :: .int j :: .ref r :: S) M N P Q = (vp_in j n ∧ Wp y d (pc + 1) L S (up2 M r j.toNatClampNeg x.toInt16.toInt32) N P Q) := by
  rw [Wp.step hy hd]
  apply propext
  constructor
  · intro h
    obtain ⟨x', j', r', n', S', -, hx, hs', hj, h⟩ := h; cases hx; rw [hs] at hs'; cases hs'; exact ⟨hj, h⟩
  · intro h
    exact ⟨x, j, r, n, S, rfl, rfl, hs, h.1, h.2⟩
theorem wp_lastore (hy : npB y = true) {j : Int32} {x : Int64} {r n : Nat} (hd : decode y.2.1 pc = .ok (.lastore, 1)) (hs : shk r = (104, n)) : Wp y d pc L (.long x :: .int j :: .ref r :: S) M N P Q = (vp_in j n ∧ Wp y d (pc + 1) L S M (up2 N r j.toNatClampNeg x) P Q) := by
  rw [Wp.step hy hd]
  apply propext
  constructor
  · intro h
    obtain ⟨x', j', r', n', S', -, hx, hs', hj, h⟩ := h; cases hx; rw [hs] at hs'; cases hs'; exact ⟨hj, h⟩
  · intro h
    exact ⟨x, j, r, n, S, rfl, rfl, hs, h.1, h.2⟩
theorem wp_bastoreB (hy : npB y = true) {j x : Int32} {r n : Nat} (hd : decode y.2.1 pc = .ok (.bastore, 1)) (hs : shk r = (101, n)) : Wp y d pc L (.int x :: .int j :: .ref r :: S) M N P Q = (vp_in j n ∧ Wp y d (pc + 1) L S (up2 M r j.toNatClampNeg x.toInt8.toInt32) N P Q) := by
  rw [Wp.step hy hd]
  apply propext
  constructor
  · intro h
    obtain ⟨x', j', r', c', n', z', S', -, hx, hs', hz, hj, h⟩ := h; cases hx; rw [hs] at hs'; cases hs'
    rcases hz with ⟨-, rfl⟩ | ⟨e, -⟩
    · exact ⟨hj, h⟩
    · cases e
  · intro h
    exact ⟨x, j, r, 101, n, _, S, rfl, rfl, hs, Or.inl ⟨rfl, rfl⟩, h.1, h.2⟩
theorem wp_bastoreZ (hy : npB y = true) {j x : Int32} {r n : Nat} (hd : decode y.2.1 pc = .ok (.bastore, 1)) (hs : shk r = (102, n)) : Wp y d pc L (.int x :: .int j :: .ref r :: S) M N P Q = (vp_in j n ∧ Wp y d (pc + 1) L S (up2 M r j.toNatClampNeg (x &&& 1)) N P Q) := by
  rw [Wp.step hy hd]
  apply propext
  constructor
  · intro h
    obtain ⟨x', j', r', c', n', z', S', -, hx, hs', hz, hj, h⟩ := h; cases hx; rw [hs] at hs'; cases hs'
    rcases hz with ⟨e, -⟩ | ⟨-, rfl⟩
    · cases e
    · exact ⟨hj, h⟩
  · intro h
    exact ⟨x, j, r, 102, n, _, S, rfl, rfl, hs, Or.inr ⟨rfl, rfl⟩, h.1, h.2⟩
theorem wp_arraylength (hy : npB y = true) {r c n : Nat} (hd : decode y.2.1 pc = .ok (.arraylength, 1)) (hs : shk r = (c, n)) (h1 : 100 ≤ c) (h2 : c ≤ 104) : Wp y d pc L (.ref r :: S) M N P Q = (Wp y d (pc + 1) L (.int (Int32.ofNat n) :: S) M N P Q) := by
  rw [Wp.step hy hd]
  apply propext
  constructor
  · intro h
    obtain ⟨r', c', n', S', -, hx, hs', -, -, h⟩ := h; cases hx; rw [hs] at hs'; cases hs'; exact h
  · intro h
    exact ⟨r, c, n, S, rfl, rfl, hs, h1, h2, h⟩
theorem wp_callV (hy : npB y = true) {y' : Yt} {idx r : Nat} {As L' : List Value} (hd : decode y.2.1 pc = .ok (.invokevirtual idx, 3)) (hn : y.1.cls = clsN y.2.2.2.2) (hv : vT y.2.2.2.2 idx = some y') (hr : recvOk r y'.1.cls) (hna : nargs y' As.length) (ha : argsOk y' (.ref r :: As)) (hL : padL y'.2.2.1 (entL (.ref r :: As)) = L') (hS : stk S ≤ 8) : Wp y (d + 1) pc L (As.reverse ++ .ref r :: S) M N P Q = Wp y' d 0 L' [] M N P (fun v M' N' P' => Wp y (d + 1) (pc + 3) L (v.toList ++ S) M' N' P' Q) := by
  rw [Wp.step hy hd]
  apply propext
  constructor
  · rintro ⟨y2, r2, As2, S2, -, hx, hn2, -, ⟨-, hv2, -⟩, -, d2, e, h⟩
    rw [hv] at hv2
    cases hv2
    cases e
    have hl : As2.length = As.length := Option.some.inj (hn2.symm.trans hna)
    obtain ⟨e1, e2⟩ := List.append_inj hx (by simp [hl])
    cases e2
    rw [List.reverse_inj] at e1
    subst e1
    rw [hL] at h
    exact h
  · intro h
    exact ⟨y', r, As, S, rfl, rfl, hna, ha, ⟨hn, hv, hr⟩, hS, d, rfl, by rw [hL]; exact h⟩
theorem wp_callS (hy : npB y = true) {y' : Yt} {idx : Nat} {As L' : List Value} (hd : decode y.2.1 pc = .ok (.invokestatic idx, 3)) (hn : y.1.cls = clsN y.2.2.2.2) (hv : sT y.2.2.2.2 idx = some y') (hna : nargs y' As.length) (ha : argsOk y' As) (hL : padL y'.2.2.1 (entL As) = L') (hS : stk S ≤ 8) : Wp y (d + 1) pc L (As.reverse ++ S) M N P Q = Wp y' d 0 L' [] M N P (fun v M' N' P' => Wp y (d + 1) (pc + 3) L (v.toList ++ S) M' N' P' Q) := by
  rw [Wp.step hy hd]
  apply propext
  constructor
  · rintro (⟨x, z, S2, -, -, -, e7, rfl, -⟩ | ⟨x, z, S2, -, -, -, e7, rfl, -⟩ | ⟨y2, As2, S2, -, hx, hn2, -, ⟨-, hv2⟩, -, d2, e, h⟩)
    · rw [e7, show sT 7 45 = none from rfl] at hv; cases hv
    · rw [e7, show sT 11 288 = none from rfl] at hv; cases hv
    · rw [hv] at hv2
      cases hv2
      cases e
      have hl : As2.length = As.length := Option.some.inj (hn2.symm.trans hna)
      obtain ⟨e1, e2⟩ := List.append_inj hx (by simp [hl])
      cases e2
      rw [List.reverse_inj] at e1
      subst e1
      rw [hL] at h
      exact h
  · intro h
    exact Or.inr (Or.inr ⟨y', As, S, rfl, rfl, hna, ha, ⟨hn, hv⟩, hS, d, rfl, by rw [hL]; exact h⟩)
theorem wp_imax (hy : npB y = true) {x z : Int32} (hd : decode y.2.1 pc = .ok (.invokestatic 45, 3)) (hc : y.1.cls = RX7) (hk : y.2.2.2.2 = 7) (hS : stk S ≤ 8) : Wp y (d + 1) pc L (.int z :: .int x :: S) M N P Q = Wp y (d + 1) (pc + 3) L (.int (if x < z then z else x) :: S) M N P Q := by
  rw [Wp.step hy hd]
  apply propext
  constructor
  · rintro (⟨x, z, S2, -, e, -, -, -, -, -, h⟩ | ⟨x, z, S2, -, e, -⟩ | ⟨y2, As2, S2, -, hx, hn2, -, ⟨-, hv2⟩, -⟩)
    · cases e; exact h
    · cases e
    · rw [hk, show sT 7 45 = none from rfl] at hv2; cases hv2
  · intro h
    exact Or.inl ⟨x, z, S, rfl, rfl, hc, hk, rfl, hS, by omega, h⟩
theorem wp_lmin (hy : npB y = true) {x z : Int64} (hd : decode y.2.1 pc = .ok (.invokestatic 288, 3)) (hc : y.1.cls = RX11) (hk : y.2.2.2.2 = 11) (hS : stk S ≤ 8) : Wp y (d + 1) pc L (.long z :: .long x :: S) M N P Q = Wp y (d + 1) (pc + 3) L (.long (if z < x then z else x) :: S) M N P Q := by
  rw [Wp.step hy hd]
  apply propext
  constructor
  · rintro (⟨x, z, S2, -, e, -⟩ | ⟨x, z, S2, -, e, -, -, -, -, -, h⟩ | ⟨y2, As2, S2, -, hx, hn2, -, ⟨-, hv2⟩, -⟩)
    · cases e
    · cases e; exact h
    · rw [hk, show sT 11 288 = none from rfl] at hv2; cases hv2
  · intro h
    exact Or.inr (Or.inl ⟨x, z, S, rfl, rfl, hc, hk, rfl, hS, by omega, h⟩)
theorem wp_iret (hy : npB y = true) {x : Int32} {ty : FieldType} (hd : decode y.2.1 pc = .ok (.ireturn, 1)) (hr : y.2.2.2.1 = some ty) (hx : narrow ty (.int x) = .int x) : Wp y d pc L [.int x] M N P Q = (Q (some (.int x)) M N P) := by
  rw [Wp.step hy hd]
  apply propext
  constructor
  · intro h
    obtain ⟨x', ty', -, e, -, -, h⟩ := h; cases e; exact h
  · intro h
    exact ⟨x, ty, rfl, rfl, hr, hx, h⟩
theorem wp_lret (hy : npB y = true) {x : Int64} (hd : decode y.2.1 pc = .ok (.lreturn, 1)) (hr : y.2.2.2.1 = some .long) : Wp y d pc L [.long x] M N P Q = (Q (some (.long x)) M N P) := by
  rw [Wp.step hy hd]
  apply propext
  constructor
  · intro h
    obtain ⟨x', -, e, -, h⟩ := h; cases e; exact h
  · intro h
    exact ⟨x, rfl, rfl, hr, h⟩
theorem wp_vret (hy : npB y = true) (hd : decode y.2.1 pc = .ok (.return_, 1)) (hr : y.2.2.2.1 = none) : Wp y d pc L [] M N P Q = (Q none M N P) := by
  rw [Wp.step hy hd]
  apply propext
  constructor
  · intro h
    obtain ⟨-, -, -, h⟩ := h; exact h
  · intro h
    exact ⟨rfl, rfl, hr, h⟩
end WR
