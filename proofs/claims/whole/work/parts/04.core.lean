/-! The abstract machine: places for addresses; M the ints, N the longs, P the references of every place's slots. -/
abbrev Yt : Type := MethodName × ByteArray × Nat × Option FieldType
abbrev Mt : Type := Nat → Nat → Int32
abbrev Nt : Type := Nat → Nat → Int64
abbrev Pt' : Type := Nat → Nat → Nat
abbrev Qt : Type := Option Value → Mt → Nt → Pt' → Prop
def GW : List Cond := lw_tbl.filter goodWord
def inT (w : Cond) : Prop := w ∈ GW
def sh0 : List (Nat × Nat) := [(11, 0), (5, 0), (6, 0), (1, 0), (3, 0), (10, 0), (0, 0), (8, 0), (9, 0), (4, 0), (7, 0), (2, 0), (2, 0), (100, 100), (100, 24), (100, 24), (100, 24), (100, 24), (102, 24), (104, 24), (100, 8), (100, 8), (100, 60), (100, 60), (100, 60), (100, 60), (100, 60), (100, 60), (100, 60), (100, 60), (100, 60), (100, 30), (100, 9), (101, 600), (101, 601), (103, 601), (100, 601), (100, 64), (100, 8), (100, 256), (100, 600), (100, 16), (100, 16), (100, 16), (100, 32), (100, 600), (100, 16), (100, 16), (100, 16), (100, 32), (12, 0), (100, 24), (100, 24), (100, 24), (100, 8), (100, 8), (100, 100), (100, 60), (100, 60), (100, 60), (100, 60), (100, 60), (100, 60), (100, 60), (100, 60), (100, 60), (102, 60), (101, 620), (101, 600), (100, 2), (100, 32), (100, 32), (100, 32), (100, 32), (100, 1200), (100, 1200), (100, 60), (100, 100), (100, 9), (100, 30), (104, 24), (104, 24), (102, 24), (100, 64), (100, 2304)]
def shk (o : Nat) : Nat × Nat := sh0.getD o (999, 0)
def kt0 : List (List Nat) := [[1, 1, 0], [1, 1, 0], [1, 1, 1, 1, 1, 0, 0], [1, 1, 1, 1, 1, 1, 1, 1, 1, 0], [1, 1, 0, 0, 0, 0, 0, 0], [1, 1, 1, 0], [1, 1, 1, 1, 2], [1, 1, 1, 0, 0, 0], [1, 0], [1, 1, 1, 0], [1, 1, 0, 0, 0, 0], [1, 1, 1, 1, 1, 1, 1, 1, 1, 1, 1, 1, 0], [1, 1, 1, 1, 1, 1, 0, 0, 0, 1, 1, 1, 1, 1, 1, 1, 1, 1, 1, 0, 0, 1, 1, 0, 0, 0, 0, 0, 0, 0, 0, 2, 1, 1, 1, 1, 1, 1, 1, 0, 0, 0, 0, 1, 0, 0, 1, 1, 1, 0, 1, 1, 1, 1, 1, 0]]
def fknd (c k : Nat) : Nat := (kt0.getD c []).getD k 0
def up2 {α : Type} (M : Nat → Nat → α) (o k : Nat) (x : α) : Nat → Nat → α := fun o' => if o' = o then fun k' => if k' = k then x else M o k' else M o'
def fval (q o k : Nat) (M : Mt) (N : Nt) (P : Pt') : Value := if q = 2 then .long (N o k) else if q = 1 then .ref (P o k) else .int (M o k)
def putv (q o k : Nat) (v : Value) (M : Mt) (N : Nt) (P : Pt') (M' : Mt) (N' : Nt) (P' : Pt') : Prop :=
  (q = 0 ∧ ∃ x, v = .int x ∧ M' = up2 M o k x ∧ N' = N ∧ P' = P) ∨ (q = 1 ∧ ∃ r, v = .ref r ∧ M' = M ∧ N' = N ∧ P' = up2 P o k r) ∨ (q = 2 ∧ ∃ x, v = .long x ∧ M' = M ∧ N' = up2 N o k x ∧ P' = P)
/-- a store at i doesn't cut a long that stands before it -/
def okst (L : List Value) (i : Nat) : Bool := match i with
  | 0 => true
  | j + 1 => match L[j]? with
    | some (.long _) => false
    | some (.double _) => false
    | _ => true
def stk : List Value → Nat
  | [] => 0
  | v :: r => v.category + stk r
def strB : Nat → List Nat := fun i => match i with
  | 0 => [59, 40, 41, 60, 62, 61, 43, 45]
  | 1 => [102, 111, 114, 99, 101, 100, 32, 32, 103, 105, 118, 101, 110, 32, 32, 32, 112, 114, 105, 99, 101, 32, 32, 32, 119, 111, 114, 116, 104, 32, 32, 32, 121, 101, 97, 114, 32, 32, 32, 32, 104, 101, 108, 100, 32, 32, 32, 32, 104, 97, 110, 100, 115, 32, 32, 32, 108, 105, 118, 101, 115, 32, 32, 32, 100, 101, 97, 100, 32, 32, 32, 32]
  | 2 => [119, 104, 101, 110, 32, 32, 32, 32, 100, 111, 32, 32, 32, 32, 32, 32, 98, 97, 99, 107, 32, 32, 32, 32, 111, 116, 104, 101, 114, 32, 32, 32, 109, 111, 110, 101, 121, 32, 32, 32, 110, 111, 110, 101, 32, 32, 32, 32, 111, 114, 32, 32, 32, 32, 32, 32, 97, 110, 100, 32, 32, 32, 32, 32, 110, 111, 116, 32, 32, 32, 32, 32]
  | _ => []
/-- which text constant an ldc names -/
def strK (own : String) (idx i : Nat) : Prop := own = RX9 ∧ ((idx = 53 ∧ i = 0) ∨ (idx = 61 ∧ i = 1) ∨ (idx = 67 ∧ i = 2))
def strOf (ch : Nat) : List Nat → Nat → Int32
  | [], _ => -1
  | b :: r, k => if b = ch then nI k else strOf ch r (k + 1)
/-- what String's own methods answer on the text constants -/
def primR (y : Yt) (L : List Value) (r : Value) : Prop :=
  (y = (yJ0_charAt_5068e, cJ0_charAt_5068e, 2, some .char) ∧ ∃ i j b, L = [.ref (200 + i), .int (nI j)] ∧ i < 3 ∧ (strB i)[j]? = some b ∧ r = .int (nI b)) ∨
  (y = (yJ0_length_8abf5, cJ0_length_8abf5, 1, some .int) ∧ ∃ i, L = [.ref (200 + i)] ∧ i < 3 ∧ r = .int (nI (strB i).length)) ∨
  (y = (yJ0_indexOf_0f7a4, cJ0_indexOf_0f7a4, 2, some .int) ∧ ∃ i j, L = [.ref (200 + i), .int (nI j)] ∧ i < 3 ∧ j < 128 ∧ r = .int (strOf j (strB i) 0))
def entL : List Value → List Value
  | [] => []
  | .long v :: r => .long v :: .float 0 :: entL r
  | v :: r => v :: entL r
def padL (n : Nat) (l : List Value) : List Value := l ++ List.replicate (n - l.length) (.float 0)
def nargs (y : Yt) (n : Nat) : Prop := (parseMethodDescriptor y.1.desc).map (fun d => d.parameters.length) = some n
def okv : Value → Bool
  | .int _ => true
  | .long _ => true
  | .ref _ => true
  | _ => false
def argsOk (y : Yt) (As : List Value) : Prop := As.all okv = true ∧ (entL As).length ≤ y.2.2.1 ∧ y.2.2.1 ≤ 40
def notH (y : Yt) : Prop := (y.1.cls ≠ "java/lang/invoke/MethodHandle" ∧ y.1.cls ≠ "java/lang/invoke/VarHandle") ∧ plainName y.1.cls = true
/-- the receiver is of the callee's own kind -/
def recvOk (o : Nat) (C : String) : Prop := (∃ c T n, shk o = (c, 0) ∧ vwCl[c]? = some (C, T, n)) ∨ (∃ i, i < 3 ∧ o = 200 + i ∧ C = "java/lang/String")
def linkV (y : Yt) (idx : Nat) (y' : Yt) (o : Nat) : Prop := inT (.methodLink y.1.cls idx y'.1) ∧ inT (.instanceMethod y'.1) ∧ inT (.selects y'.1.cls y'.1 y'.1) ∧ inT (.initialized y'.1.cls) ∧ inT (.code y'.1 y'.2.1 y'.2.2.1 y'.2.2.2) ∧ notH y' ∧ recvOk o y'.1.cls
def linkS (y : Yt) (idx : Nat) (y' : Yt) : Prop := (inT (.methodLink y.1.cls idx y'.1) ∨ (y.1.cls = RX2 ∧ idx = 40 ∧ y'.1 = yX11_truth)) ∧ inT (.static y'.1) ∧ inT (.initialized y'.1.cls) ∧ inT (.code y'.1 y'.2.1 y'.2.2.1 y'.2.2.2) ∧ notH y'
def fldOk (y : Yt) (idx o c k : Nat) : Prop := ∃ C T n, shk o = (c, 0) ∧ vwCl[c]? = some (C, T, n) ∧ k < n ∧ inT (.fieldLink y.1.cls idx (T k).1 (T k).2.1 (T k).2.2.1)
def putOk (y : Yt) (idx o c k : Nat) (v : Value) : Prop := ∃ C T n ty, shk o = (c, 0) ∧ vwCl[c]? = some (C, T, n) ∧ k < n ∧ inT (.fieldLink y.1.cls idx (T k).1 (T k).2.1 (T k).2.2.1) ∧ (T k).2.2.2 = false ∧ parseFieldDescriptor (T k).2.2.1 = some ty ∧ narrow ty v = v ∧ fits ty v = true
def arrc (c : Nat) (x : Int32) (z : Int32) : Prop := (c = 101 ∧ z = x.toInt8.toInt32) ∨ (c = 102 ∧ z = x &&& 1)
/-- one instruction: K goes on, C calls, R returns -/
def onei (i : Instr) (len : Nat) (y : Yt) (pc : Nat) (L S : List Value) (M : Mt) (N : Nt) (P : Pt')
    (K : Nat → List Value → List Value → Mt → Nt → Pt' → Prop) (C : Yt → List Value → Qt → Prop) (R : Option Value → Prop) : Prop :=
  match i with
  | .iconst n => len = 1 ∧ K (pc + 1) L (.int (Int32.ofInt n) :: S) M N P
  | .bipush n => len = 2 ∧ K (pc + 2) L (.int ((Int8.ofInt n).toInt32) :: S) M N P
  | .sipush n => len = 3 ∧ K (pc + 3) L (.int ((Int16.ofInt n).toInt32) :: S) M N P
  | .lconst n => len = 1 ∧ K (pc + 1) L (.long (Int64.ofNat (n : Nat)) :: S) M N P
  | .iload_n k => ∃ x, len = 1 ∧ L[(k : Nat)]? = some (.int x) ∧ K (pc + 1) L (.int x :: S) M N P
  | .iload k => ∃ x, len = 2 ∧ L[k]? = some (.int x) ∧ K (pc + 2) L (.int x :: S) M N P
  | .lload_n k => ∃ x, len = 1 ∧ L[(k : Nat)]? = some (.long x) ∧ K (pc + 1) L (.long x :: S) M N P
  | .lload k => ∃ x, len = 2 ∧ L[k]? = some (.long x) ∧ K (pc + 2) L (.long x :: S) M N P
  | .aload_n k => ∃ x, len = 1 ∧ L[(k : Nat)]? = some (.ref x) ∧ K (pc + 1) L (.ref x :: S) M N P
  | .aload k => ∃ x, len = 2 ∧ L[k]? = some (.ref x) ∧ K (pc + 2) L (.ref x :: S) M N P
  | .istore_n k => ∃ x S', len = 1 ∧ S = .int x :: S' ∧ (k : Nat) < L.length ∧ okst L k = true ∧ K (pc + 1) (L.set k (.int x)) S' M N P
  | .istore k => ∃ x S', len = 2 ∧ S = .int x :: S' ∧ k < L.length ∧ okst L k = true ∧ K (pc + 2) (L.set k (.int x)) S' M N P
  | .astore_n k => ∃ x S', len = 1 ∧ S = .ref x :: S' ∧ (k : Nat) < L.length ∧ okst L k = true ∧ K (pc + 1) (L.set k (.ref x)) S' M N P
  | .astore k => ∃ x S', len = 2 ∧ S = .ref x :: S' ∧ k < L.length ∧ okst L k = true ∧ K (pc + 2) (L.set k (.ref x)) S' M N P
  | .lstore_n k => ∃ x S', len = 1 ∧ S = .long x :: S' ∧ (k : Nat) + 1 < L.length ∧ okst L k = true ∧ K (pc + 1) ((L.set k (.long x)).set (k + 1) (.float 0)) S' M N P
  | .lstore k => ∃ x S', len = 2 ∧ S = .long x :: S' ∧ k + 1 < L.length ∧ okst L k = true ∧ K (pc + 2) ((L.set k (.long x)).set (k + 1) (.float 0)) S' M N P
  | .iinc k n => ∃ x, len = 3 ∧ L[k]? = some (.int x) ∧ okst L k = true ∧ K (pc + 3) (L.set k (.int (x + Int32.ofInt n))) S M N P
  | .iadd => ∃ x z S', len = 1 ∧ S = .int z :: .int x :: S' ∧ K (pc + 1) L (.int (x + z) :: S') M N P
  | .isub => ∃ x z S', len = 1 ∧ S = .int z :: .int x :: S' ∧ K (pc + 1) L (.int (x - z) :: S') M N P
  | .imul => ∃ x z S', len = 1 ∧ S = .int z :: .int x :: S' ∧ K (pc + 1) L (.int (x * z) :: S') M N P
  | .iand => ∃ x z S', len = 1 ∧ S = .int z :: .int x :: S' ∧ K (pc + 1) L (.int (x &&& z) :: S') M N P
  | .ior => ∃ x z S', len = 1 ∧ S = .int z :: .int x :: S' ∧ K (pc + 1) L (.int (x ||| z) :: S') M N P
  | .idiv => ∃ x z S', len = 1 ∧ S = .int z :: .int x :: S' ∧ ¬ z = 0 ∧ K (pc + 1) L (.int (x / z) :: S') M N P
  | .irem => ∃ x z S', len = 1 ∧ S = .int z :: .int x :: S' ∧ ¬ z = 0 ∧ K (pc + 1) L (.int (x - x / z * z) :: S') M N P
  | .ishl => ∃ x z S', len = 1 ∧ S = .int z :: .int x :: S' ∧ K (pc + 1) L (.int (x <<< (z &&& 31)) :: S') M N P
  | .ishr => ∃ x z S', len = 1 ∧ S = .int z :: .int x :: S' ∧ K (pc + 1) L (.int (x >>> (z &&& 31)) :: S') M N P
  | .iushr => ∃ x z S', len = 1 ∧ S = .int z :: .int x :: S' ∧ K (pc + 1) L (.int ((x.toUInt32 >>> (z.toUInt32 &&& Int32.toUInt32 31)).toInt32) :: S') M N P
  | .ladd => ∃ x z S', len = 1 ∧ S = .long z :: .long x :: S' ∧ K (pc + 1) L (.long (x + z) :: S') M N P
  | .lsub => ∃ x z S', len = 1 ∧ S = .long z :: .long x :: S' ∧ K (pc + 1) L (.long (x - z) :: S') M N P
  | .lmul => ∃ x z S', len = 1 ∧ S = .long z :: .long x :: S' ∧ K (pc + 1) L (.long (x * z) :: S') M N P
  | .lor => ∃ x z S', len = 1 ∧ S = .long z :: .long x :: S' ∧ K (pc + 1) L (.long (x ||| z) :: S') M N P
  | .ldiv => ∃ x z S', len = 1 ∧ S = .long z :: .long x :: S' ∧ ¬ z = 0 ∧ K (pc + 1) L (.long (x / z) :: S') M N P
  | .lrem => ∃ x z S', len = 1 ∧ S = .long z :: .long x :: S' ∧ ¬ z = 0 ∧ K (pc + 1) L (.long (x - x / z * z) :: S') M N P
  | .lshl => ∃ x z S', len = 1 ∧ S = .int z :: .long x :: S' ∧ K (pc + 1) L (.long (x <<< (z.toInt64 &&& 63)) :: S') M N P
  | .lcmp => ∃ x z S', len = 1 ∧ S = .long z :: .long x :: S' ∧ K (pc + 1) L (.int (lg_cmp x z) :: S') M N P
  | .i2l => ∃ x S', len = 1 ∧ S = .int x :: S' ∧ K (pc + 1) L (.long x.toInt64 :: S') M N P
  | .l2i => ∃ x S', len = 1 ∧ S = .long x :: S' ∧ K (pc + 1) L (.int x.toInt32 :: S') M N P
  | .i2b => ∃ x S', len = 1 ∧ S = .int x :: S' ∧ K (pc + 1) L (.int x.toInt8.toInt32 :: S') M N P
  | .i2s => ∃ x S', len = 1 ∧ S = .int x :: S' ∧ K (pc + 1) L (.int x.toInt16.toInt32 :: S') M N P
  | .i2c => ∃ x S', len = 1 ∧ S = .int x :: S' ∧ K (pc + 1) L (.int (x.toUInt32 % 65536).toInt32 :: S') M N P
  | .dup => ∃ v S', len = 1 ∧ S = v :: S' ∧ v.category = 1 ∧ K (pc + 1) L (v :: v :: S') M N P
  | .dup2 => ∃ v u S', len = 1 ∧ S = v :: u :: S' ∧ v.category = 1 ∧ u.category = 1 ∧ K (pc + 1) L (v :: u :: v :: u :: S') M N P
  | .pop => ∃ v S', len = 1 ∧ S = v :: S' ∧ v.category = 1 ∧ K (pc + 1) L S' M N P
  | .ifCond .eq off => ∃ x S' t, len = 3 ∧ S = .int x :: S' ∧ (pc : Int) + off = ((t : Nat) : Int) ∧ K (if x = 0 then t else pc + 3) L S' M N P
  | .ifCond .ne off => ∃ x S' t, len = 3 ∧ S = .int x :: S' ∧ (pc : Int) + off = ((t : Nat) : Int) ∧ K (if x = 0 then pc + 3 else t) L S' M N P
  | .ifCond .lt off => ∃ x S' t, len = 3 ∧ S = .int x :: S' ∧ (pc : Int) + off = ((t : Nat) : Int) ∧ K (if x < 0 then t else pc + 3) L S' M N P
  | .ifCond .ge off => ∃ x S' t, len = 3 ∧ S = .int x :: S' ∧ (pc : Int) + off = ((t : Nat) : Int) ∧ K (if 0 ≤ x then t else pc + 3) L S' M N P
  | .ifCond .gt off => ∃ x S' t, len = 3 ∧ S = .int x :: S' ∧ (pc : Int) + off = ((t : Nat) : Int) ∧ K (if 0 < x then t else pc + 3) L S' M N P
  | .ifCond .le off => ∃ x S' t, len = 3 ∧ S = .int x :: S' ∧ (pc : Int) + off = ((t : Nat) : Int) ∧ K (if x ≤ 0 then t else pc + 3) L S' M N P
  | .if_icmp .eq off => ∃ x z S' t, len = 3 ∧ S = .int z :: .int x :: S' ∧ (pc : Int) + off = ((t : Nat) : Int) ∧ K (if x = z then t else pc + 3) L S' M N P
  | .if_icmp .ne off => ∃ x z S' t, len = 3 ∧ S = .int z :: .int x :: S' ∧ (pc : Int) + off = ((t : Nat) : Int) ∧ K (if x = z then pc + 3 else t) L S' M N P
  | .if_icmp .lt off => ∃ x z S' t, len = 3 ∧ S = .int z :: .int x :: S' ∧ (pc : Int) + off = ((t : Nat) : Int) ∧ K (if x < z then t else pc + 3) L S' M N P
  | .if_icmp .ge off => ∃ x z S' t, len = 3 ∧ S = .int z :: .int x :: S' ∧ (pc : Int) + off = ((t : Nat) : Int) ∧ K (if z ≤ x then t else pc + 3) L S' M N P
  | .if_icmp .gt off => ∃ x z S' t, len = 3 ∧ S = .int z :: .int x :: S' ∧ (pc : Int) + off = ((t : Nat) : Int) ∧ K (if z < x then t else pc + 3) L S' M N P
  | .if_icmp .le off => ∃ x z S' t, len = 3 ∧ S = .int z :: .int x :: S' ∧ (pc : Int) + off = ((t : Nat) : Int) ∧ K (if x ≤ z then t else pc + 3) L S' M N P
  | .goto off => ∃ t, len = 3 ∧ (pc : Int) + off = ((t : Nat) : Int) ∧ K t L S M N P
  | .tableswitch dflt lo hi offs => ∃ x S' t, S = .int x :: S' ∧ (((x.toInt < lo ∨ hi < x.toInt) ∧ (pc : Int) + dflt = ((t : Nat) : Int)) ∨ (¬ x.toInt < lo ∧ ¬ hi < x.toInt ∧ ∃ off, offs[(x.toInt - lo).toNat]? = some off ∧ (pc : Int) + off = ((t : Nat) : Int))) ∧ K t L S' M N P
  | .lookupswitch dflt ps => ∃ x S' t, S = .int x :: S' ∧ (ps.toList.zip (ps.toList.drop 1)).all (fun (a, next) => a.1 < next.1) = true ∧ (pc : Int) + Op.lookupswitch.offset ps.toList dflt x.toInt = ((t : Nat) : Int) ∧ K t L S' M N P
  | .ldc idx => ∃ v, len = 2 ∧ ((∃ x, inT (.constant y.1.cls idx x) ∧ v = .int x) ∨ (∃ i, strK y.1.cls idx i ∧ v = .ref (200 + i))) ∧ K (pc + 2) L (v :: S) M N P
  | .ldc_w idx => ∃ x, len = 3 ∧ inT (.constant y.1.cls idx x) ∧ K (pc + 3) L (.int x :: S) M N P
  | .ldc2_w idx => ∃ x, len = 3 ∧ inT (.constantLong y.1.cls idx x) ∧ K (pc + 3) L (.long x :: S) M N P
  | .getfield idx => ∃ r c k S', len = 3 ∧ S = .ref r :: S' ∧ fldOk y idx r c k ∧ K (pc + 3) L (fval (fknd c k) r k M N P :: S') M N P
  | .putfield idx => ∃ r c k v S' M' N' P', len = 3 ∧ S = v :: .ref r :: S' ∧ putOk y idx r c k v ∧ putv (fknd c k) r k v M N P M' N' P' ∧ K (pc + 3) L S' M' N' P'
  | .iaload => ∃ j r n S', len = 1 ∧ S = .int j :: .ref r :: S' ∧ shk r = (100, n) ∧ vp_in j n ∧ K (pc + 1) L (.int (M r j.toNatClampNeg) :: S') M N P
  | .saload => ∃ j r n S', len = 1 ∧ S = .int j :: .ref r :: S' ∧ shk r = (103, n) ∧ vp_in j n ∧ K (pc + 1) L (.int (M r j.toNatClampNeg) :: S') M N P
  | .baload => ∃ j r c n S', len = 1 ∧ S = .int j :: .ref r :: S' ∧ (c = 101 ∨ c = 102) ∧ shk r = (c, n) ∧ vp_in j n ∧ K (pc + 1) L (.int (M r j.toNatClampNeg) :: S') M N P
  | .laload => ∃ j r n S', len = 1 ∧ S = .int j :: .ref r :: S' ∧ shk r = (104, n) ∧ vp_in j n ∧ K (pc + 1) L (.long (N r j.toNatClampNeg) :: S') M N P
  | .iastore => ∃ x j r n S', len = 1 ∧ S = .int x :: .int j :: .ref r :: S' ∧ shk r = (100, n) ∧ vp_in j n ∧ K (pc + 1) L S' (up2 M r j.toNatClampNeg x) N P
  | .sastore => ∃ x j r n S', len = 1 ∧ S = .int x :: .int j :: .ref r :: S' ∧ shk r = (103, n) ∧ vp_in j n ∧ K (pc + 1) L S' (up2 M r j.toNatClampNeg x.toInt16.toInt32) N P
  | .bastore => ∃ x j r c n z S', len = 1 ∧ S = .int x :: .int j :: .ref r :: S' ∧ shk r = (c, n) ∧ arrc c x z ∧ vp_in j n ∧ K (pc + 1) L S' (up2 M r j.toNatClampNeg z) N P
  | .lastore => ∃ x j r n S', len = 1 ∧ S = .long x :: .int j :: .ref r :: S' ∧ shk r = (104, n) ∧ vp_in j n ∧ K (pc + 1) L S' M (up2 N r j.toNatClampNeg x) P
  | .arraylength => ∃ r c n S', len = 1 ∧ S = .ref r :: S' ∧ shk r = (c, n) ∧ 100 ≤ c ∧ c ≤ 104 ∧ K (pc + 1) L (.int (Int32.ofNat n) :: S') M N P
  | .invokevirtual idx => ∃ y' r As S', len = 3 ∧ S = As.reverse ++ .ref r :: S' ∧ nargs y' As.length ∧ argsOk y' (.ref r :: As) ∧ linkV y idx y' r ∧ stk S' ≤ 8 ∧ C y' (.ref r :: As) (fun v M' N' P' => K (pc + 3) L (v.toList ++ S') M' N' P')
  | .invokestatic idx => ∃ y' As S', len = 3 ∧ S = As.reverse ++ S' ∧ nargs y' As.length ∧ argsOk y' As ∧ linkS y idx y' ∧ stk S' ≤ 8 ∧ C y' As (fun v M' N' P' => K (pc + 3) L (v.toList ++ S') M' N' P')
  | .ireturn => ∃ x ty, len = 1 ∧ S = [.int x] ∧ y.2.2.2 = some ty ∧ narrow ty (.int x) = .int x ∧ R (some (.int x))
  | .lreturn => ∃ x, len = 1 ∧ S = [.long x] ∧ y.2.2.2 = some .long ∧ R (some (.long x))
  | .return_ => len = 1 ∧ S = [] ∧ y.2.2.2 = none ∧ R none
  | _ => False
/-- one instruction of a method, or the answer of one of String's own -/
def onew (Z : Yt → Nat → Nat → List Value → List Value → Mt → Nt → Pt' → Qt → Prop) (y : Yt) (d pc : Nat) (L S : List Value) (M : Mt) (N : Nt) (P : Pt') (Q : Qt) : Prop :=
  (∃ i len, decode y.2.1 pc = .ok (i, len) ∧ onei i len y pc L S M N P (fun pc' L' S' M' N' P' => Z y d pc' L' S' M' N' P' Q) (fun y' As k => ∃ d', d = d' + 1 ∧ Z y' d' 0 (padL y'.2.2.1 (entL As)) [] M N P k) (fun v => Q v M N P)) ∨
  (∃ r, pc = 0 ∧ S = [] ∧ 5 ≤ d ∧ primR y L r ∧ Q (some r) M N P)
/-- the least relation that is closed under it: the method comes to its end with Q -/
def Wp (y : Yt) (d pc : Nat) (L S : List Value) (M : Mt) (N : Nt) (P : Pt') (Q : Qt) : Prop :=
  ∀ Z : Yt → Nat → Nat → List Value → List Value → Mt → Nt → Pt' → Qt → Prop, (∀ y d pc L S M N P Q, onew Z y d pc L S M N P Q → Z y d pc L S M N P Q) → Z y d pc L S M N P Q
set_option maxHeartbeats 4000000 in
theorem onei_mono {i : Instr} {len : Nat} {y : Yt} {pc : Nat} {L S : List Value} {M : Mt} {N : Nt} {P : Pt'} {K K' : Nat → List Value → List Value → Mt → Nt → Pt' → Prop} {C C' : Yt → List Value → Qt → Prop} {R R' : Option Value → Prop}
    (hK : ∀ a b c d e f, K a b c d e f → K' a b c d e f) (hC : ∀ y As (k k' : Qt), (∀ v M N P, k v M N P → k' v M N P) → C y As k → C' y As k') (hR : ∀ v, R v → R' v) (h : onei i len y pc L S M N P K C R) : onei i len y pc L S M N P K' C' R' := by
  unfold onei at h ⊢
  split at h <;> (try dsimp only at h) <;> (try dsimp only) <;> first
    | exact h.elim
    | (repeat (first | exact hK _ _ _ _ _ _ h | exact hR _ h | exact hC _ _ _ _ (fun _ _ _ _ q => hK _ _ _ _ _ _ q) h | (obtain ⟨u, h⟩ := h; refine ⟨u, ?_⟩)))
theorem onew_mono {Z Z' : Yt → Nat → Nat → List Value → List Value → Mt → Nt → Pt' → Qt → Prop} (hZ : ∀ y d pc L S M N P (Q Q' : Qt), (∀ v M N P, Q v M N P → Q' v M N P) → Z y d pc L S M N P Q → Z' y d pc L S M N P Q') {y : Yt} {d pc : Nat} {L S : List Value} {M : Mt} {N : Nt} {P : Pt'} {Q Q' : Qt} (hQ : ∀ v M N P, Q v M N P → Q' v M N P) (h : onew Z y d pc L S M N P Q) : onew Z' y d pc L S M N P Q' := by
  rcases h with ⟨i, len, hd, h⟩ | ⟨r, h1, h2, h3, h4, h5⟩
  · exact Or.inl ⟨i, len, hd, onei_mono (fun _ _ _ _ _ _ q => hZ _ _ _ _ _ _ _ _ _ _ hQ q) (fun _ _ _ _ hk ⟨d', e, q⟩ => ⟨d', e, hZ _ _ _ _ _ _ _ _ _ _ hk q⟩) (fun _ q => hQ _ _ _ _ q) h⟩
  · exact Or.inr ⟨r, h1, h2, h3, h4, hQ _ _ _ _ h5⟩
theorem Wp.cons {y : Yt} {d pc : Nat} {L S : List Value} {M : Mt} {N : Nt} {P : Pt'} {Q Q' : Qt} (h : Wp y d pc L S M N P Q) (hQ : ∀ v M N P, Q v M N P → Q' v M N P) : Wp y d pc L S M N P Q' := by
  intro Z hZ
  exact h (fun y d pc L S M N P Q => ∀ Q', (∀ v M N P, Q v M N P → Q' v M N P) → Z y d pc L S M N P Q') (fun y d pc L S M N P Q h Q' hQ => hZ _ _ _ _ _ _ _ _ _ (onew_mono (fun _ _ _ _ _ _ _ _ _ _ hq z => z _ hq) hQ h)) Q' hQ
theorem Wp.fold {y : Yt} {d pc : Nat} {L S : List Value} {M : Mt} {N : Nt} {P : Pt'} {Q : Qt} (h : onew Wp y d pc L S M N P Q) : Wp y d pc L S M N P Q := by
  intro Z hZ
  exact hZ _ _ _ _ _ _ _ _ _ (onew_mono (fun _ _ _ _ _ _ _ _ _ _ hq z => z.cons hq Z hZ) (fun _ _ _ _ q => q) h)
theorem Wp.fix {y : Yt} {d pc : Nat} {L S : List Value} {M : Mt} {N : Nt} {P : Pt'} {Q : Qt} : Wp y d pc L S M N P Q ↔ onew Wp y d pc L S M N P Q :=
  ⟨fun h => by
    refine h (onew Wp) ?_
    intro y d pc L S M N P Q q
    exact onew_mono (Z := onew Wp) (Z' := Wp) (fun _ _ _ _ _ _ _ _ _ _ hq z => Wp.cons (Wp.fold z) hq) (fun _ _ _ _ q => q) q, Wp.fold⟩
