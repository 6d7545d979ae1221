/-! The abstract machine is the machine. -/
def isF : Value → Bool
  | .float _ => true
  | _ => false
def cvv (ad : Nat → Nat) : Value → Value
  | .ref i => .ref (ad i)
  | v => v
def lvs (ad : Nat → Nat) (L : List Value) : List (Nat × Value) := (L.zipIdx.filter (fun q => !isF q.1)).map (fun q => (q.2, cvv ad q.1))
theorem mem_lvs {ad : Nat → Nat} {L : List Value} {i : Nat} {u : Value} : (i, u) ∈ lvs ad L ↔ ∃ v, L[i]? = some v ∧ isF v = false ∧ u = cvv ad v := by
  unfold lvs
  rw [List.mem_map]
  constructor
  · rintro ⟨⟨v, j⟩, h1, h2⟩
    rw [List.mem_filter, List.mem_zipIdx_iff_getElem?] at h1
    cases h2
    exact ⟨v, h1.1, by simpa using h1.2, rfl⟩
  · rintro ⟨v, h1, h2, h3⟩
    exact ⟨(v, i), by rw [List.mem_filter, List.mem_zipIdx_iff_getElem?]; exact ⟨h1, by simp [h2]⟩, by rw [h3]⟩
theorem cvv_cat (ad : Nat → Nat) (v : Value) : (cvv ad v).category = v.category := by cases v <;> rfl
def rc (aC : Nat → ClassId) (ad : Nat → Nat) (q : Nat × Nat) (m : Nat → Int32) (n : Nat → Int64) (p : Nat → Nat) : va_E :=
  if q.1 < 100 then .inr (q.1, (List.range (kt0.getD q.1 []).length).map (fun k => cvv ad (if fknd q.1 k = 2 then .long (n k) else if fknd q.1 k = 1 then .ref (p k) else .int (m k))))
  else if q.1 = 104 then .inl (aC 104, q.2, .inr (.inl n)) else .inl (aC q.1, q.2, .inl m)
def rws (aC : Nat → ClassId) (ad : Nat → Nat) (M : Mt) (N : Nt) (P : Pt') : va_W := (List.range 85).map (fun i => (ad i, rc aC ad (shk i) (M i) (N i) (P i)))
def Aad (ad : Nat → Nat) : Nat → Prop := fun q => ∃ i, i < 85 ∧ q = ad i
def inj85 (ad : Nat → Nat) : Prop := ∀ i j, i < 85 → j < 85 → ad i = ad j → i = j
theorem rws_get {aC : Nat → ClassId} {ad : Nat → Nat} {M : Mt} {N : Nt} {P : Pt'} {i : Nat} (h : i < 85) : (rws aC ad M N P)[i]? = some (ad i, rc aC ad (shk i) (M i) (N i) (P i)) := by
  simp [rws, h]
theorem rws_D {aC : Nat → ClassId} {ad : Nat → Nat} {M : Mt} {N : Nt} {P : Pt'} (h : inj85 ad) : va_D (Aad ad) (rws aC ad M N P) := by
  have key : ∀ (k : Nat) (q : Nat × va_E), (rws aC ad M N P)[k]? = some q → k < 85 ∧ q.1 = ad k := by
    intro k q hk
    have hl : k < 85 := by
      have := (List.getElem?_eq_some_iff.mp hk).1
      simpa [rws] using this
    rw [rws_get hl] at hk
    cases hk
    exact ⟨hl, rfl⟩
  refine ⟨fun i j p q hi hj e => ?_, fun k q hk => ?_⟩
  · obtain ⟨h1, h2⟩ := key i p hi
    obtain ⟨h3, h4⟩ := key j q hj
    exact h i j h1 h3 (by rw [← h2, ← h4]; exact e)
  · obtain ⟨h1, h2⟩ := key k q hk
    exact ⟨k, h1, h2⟩
theorem shk_lt {o c n : Nat} (h : shk o = (c, n)) (hc : ¬ c = 999) : o < 85 := by
  apply Nat.lt_of_not_le
  intro q
  have : shk o = (999, 0) := by
    unfold shk
    rw [List.getD_eq_getElem?_getD, List.getElem?_eq_none (by simpa [sh0] using q)]
    rfl
  rw [h] at this
  cases this
  exact hc rfl
theorem cls_lt {c : Nat} {q : vw_C} (h : vwCl[c]? = some q) : c < 13 := (List.getElem?_eq_some_iff.mp h).1
theorem kt_len {c : Nat} {C : String} {T : u_T} {n : Nat} (h : vwCl[c]? = some (C, T, n)) : (kt0.getD c []).length = n := by
  have hc := cls_lt h
  rcases (show c = 0 ∨ c = 1 ∨ c = 2 ∨ c = 3 ∨ c = 4 ∨ c = 5 ∨ c = 6 ∨ c = 7 ∨ c = 8 ∨ c = 9 ∨ c = 10 ∨ c = 11 ∨ c = 12 by omega) with rfl | rfl | rfl | rfl | rfl | rfl | rfl | rfl | rfl | rfl | rfl | rfl | rfl <;> (cases h; rfl)
theorem rws_set {aC : Nat → ClassId} {ad : Nat → Nat} {M M' : Mt} {N N' : Nt} {P P' : Pt'} {o : Nat} {u : va_E} (ho : o < 85) (hM : ∀ i, i ≠ o → M' i = M i) (hN : ∀ i, i ≠ o → N' i = N i) (hP : ∀ i, i ≠ o → P' i = P i) (hu : rc aC ad (shk o) (M' o) (N' o) (P' o) = u) : (rws aC ad M N P).set o (ad o, u) = rws aC ad M' N' P' := by
  apply List.ext_getElem?
  intro i
  by_cases hi : i < 85
  · by_cases e : o = i
    · subst e
      rw [List.getElem?_set_self (by simpa [rws] using ho), rws_get ho, hu]
    · rw [List.getElem?_set_ne e, rws_get hi, rws_get hi, hM i (Ne.symm e), hN i (Ne.symm e), hP i (Ne.symm e)]
  · rw [List.getElem?_eq_none (by simp [rws]; omega), List.getElem?_eq_none (by simp [rws]; omega)]
theorem up2_ne {α : Type} {M : Nat → Nat → α} {o k : Nat} {x : α} : ∀ i, i ≠ o → up2 M o k x i = M i := fun i h => by simp [up2, h]
theorem up2_self {α : Type} {M : Nat → Nat → α} {o k : Nat} {x : α} : up2 M o k x o = fun j => if j = k then x else M o j := by simp [up2]
def atys (aC : Nat → ClassId) : List (ClassId × FieldType) := [(aC 100, .int), (aC 101, .byte), (aC 102, .boolean), (aC 103, .short), (aC 104, .long)]
def wl (y : Yt) : List Cond := .code y.1 y.2.1 y.2.2.1 y.2.2.2.1 :: GW
def rmD (d : Nat) : Room := { frames := d, cells := 0, slots := 0, locals := 64 * d }
def byt0 : List (List Int32) := [(strB 0).map nI, (strB 1).map nI, (strB 2).map nI]
def Zs (A : Nat → Prop) (U : State) (H : Heap) : Prop := va_Z "java/lang/String" "COMPACT_STRINGS" "Z" (.int 1) A U H ∧ ∃ v : Value, v.category = 1 ∧ va_Z "jdk/internal/util/Preconditions" "SIOOBE_FORMATTER" "Ljava/util/function/BiFunction;" v A U H
theorem Zs.moved {A : Nat → Prop} {u U : State} {H : Heap} (hvm : u.vm.Alike U.vm) (h : Zs A u H) : Zs A U H := ⟨h.1.moved hvm, h.2.elim fun v hv => ⟨v, hv.1, hv.2.moved hvm⟩⟩
theorem Zs.kept {A : Nat → Prop} {U : State} {H H1 : Heap} (h : Zs A U H) (hq : ∀ a : Nat, a < H.size → ¬ A a → H1[a]? = H[a]?) : Zs A U H1 := ⟨h.1.kept hq, h.2.elim fun v hv => ⟨v, hv.1, hv.2.kept hq⟩⟩
theorem Zs.narrow {A B : Nat → Prop} {U : State} {H : Heap} (h : Zs A U H) (hAB : ∀ q, B q → A q) : Zs B U H := ⟨h.1.narrow hAB, h.2.elim fun v hv => ⟨v, hv.1, hv.2.narrow hAB⟩⟩
def StrC (ad : Nat → Nat) (U : State) (H : Heap) : Prop := (∃ adV : Nat → Nat, vk_S 3 [8, 72, 72] byt0 (fun i => ad (200 + i)) adV (Aad ad) U H) ∧ Zs (Aad ad) U H ∧ vk_R RX9 53 ";()<>=+-" (ad 200) U ∧ vk_R RX9 61 "forced  given   price   worth   year    held    hands   lives   dead    " (ad 201) U ∧ vk_R RX9 67 "when    do      back    other   money   none    or      and     not     " (ad 202) U
def nestT : Cond := .methodLinkNest RX2 40 yX11_truth "HomeRoll"
def Ext (ad : Nat → Nat) (U : State) (H : Heap) : Prop := va_Nw nestT U ∧ StrC ad U H
theorem Ext.warm {ad : Nat → Nat} {s U : State} {H H1 : Heap} (h : Ext ad s H) (hW : s.WarmedH U.vm) (hq : ∀ a : Nat, a < H.size → ¬ Aad ad a → H1[a]? = H[a]?) : Ext ad U H1 := by
  obtain ⟨h1, ⟨adV, h2⟩, h3, h4, h5, h6⟩ := h
  exact ⟨va_Nw.warmM hW h1, ⟨adV, (h2.moved hW.alike).kept hq⟩, (h3.moved hW.alike).kept hq, h4.warm hW, h5.warm hW, h6.warm hW⟩
theorem Ext.same {ad : Nat → Nat} {u U : State} {H : Heap} (h : Ext ad u H) (hv : U.vm = u.vm) : Ext ad U H := by
  obtain ⟨h1, ⟨adV, h2⟩, h3, h4, h5, h6⟩ := h
  have hA : u.vm.Alike U.vm := by rw [hv]; exact Vm.Alike.refl u.vm
  exact ⟨va_Nw.same rfl hv.symm h1, ⟨adV, h2.moved hA⟩, h3.moved hA, h4.same hv, h5.same hv, h6.same hv⟩
def PcX (D : va_G) (aC : Nat → ClassId) (ad : Nat → Nat) (As : List Value) (M : Mt) (N : Nt) (P : Pt') : Array Value → State → Prop := va_Pc (As.map (cvv ad)) (fun U => va_P D vwCl (rws aC ad M N P) U.heap ∧ va_K D vwCl (atys aC) U ∧ inj85 ad ∧ Ext ad U U.heap)
def QcX (D : va_G) (aC : Nat → ClassId) (ad : Nat → Nat) (Q : Qt) : Array Value → State → Outcome → State → Prop := fun _ st oc t => (∃ v M' N' P', oc = .returned (v.map (cvv ad)) ∧ Q v M' N' P' ∧ va_P D vwCl (rws aC ad M' N' P') t.heap) ∧ va_F (Aad ad) st t
def Cx (p : Program) (s : State) (m : MethodId) (args : Array Value) (meth : Method) (c : Code) (y : Yt) (D : va_G) (aC : Nat → ClassId) (ad : Nat → Nat) : Prop :=
  p.tables.exec = Jvm.exec ∧ c.code = y.2.1 ∧ meth.sig.returnType = y.2.2.2.1 ∧ c.maxLocals = y.2.2.1 ∧ s.vm.findClass y.1.cls = some m.cls ∧ (∀ w ∈ wl y, w.before args s = true) ∧ meth.locks = false ∧ va_K D vwCl (atys aC) s ∧ inj85 ad ∧ Ext ad s s.heap
/-- the machine itself comes to the method's end with Q -/
def Xs (y : Yt) (d pc : Nat) (L S : List Value) (M : Mt) (N : Nt) (P : Pt') (Q : Qt) : Prop :=
  ∀ (l : Launch) (p : Program) (e : Env) (s : State) (m : MethodId) (args : Array Value) (below : List Frame) (meth : Method) (c : Code) (D : va_G) (aC : Nat → ClassId) (ad : Nat → Nat) (H : Heap) (locs : List Loc) (ls : Array Slot), Cx p s m args meth c y D aC ad → va_P D vwCl (rws aC ad M N P) H → va_S (Aad ad) s.heap H locs → lv_has ls y.2.2.1 (lvs ad L) → L.length = y.2.2.1 →
    W p l e (rmD d) s m args below meth c H locs 0 0 (MQ below (QcX D aC ad Q) args s 0 0 (Aad ad)) (F0 m pc ls (S.map (cvv ad)))
abbrev KX (y : Yt) (d : Nat) (Q : Qt) : Nat → List Value → List Value → Mt → Nt → Pt' → Prop := fun pc' L' S' M' N' P' => Xs y d pc' L' S' M' N' P' Q
abbrev CX (d : Nat) (M : Mt) (N : Nt) (P : Pt') : Yt → List Value → Qt → Prop := fun y' As k => ∃ d', d = d' + 1 ∧ Xs y' d' 0 (padL y'.2.2.1 (entL As)) [] M N P k
theorem inT.good {y : Yt} {w : Cond} (h : inT w) : w ∈ wl y ∧ ((w.onTables && w.keeps) = true ∨ ∃ ty, w = .arrayClass ty) := ⟨List.mem_cons_of_mem _ h, good_of_word (List.mem_filter.mp h).2⟩
theorem inT.tbl {w : Cond} (h : inT w) : w ∈ lw_tbl := (List.mem_filter.mp h).1
theorem wl_good {y y' : Yt} (h : inT (.code y'.1 y'.2.1 y'.2.2.1 y'.2.2.2.1)) : GoodIn (wl y) (wl y') := by
  intro w hw
  rcases List.mem_cons.mp hw with rfl | hw
  · exact h.good
  · exact inT.good (y := y) hw
theorem lvs_len {n : Nat} {l : List Value} (h : l.length ≤ n) : (padL n l).length = n := by simp [padL]; omega
theorem ent_args (ad : Nat → Nat) : ∀ (As : List Value) (k i : Nat) (v : Value), As.all okv = true → (entL As)[i]? = some v → isF v = false → (k + i, cvv ad v) ∈ lv_args k (As.map (cvv ad))
  | [], k, i, v, _, h, _ => by simp [entL] at h
  | a :: r, k, i, v, ha, h, hf => by
    simp only [List.all_cons, Bool.and_eq_true] at ha
    cases a with
    | long x =>
      simp only [entL] at h
      match i, h with
      | 0, h => simp at h; subst h; simp [lv_args, cvv]
      | 1, h => simp at h; subst h; simp [isF] at hf
      | i + 2, h =>
        simp at h
        have := ent_args ad r (k + 2) i v ha.2 h hf
        show _ ∈ (k, cvv ad (.long x)) :: lv_args (k + 2) (r.map (cvv ad))
        refine List.mem_cons_of_mem _ ?_
        rw [show k + (i + 2) = k + 2 + i by omega]
        exact this
    | int x =>
      simp only [entL] at h
      match i, h with
      | 0, h => simp at h; subst h; simp [lv_args, cvv]
      | i + 1, h =>
        simp at h
        have := ent_args ad r (k + 1) i v ha.2 h hf
        show _ ∈ (k, cvv ad (.int x)) :: lv_args (k + 1) (r.map (cvv ad))
        refine List.mem_cons_of_mem _ ?_
        rw [show k + (i + 1) = k + 1 + i by omega]
        exact this
    | ref x =>
      simp only [entL] at h
      match i, h with
      | 0, h => simp at h; subst h; simp [lv_args, cvv]
      | i + 1, h =>
        simp at h
        have := ent_args ad r (k + 1) i v ha.2 h hf
        show _ ∈ (k, cvv ad (.ref x)) :: lv_args (k + 1) (r.map (cvv ad))
        refine List.mem_cons_of_mem _ ?_
        rw [show k + (i + 1) = k + 1 + i by omega]
        exact this
    | _ => simp [okv] at ha
theorem ent_len (ad : Nat → Nat) : ∀ (As : List Value), As.all okv = true → (lg_sl (As.map (cvv ad))).length = (entL As).length
  | [], _ => rfl
  | a :: r, ha => by
    simp only [List.all_cons, Bool.and_eq_true] at ha
    have ih := ent_len ad r ha.2
    have e : lg_sl ((a :: r).map (cvv ad)) = (if (cvv ad a).category = 2 then [.val (cvv ad a), .second] else [.val (cvv ad a)]) ++ lg_sl (r.map (cvv ad)) := by simp only [lg_sl, List.map_cons, List.flatMap_cons]
    rw [e, List.length_append, ih]
    have h0 := ha.1
    cases a <;> first | (simp [okv] at h0; done) | (simp [entL, cvv, Value.category]; omega) | simp [entL, cvv, Value.category]
theorem ent_has {ad : Nat → Nat} {As : List Value} {n : Nat} (ha : As.all okv = true) (hn : (entL As).length ≤ n) : lv_has ((lg_sl (As.map (cvv ad)) ++ List.replicate (n - (lg_sl (As.map (cvv ad))).length) Slot.unset).toArray) n (lvs ad (padL n (entL As))) := by
  have h := lv_entry (As.map (cvv ad)) (n := n) (by rw [ent_len ad As ha]; exact hn)
  refine ⟨h.1, h.2.1, fun q hq => h.2.2 q ?_⟩
  obtain ⟨i, u⟩ := q
  obtain ⟨v, h1, h2, rfl⟩ := mem_lvs.mp hq
  unfold padL at h1
  by_cases hi : i < (entL As).length
  · rw [List.getElem?_append_left hi] at h1
    have := ent_args ad As 0 i v ha h1 h2
    simpa using this
  · rw [List.getElem?_append_right (by omega)] at h1
    have := List.eq_of_mem_replicate (List.mem_of_getElem? h1)
    rw [this] at h2
    cases h2
set_option maxHeartbeats 4000000 in
theorem Xs.met {y : Yt} {d : Nat} {As : List Value} {M : Mt} {N : Nt} {P : Pt'} {k : Qt} (hX : Xs y d 0 (padL y.2.2.1 (entL As)) [] M N P k) (ha : argsOk y As) (hp : notH y) (l : Launch) (D : va_G) (aC : Nat → ClassId) (ad : Nat → Nat) : Met l y.1 (wl y) (rmD d) (PcX D aC ad As M N P) (QcX D aC ad k) 0 0 (Aad ad) := by
  refine Met.ofW (cc := y.2.1) (maxL := y.2.2.1) (ret := y.2.2.2.1) hp.2 rfl ?_
  intro p e s m args below meth c s₁ B hml hv
  obtain ⟨rfl, hP, hK, hinj, hE⟩ := hv
  rw [lg_entry_eq]
  exact hX l p e s m _ below meth c D aC ad s.heap [] _ ⟨B.exec, B.bytes, B.returns, hml, findClass_of_methodNamed B.named, atoms_spec (ws := wl y) B.pre, B.notSynchronized, hK, hinj, hE⟩ hP va_S.rf (ent_has ha.1 ha.2.1) (lvs_len ha.2.1)
theorem PcX.blind {D : va_G} {aC : Nat → ClassId} {ad : Nat → Nat} {As : List Value} {M : Mt} {N : Nt} {P : Pt'} : FrameBlind (PcX D aC ad As M N P) := by
  intro a U g mk h
  obtain ⟨h1, h2, h3, h4, h5⟩ := h
  exact ⟨h1, h2, va_K.moved (u := U) (U := U.calling g mk a) (Vm.Alike.refl U.vm) h3, h4, Ext.same (u := U) (U := U.calling g mk a) h5 rfl⟩
section XR
variable {p : Program} {l : Launch} {e : Env} {R : Room} {s : State} {m : MethodId} {args : Array Value} {below : List Frame} {meth : Method} {c : Code} {H : Heap} {locs : List Loc} {cells slots : Nat} {Q : State → Prop}
theorem run_W {D : va_G} {aC : Nat → ClassId} {ad : Nat → Nat} {k : Qt} {pc : Nat} {ls : Array Slot} {st0 rest : List Value} {a : Array Value} (hr : va_Run p l e R s m args below meth c H locs cells slots 0 0 (F0 m pc ls st0) rest (QcX D aC ad k a) (Aad ad)) (hS : va_S (Aad ad) s.heap H locs)
    (kk : ∀ (v : Option Value) (M' : Mt) (N' : Nt) (P' : Pt') (H1 : Heap) (locs1 : List Loc), k v M' N' P' → va_P D vwCl (rws aC ad M' N' P') H1 → va_S (Aad ad) s.heap H1 locs1 → W p l e R s m args below meth c H1 locs1 cells slots Q (F0 m (pc + 3) ls ((v.map (cvv ad)).toList ++ rest))) : W p l e R s m args below meth c H locs cells slots Q (F0 m pc ls st0) := by
  intro T hT X
  obtain ⟨v, st₀, t, T', L, h0, X', hL, e1, e2, ⟨⟨v1, M', N', P', hv, hk, hP'⟩, hz, hk2⟩, st⟩ := hr T hT X
  cases hv
  rw [h0] at hz hk2
  obtain ⟨t2, a1, b1⟩ := kk v1 M' N' P' T'.heap (locs ++ L) hk (by rw [e1]; exact hP')
    ⟨Nat.le_trans hS.1 (by rw [e1]; exact hz), fun q h1 h2 => by rw [e1, hk2 q (Nat.lt_of_lt_of_le h1 hS.1) h2]; exact hS.2.1 q h1 h2, fun q hq => by
      rcases List.mem_append.mp hq with h | h
      · exact hS.2.2 q h
      · exact hL q h⟩ T' rfl X'
  exact ⟨t2, st t2 a1, b1⟩
end XR
theorem stk_sum (ad : Nat → Nat) : ∀ S : List Value, ((S.map (cvv ad)).map fun v => v.category).sum = stk S
  | [] => rfl
  | v :: r => by simp only [List.map_cons, List.sum_cons, stk, stk_sum ad r, cvv_cat]
theorem rm_ok {d' maxL : Nat} (h : maxL ≤ 40) : (rmD d').frames + 1 ≤ (rmD (d' + 1)).frames ∧ 8 + (maxL + 11) + (rmD d').locals ≤ (rmD (d' + 1)).locals := by
  simp only [rmD]; omega
theorem lv_get {ad : Nat → Nat} {ls : Array Slot} {n i : Nat} {L : List Value} {v : Value} (hl : lv_has ls n (lvs ad L)) (h : L[i]? = some v) (hf : isF v = false) : ls[i]? = some (.val (cvv ad v)) := hl.2.2 (i, cvv ad v) (mem_lvs.mpr ⟨v, h, hf, rfl⟩)
theorem lv_put1 {ad : Nat → Nat} {ls : Array Slot} {n i : Nat} {L : List Value} {v : Value} (ho : okst L i = true) (h : lv_has ls n ((i, cvv ad v) :: (lvs ad L).filter (fun q => !(q.1 == i) && !(q.1 + 1 == i && q.2.category == 2)))) : lv_has ls n (lvs ad (L.set i v)) := by
  refine ⟨h.1, h.2.1, fun q hq => h.2.2 q ?_⟩
  obtain ⟨j, u⟩ := q
  obtain ⟨z, h1, h2, rfl⟩ := mem_lvs.mp hq
  by_cases e : i = j
  · subst e
    by_cases hi : i < L.length
    · rw [List.getElem?_set_self hi] at h1
      cases h1
      exact List.mem_cons_self
    · rw [List.getElem?_eq_none (by simpa using hi)] at h1
      cases h1
  · rw [List.getElem?_set_ne e] at h1
    refine List.mem_cons_of_mem _ (List.mem_filter.mpr ⟨mem_lvs.mpr ⟨z, h1, h2, rfl⟩, ?_⟩)
    simp only [Bool.and_eq_true, Bool.not_eq_true', beq_eq_false_iff_ne, ne_eq, Bool.and_eq_false_iff, cvv_cat]
    refine ⟨fun q => e q.symm, ?_⟩
    by_cases e2 : j + 1 = i
    · right
      subst e2
      intro hc
      unfold okst at ho
      dsimp only at ho
      rw [h1] at ho
      cases z <;> simp_all [Value.category, isF]
    · left; exact e2
theorem lv_put2 {ad : Nat → Nat} {ls : Array Slot} {n i : Nat} {L : List Value} {x : Int64} (ho : okst L i = true) (h : lv_has ls n ((i, Value.long x) :: (lvs ad L).filter (fun q => !(q.1 == i) && (!(q.1 == i + 1) && !(q.1 + 1 == i && q.2.category == 2))))) : lv_has ls n (lvs ad ((L.set i (.long x)).set (i + 1) (.float 0))) := by
  refine ⟨h.1, h.2.1, fun q hq => h.2.2 q ?_⟩
  obtain ⟨j, u⟩ := q
  obtain ⟨z, h1, h2, rfl⟩ := mem_lvs.mp hq
  by_cases e1 : i + 1 = j
  · subst e1
    by_cases hi : i + 1 < L.length
    · rw [List.getElem?_set_self (by simpa using hi)] at h1
      cases h1
      cases h2
    · rw [List.getElem?_eq_none (by simpa using hi)] at h1
      cases h1
  · rw [List.getElem?_set_ne e1] at h1
    by_cases e : i = j
    · subst e
      by_cases hi : i < L.length
      · rw [List.getElem?_set_self hi] at h1
        cases h1
        exact List.mem_cons_self
      · rw [List.getElem?_eq_none (by simpa using hi)] at h1
        cases h1
    · rw [List.getElem?_set_ne e] at h1
      refine List.mem_cons_of_mem _ (List.mem_filter.mpr ⟨mem_lvs.mpr ⟨z, h1, h2, rfl⟩, ?_⟩)
      simp only [Bool.and_eq_true, Bool.not_eq_true', beq_eq_false_iff_ne, ne_eq, Bool.and_eq_false_iff, cvv_cat]
      refine ⟨fun q => e q.symm, fun q => e1 q.symm, ?_⟩
      by_cases e2 : j + 1 = i
      · right
        subst e2
        intro hc
        unfold okst at ho
        dsimp only at ho
        rw [h1] at ho
        cases z <;> simp_all [Value.category, isF]
      · left; exact e2

