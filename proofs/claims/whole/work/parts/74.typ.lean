section T0
set_option maxHeartbeats 4000000 in
theorem onei_mono2 {i : Instr} {len d : Nat} {y : Yt} {pc : Nat} {L S : List Value} {M : Mt} {N : Nt} {P : Pt'} {K K' : Nat → List Value → List Value → Mt → Nt → Pt' → Prop} {C C' : Yt → List Value → Qt → Prop} {R R' : Option Value → Prop}
    (hK : ∀ a b c d e f, K a b c d e f → K' a b c d e f) (hC : ∀ y As (k k' : Qt), (∀ v M N P, k v M N P → k' v M N P) → C y As k → C' y As k') (hI : ∀ x ty, y.2.2.2.1 = some ty → R (some (.int x)) → R' (some (.int x))) (hL : ∀ x, y.2.2.2.1 = some .long → R (some (.long x)) → R' (some (.long x))) (hN : y.2.2.2.1 = none → R none → R' none) (h : onei i len d y pc L S M N P K C R) : onei i len d y pc L S M N P K' C' R' := by
  unfold onei at h ⊢
  split at h <;> (try dsimp only at h) <;> (try dsimp only) <;> first
    | exact h.elim
    | (obtain ⟨x, ty, h1, h2, h3, h4, h5⟩ := h; exact ⟨x, ty, h1, h2, h3, h4, hI x ty h3 h5⟩)
    | (obtain ⟨x, h1, h2, h3, h5⟩ := h; exact ⟨x, h1, h2, h3, hL x h3 h5⟩)
    | (obtain ⟨h1, h2, h3, h5⟩ := h; exact ⟨h1, h2, h3, hN h3 h5⟩)
    | (repeat (first | exact hK _ _ _ _ _ _ h | exact hC _ _ _ _ (fun _ _ _ _ q => hK _ _ _ _ _ _ q) h | (rcases h with h | h; left; rotate_left; right; rotate_left) | (obtain ⟨u, h⟩ := h; refine ⟨u, ?_⟩)))
/-- a method that answers an int answers an int -/
theorem Wp.ti {y : Yt} {d pc : Nat} {L S : List Value} {M : Mt} {N : Nt} {P : Pt'} {Q : Qt} (h : Wp y d pc L S M N P Q) {ty : FieldType} (hy : y.2.2.2.1 = some ty) (hl : ¬ ty = .long) : Wp y d pc L S M N P (fun v M' N' P' => Q v M' N' P' ∧ ∃ x, v = some (.int x)) := by
  have key := h (fun y d pc L S M N P Q => Wp y d pc L S M N P Q ∧ ∀ ty, y.2.2.2.1 = some ty → ¬ ty = .long → Wp y d pc L S M N P (fun v M' N' P' => Q v M' N' P' ∧ ∃ x, v = some (.int x))) (by
    intro y d pc L S M N P Q hZ
    refine ⟨Wp.fold (onew_mono (Z' := Wp) (fun _ _ _ _ _ _ _ _ _ _ hq z => z.1.cons hq) (fun _ _ _ _ q => q) hZ), fun ty hy hl => Wp.fold ?_⟩
    rcases hZ with ⟨i, len, hd, h⟩ | ⟨r, h1, h2, h3, h4, h5⟩
    · exact Or.inl ⟨i, len, hd, onei_mono2 (fun _ _ _ _ _ _ q => q.2 ty hy hl) (fun _ _ k k' hk ⟨d', e, q⟩ => ⟨d', e, q.1.cons hk⟩) (fun x ty' h1 h2 => ⟨h2, x, rfl⟩) (fun x h1 _ => absurd (Option.some.inj (hy.symm.trans h1)) hl) (fun h1 _ => by rw [hy] at h1; cases h1) h⟩
    · refine Or.inr ⟨r, h1, h2, h3, h4, h5, ?_⟩
      rcases h4 with ⟨-, i, j, b, -, -, -, rfl⟩ | ⟨-, i, -, -, rfl⟩ | ⟨-, i, j, -, -, -, rfl⟩ <;> exact ⟨_, rfl⟩)
  exact key.2 ty hy hl
end T0
section T1
/-! what the law's start gives -/
theorem mem_1 {w : Cond} {i : Nat} (h : tables_1_1[i]? = some w) : w ∈ lw_tbl := List.mem_append_right _ (List.mem_append_left _ (List.mem_of_getElem? h))
theorem mem_2 {w : Cond} {i : Nat} (h : tables_1_2[i]? = some w) : w ∈ lw_tbl := List.mem_append_right _ (List.mem_append_right _ (List.mem_append_left _ (List.mem_of_getElem? h)))
theorem mem_3 {w : Cond} {i : Nat} (h : tables_1_3[i]? = some w) : w ∈ lw_tbl := List.mem_append_right _ (List.mem_append_right _ (List.mem_append_right _ (List.mem_append_left _ (List.mem_of_getElem? h))))
theorem mem_4 {w : Cond} {i : Nat} (h : tables_1_4[i]? = some w) : w ∈ lw_tbl := List.mem_append_right _ (List.mem_append_right _ (List.mem_append_right _ (List.mem_append_right _ (List.mem_append_left _ (List.mem_of_getElem? h)))))
def gvl : List Cond := flatC (Jvm.Cond.and given_1 narrow_1)
def tmS (i : Nat) : Term := .string RX9 ([53, 61, 67].getD i 0)
set_option maxRecDepth 100000 in
theorem gv_el : ∀ i : Fin 3, ∀ j : Fin 72, j.val < [8, 72, 72].getD i.val 0 → Cond.eq (.elem (.field (tmS i.val) "java/lang/String" "value" "[B") (.int (Int32.ofNat j.val))) (.int ((byt0.getD i.val []).getD j.val 0)) ∈ gvl := by decide +kernel
set_option maxRecDepth 100000 in
theorem gv_ot : ∀ i : Fin 3, Cond.exactly (tmS i.val) "java/lang/String" ∈ gvl ∧ Cond.eq (.field (tmS i.val) "java/lang/String" "coder" "B") (.int 0) ∈ gvl ∧ Cond.arrayOf (.field (tmS i.val) "java/lang/String" "value" "[B") .byte ∈ gvl ∧ Cond.eq (.length (.field (tmS i.val) "java/lang/String" "value" "[B")) (.int (Int32.ofNat ([8, 72, 72].getD i.val 0))) ∈ gvl ∧ [8, 72, 72].getD i.val 0 < 2 ^ 31 ∧ [8, 72, 72].getD i.val 0 ≤ 72 := by decide +kernel
set_option maxRecDepth 100000 in
theorem gv_ne : ∀ i j : Fin 3, i ≠ j → Cond.not (Cond.eq (tmS i.val) (tmS j.val)) ∈ gvl ∨ Cond.not (Cond.eq (tmS j.val) (tmS i.val)) ∈ gvl := by decide +kernel
set_option maxRecDepth 100000 in
theorem gv_st : Cond.eq (.static "java/lang/String" "COMPACT_STRINGS" "Z") (.int 1) ∈ gvl ∧ Cond.isRef (.static "jdk/internal/util/Preconditions" "SIOOBE_FORMATTER" "Ljava/util/function/BiFunction;") ∈ gvl := by decide +kernel
theorem isRef_val {t : Term} {args : Array Value} {s : State} (h : (Cond.isRef t).before args s = true) : ∃ v : Value, t.eval args s none [] s = some v ∧ v.category = 1 := by
  simp only [Cond.before, Cond.holds, Cond.value] at h
  cases hv : t.eval args s none [] s with
  | none => simp [hv] at h
  | some w =>
    rw [hv] at h
    cases w <;> first | exact ⟨_, rfl, rfl⟩ | simp at h
theorem law_str {b : Nat} {s : State} (hts : ∀ w ∈ lw_tbl, w.before #[Value.ref b] s = true) (hgv : (Jvm.Cond.and given_1 narrow_1).before #[Value.ref b] s = true) :
    ∃ adK : Nat → Nat, (∃ adV, vk_S 3 [8, 72, 72] byt0 adK adV (fun q => s.heap.size ≤ q) s s.heap) ∧ Zs (fun q => s.heap.size ≤ q) s s.heap ∧ vk_R RX9 53 ";()<>=+-" (adK 0) s ∧ vk_R RX9 61 "forced  given   price   worth   year    held    hands   lives   dead    " (adK 1) s ∧ vk_R RX9 67 "when    do      back    other   money   none    or      and     not     " (adK 2) s ∧ va_Nw nestT s ∧ NST s := by
  have hg : ∀ c ∈ gvl, c.before #[Value.ref b] s = true := flat_of_before _ hgv
  have hA : ∀ a : Nat, a < s.heap.size → ¬ s.heap.size ≤ a := fun a h => by omega
  obtain ⟨adK, adV, hV, hE⟩ := vk_Sof (args := #[Value.ref b]) (s := s) (N := 3) (tm := tmS) (len := [8, 72, 72]) (byt := byt0) (A := fun q => s.heap.size ≤ q) (fun i hi => (gv_ot ⟨i, hi⟩).2.2.2.2.1) (fun i hi => hg _ (gv_ot ⟨i, hi⟩).1) (fun i hi => hg _ (gv_ot ⟨i, hi⟩).2.1) (fun i hi => hg _ (gv_ot ⟨i, hi⟩).2.2.1) (fun i hi => hg _ (gv_ot ⟨i, hi⟩).2.2.2.1)
    (fun i hi j hj => hg _ (gv_el ⟨i, hi⟩ ⟨j, Nat.lt_of_lt_of_le hj (gv_ot ⟨i, hi⟩).2.2.2.2.2⟩ hj)) (fun i j hi hj hne => (gv_ne ⟨i, hi⟩ ⟨j, hj⟩ (fun e => hne (Fin.mk.inj e))).elim (fun h => Or.inl (hg _ h)) (fun h => Or.inr (hg _ h))) hA
  obtain ⟨v, hv, hv1⟩ := isRef_val (hg _ gv_st.2)
  refine ⟨adK, ⟨adV, hV⟩, ⟨va_Zof (hts _ (mem_3 (i := 62) rfl)) (hts _ tin_J0.tbl) (va_eqi (hg _ gv_st.1)) hA, v, hv1, va_Zof (hts _ (mem_3 (i := 81) rfl)) (hts _ tin_J3.tbl) hv hA⟩, vk_R.of (hts _ (mem_3 (i := 116) rfl)) (hE 0 (by decide)), vk_R.of (hts _ (mem_3 (i := 49) rfl)) (hE 1 (by decide)), vk_R.of (hts _ (mem_3 (i := 104) rfl)) (hE 2 (by decide)), va_Nw.of rfl (hts _ (mem_4 (i := 40) rfl)), ?_⟩
  intro q hq
  simp only [nestL, List.mem_cons, List.not_mem_nil, or_false] at hq
  rcases hq with rfl | rfl | rfl | rfl | rfl | rfl | rfl | rfl | rfl
  · exact va_Nw.of rfl (hts _ (mem_1 (i := 31) rfl))
  · exact va_Nw.of rfl (hts _ (mem_1 (i := 77) rfl))
  · exact va_Nw.of rfl (hts _ (mem_1 (i := 96) rfl))
  · exact va_Nw.of rfl (hts _ (mem_1 (i := 175) rfl))
  · exact va_Nw.of rfl (hts _ (mem_1 (i := 194) rfl))
  · exact va_Nw.of rfl (hts _ (mem_1 (i := 210) rfl))
  · exact va_Nw.of rfl (hts _ (mem_2 (i := 0) rfl))
  · exact va_Nw.of rfl (hts _ (mem_2 (i := 59) rfl))
  · exact va_Nw.of rfl (hts _ (mem_2 (i := 86) rfl))
theorem arrK {ty : FieldType} {args : Array Value} {s : State} (h : (Cond.arrayClass ty).before args s = true) : ∃ cA : ClassId, ArrOfT s cA ty ∧ s.vm.findClass ("[" ++ ty.toString) = some cA := by
  obtain ⟨cA, kA, comp, h1, h2, h3⟩ := Cond.arrayClass_spec h
  exact ⟨cA, fun n z => ⟨fun k h => (by cases h), kA, h2, comp, h3⟩, h1⟩
theorem law_K {b : Nat} {s : State} (hts : ∀ w ∈ lw_tbl, w.before #[Value.ref b] s = true) : ∃ (D : va_G) (aC : Nat → ClassId), va_K D vwCl (atys aC) s := by
  have hT : ∀ {w : Cond}, inT w → w.before #[Value.ref b] s = true := fun h => hts _ h.tbl
  obtain ⟨c0, i0, k0⟩ := arrK (hT tA_int)
  obtain ⟨c1, i1, k1⟩ := arrK (hT tA_byte)
  obtain ⟨c2, i2, k2⟩ := arrK (hT tA_boolean)
  obtain ⟨c3, i3, k3⟩ := arrK (hT tA_short)
  obtain ⟨c4, i4, k4⟩ := arrK (hT tA_long)
  have hk : ∀ k : Nat, ∃ q : ClassId × (Nat → Nat), ∀ r : vw_C, vwCl[k]? = some r → u_Kn s r.1 r.2.1 r.2.2 q.1 q.2 := by
    intro k
    cases e : vwCl[k]? with
    | none => exact ⟨(c0, fun _ => 0), fun r h => by cases h⟩
    | some r =>
      have hin := cls_ws e
      have hi : (Cond.instantiable r.1 r.2.2).before #[Value.ref b] s = true := by
        have hc := cls_lt e
        rcases (show k = 0 ∨ k = 1 ∨ k = 2 ∨ k = 3 ∨ k = 4 ∨ k = 5 ∨ k = 6 ∨ k = 7 ∨ k = 8 ∨ k = 9 ∨ k = 10 ∨ k = 11 ∨ k = 12 by omega) with rfl | rfl | rfl | rfl | rfl | rfl | rfl | rfl | rfl | rfl | rfl | rfl | rfl
        · cases e; exact hT tIS_X0
        · cases e; exact hT tIS_X1
        · cases e; exact hT tIS_X2
        · cases e; exact hT tIS_X3
        · cases e; exact hT tIS_X4
        · cases e; exact hT tIS_X5
        · cases e; exact hT tIS_X6
        · cases e; exact hT tIS_X7
        · cases e; exact hT tIS_X8
        · cases e; exact hT tIS_X9
        · cases e; exact hT tIS_X10
        · cases e; exact hT tIS_X11
        · cases e; exact hT tIS_X12
      obtain ⟨cC, iS, hK⟩ := u_known (C := r.1) (T := r.2.1) (N := r.2.2) hts (fun w hw => (hin w hw).tbl) hi
      exact ⟨(cC, iS), fun r' h => by cases h; exact hK⟩
  obtain ⟨g, hg⟩ := Classical.axiomOfChoice hk
  refine ⟨(fun k => (g k).1, fun k => (g k).2), fun k => if k = 100 then c0 else if k = 101 then c1 else if k = 102 then c2 else if k = 103 then c3 else c4, fun k r h => hg k r h, fun k q h => ?_⟩
  have hlt : k < 5 := (List.getElem?_eq_some_iff.mp h).1
  rcases (show k = 0 ∨ k = 1 ∨ k = 2 ∨ k = 3 ∨ k = 4 by omega) with rfl | rfl | rfl | rfl | rfl
  · cases h; exact ⟨i0, k0⟩
  · cases h; exact ⟨i1, k1⟩
  · cases h; exact ⟨i2, k2⟩
  · cases h; exact ⟨i3, k3⟩
  · cases h; exact ⟨i4, k4⟩
end T1
