section J0
/-! String's own methods on the three text constants -/
def SP (adK adV : Nat → Nat) (As : List Value) : Array Value → State → Prop := va_Pc As (fun U => vk_S 3 [8, 72, 72] byt0 adK adV (fun _ => False) U U.heap ∧ Zs (fun _ => False) U U.heap)
def SQ (r : Int32) : Array Value → State → Outcome → State → Prop := fun _ st oc t => oc = .returned (some (.int r)) ∧ t.heap = st.heap
def SQv : Array Value → State → Outcome → State → Prop := fun _ st oc t => oc = .returned none ∧ t.heap = st.heap
theorem SP.blind {adK adV : Nat → Nat} {As : List Value} : FrameBlind (SP adK adV As) := by
  intro a U g mk h
  obtain ⟨h1, h2, h3⟩ := h
  exact ⟨h1, vk_S.moved (u := U) (U := U.calling g mk a) (Vm.Alike.refl U.vm) h2, Zs.moved (u := U) (U := U.calling g mk a) (Vm.Alike.refl U.vm) h3⟩
section R
variable {p : Program} {l : Launch} {e : Env} {R : Room} {s : State} {m : MethodId} {args : Array Value} {below : List Frame} {meth : Method} {c : Code} {H : Heap} {locs : List Loc} {cells slots : Nat} {Q : State → Prop}
theorem run_S {pc : Nat} {ls : Array Slot} {st0 rest : List Value} {a : Array Value} {r : Int32} (hr : va_Run p l e R s m args below meth c H locs cells slots 0 0 (F0 m pc ls st0) rest (SQ r a) (fun _ => False))
    (kk : W p l e R s m args below meth c H locs cells slots Q (F0 m (pc + 3) ls (.int r :: rest))) : W p l e R s m args below meth c H locs cells slots Q (F0 m pc ls st0) := by
  intro T hT X
  obtain ⟨v, st₀, t, T', L, h0, X', hL, e1, e2, ⟨hv, hh⟩, st⟩ := hr T hT X
  cases hv
  have hLn : L = [] := by
    cases L with
    | nil => rfl
    | cons q L => exact (hL q List.mem_cons_self).elim
  subst hLn
  rw [List.append_nil] at X'
  obtain ⟨t2, a1, b1⟩ := kk T' (by rw [e1, hh, h0]) X'
  exact ⟨t2, st t2 a1, b1⟩
theorem run_Sv {pc : Nat} {ls : Array Slot} {st0 rest : List Value} {a : Array Value} (hr : va_Run p l e R s m args below meth c H locs cells slots 0 0 (F0 m pc ls st0) rest (SQv a) (fun _ => False))
    (kk : W p l e R s m args below meth c H locs cells slots Q (F0 m (pc + 3) ls rest)) : W p l e R s m args below meth c H locs cells slots Q (F0 m pc ls st0) := by
  intro T hT X
  obtain ⟨v, st₀, t, T', L, h0, X', hL, e1, e2, ⟨hv, hh⟩, st⟩ := hr T hT X
  cases hv
  have hLn : L = [] := by
    cases L with
    | nil => rfl
    | cons q L => exact (hL q List.mem_cons_self).elim
  subst hLn
  rw [List.append_nil] at X'
  obtain ⟨t2, a1, b1⟩ := kk T' (by rw [e1, hh, h0]) X'
  exact ⟨t2, st t2 a1, b1⟩
end R
theorem gdV {y y' : Yt} {idx : Nat} {own : String} (h3 : inT (.methodLink own idx y'.1)) (h4 : inT (.instanceMethod y'.1)) (h5 : inT (.selects y'.1.cls y'.1 y'.1)) (h6 : inT (.initialized y'.1.cls)) (h7 : inT (.code y'.1 y'.2.1 y'.2.2.1 y'.2.2.2.1)) : GoodIn (wl y) (wsV own idx y'.1.cls y'.1 (wl y')) := by
  intro w hw
  unfold wsV at hw
  rcases List.mem_append.mp hw with hw | hw
  · simp only [List.mem_cons, List.not_mem_nil, or_false] at hw
    rcases hw with rfl | rfl | rfl | rfl
    · exact h3.good
    · exact h4.good
    · exact h5.good
    · exact h6.good
  · exact wl_good h7 w hw
theorem tc_mmin : inT (.code Lib.Math.min.name Lib.Math.min.code 2 (some .int)) := inT_3 (i := 137) (by decide +kernel) rfl
def sLen (i : Nat) : Nat := [8, 72, 72].getD i 0
theorem sLen_all : ∀ i : Fin 3, sLen i.val = (strB i.val).length ∧ 0 < sLen i.val ∧ sLen i.val ≤ 72 ∧ (byt0.getD i.val [] = (strB i.val).map nI) ∧ ∀ k : Fin 72, (strB i.val).getD k.val 0 < 128 := by decide
theorem chr_all : ∀ k : Fin 128, ((nI k.val &&& 255).toUInt32 % 65536).toInt32 = nI k.val ∧ (nI k.val).toInt8.toInt32 = nI k.val ∧ narrow .char (.int (nI k.val)) = .int (nI k.val) := by decide +kernel
theorem byt_get {i k b : Nat} (hi : i < 3) (h : (strB i)[k]? = some b) : (byt0.getD i []).getD k 0 = nI b ∧ k < sLen i ∧ b < 128 := by
  obtain ⟨g1, g2, g3, g4, g5⟩ := sLen_all ⟨i, hi⟩
  dsimp only at g1 g2 g3 g4 g5
  have hk : k < (strB i).length := (List.getElem?_eq_some_iff.mp h).1
  refine ⟨?_, by omega, ?_⟩
  · rw [g4, List.getD_eq_getElem?_getD, List.getElem?_map, h]; rfl
  · have := g5 ⟨k, by omega⟩
    dsimp only at this
    rw [List.getD_eq_getElem?_getD, h] at this
    exact this
abbrev jCoder : Yt := (yJ0_coder_7d493, cJ0_coder_7d493, 1, some .byte, 15)
abbrev jLatin : Yt := (yJ0_isLatin1_aae02, cJ0_isLatin1_aae02, 1, some .boolean, 15)
abbrev jLen : Yt := (yJ0_length_8abf5, cJ0_length_8abf5, 1, some .int, 15)
abbrev jIx2 : Yt := (yJ0_indexOf_7cf53, cJ0_indexOf_7cf53, 3, some .int, 15)
abbrev jChk : Yt := (yJ0_checkIndex_df160, cJ0_checkIndex_df160, 2, none, 15)
abbrev jPre : Yt := (yJ3_checkIndex_8e157, cJ3_checkIndex_8e157, 3, some .int, 15)
abbrev jL1c : Yt := (yJ1_charAt_3b067, cJ1_charAt_3b067, 2, some .char, 15)
abbrev jL1i : Yt := (yJ1_indexOf_4cfef, cJ1_indexOf_4cfef, 4, some .int, 15)
abbrev jCan : Yt := (yJ1_canEncode_9a6ad, cJ1_canEncode_9a6ad, 1, some .boolean, 15)
abbrev jIxc : Yt := (yJ1_indexOfChar_4cfef, cJ1_indexOfChar_4cfef, 6, some .int, 15)
variable {adK adV : Nat → Nat}
set_option maxHeartbeats 4000000 in
theorem j_coder (l : Launch) (d : Nat) {i : Nat} (hi : i < 3) : Met l jCoder.1 (wl jCoder) (rmD (d)) (SP adK adV [.ref (adK i)]) (SQ 0) 0 0 (fun _ => False) := by
  refine Met.ofW (cc := jCoder.2.1) (maxL := 1) (ret := jCoder.2.2.2.1) (by decide) rfl ?_
  intro p e s m args below meth c s₁ B hml hv
  obtain ⟨rfl, hV, hZ⟩ := hv
  have hx := B.exec
  have hb := B.bytes
  have hr := B.returns
  have hts := atoms_spec (ws := wl jCoder) B.pre
  have hT : ∀ {w : Cond}, inT w → w.before [.ref (adK i)].toArray s = true := fun h => hts _ (inT.good (y := jCoder) h).1
  have hown : s.vm.findClass RJ0 = some m.cls := findClass_of_methodNamed B.named
  have hlocks := B.notSynchronized
  have hS : va_S (fun _ => False) s.heap s.heap [] := va_S.rf
  have hU : ∀ (As : List Value) (U : State), U.heap = s.heap → s.WarmedH U.vm → SP adK adV As As.toArray U := fun As U hU hW => ⟨rfl, by rw [hU]; exact hV.moved hW.alike, by rw [hU]; exact hZ.moved hW.alike⟩
  have hl := lv_entry [.ref (adK i)] (n := 1) (Nat.le_of_ble_eq_true rfl)
  rw [lg_entry_eq]
  generalize (lg_sl [.ref (adK i)] ++ List.replicate (1 - (lg_sl [.ref (adK i)]).length) Slot.unset).toArray = ls at hl ⊢
  have hl : lv_has ls 1 [(0, .ref (adK i))] := hl
  refine va_gets hx hb hZ.1 hS hown (hT tf_J0_38) (fun _ h => h) dJ0_coder_7d493_0 ?_
  refine lv_if_eq (tgt := 13) hx hb dJ0_coder_7d493_3 (by decide) (fun h => absurd h (by decide)) (fun _ => ?_)
  refine lv_aload_n hx hb dJ0_coder_7d493_6 rfl (lv_at hl 0 rfl) ?_
  refine vk_getf hx hb (hV.1 i hi).2.1 hS hown (hT tf_J0_15) (fun _ h => h) dJ0_coder_7d493_7 ?_
  refine lv_goto (tgt := 14) hx hb dJ0_coder_7d493_10 (by decide) ?_
  exact W.zret hx hb hr (by decide) (fun t ht hW => ⟨rfl, ht⟩) (fun _ h => by cases h) dJ0_coder_7d493_14
set_option maxHeartbeats 4000000 in
theorem j_latin (l : Launch) (d : Nat) {i : Nat} (hi : i < 3) : Met l jLatin.1 (wl jLatin) (rmD (d)) (SP adK adV [.ref (adK i)]) (SQ 1) 0 0 (fun _ => False) := by
  refine Met.ofW (cc := jLatin.2.1) (maxL := 1) (ret := jLatin.2.2.2.1) (by decide) rfl ?_
  intro p e s m args below meth c s₁ B hml hv
  obtain ⟨rfl, hV, hZ⟩ := hv
  have hx := B.exec
  have hb := B.bytes
  have hr := B.returns
  have hts := atoms_spec (ws := wl jLatin) B.pre
  have hT : ∀ {w : Cond}, inT w → w.before [.ref (adK i)].toArray s = true := fun h => hts _ (inT.good (y := jLatin) h).1
  have hown : s.vm.findClass RJ0 = some m.cls := findClass_of_methodNamed B.named
  have hlocks := B.notSynchronized
  have hS : va_S (fun _ => False) s.heap s.heap [] := va_S.rf
  have hU : ∀ (As : List Value) (U : State), U.heap = s.heap → s.WarmedH U.vm → SP adK adV As As.toArray U := fun As U hU hW => ⟨rfl, by rw [hU]; exact hV.moved hW.alike, by rw [hU]; exact hZ.moved hW.alike⟩
  have hl := lv_entry [.ref (adK i)] (n := 1) (Nat.le_of_ble_eq_true rfl)
  rw [lg_entry_eq]
  generalize (lg_sl [.ref (adK i)] ++ List.replicate (1 - (lg_sl [.ref (adK i)]).length) Slot.unset).toArray = ls at hl ⊢
  have hl : lv_has ls 1 [(0, .ref (adK i))] := hl
  refine va_gets hx hb hZ.1 hS hown (hT tf_J0_38) (fun _ h => h) dJ0_isLatin1_aae02_0 ?_
  refine lv_if_eq (tgt := 17) hx hb dJ0_isLatin1_aae02_3 (by decide) (fun h => absurd h (by decide)) (fun _ => ?_)
  refine lv_aload_n hx hb dJ0_isLatin1_aae02_6 rfl (lv_at hl 0 rfl) ?_
  refine vk_getf hx hb (hV.1 i hi).2.1 hS hown (hT tf_J0_15) (fun _ h => h) dJ0_isLatin1_aae02_7 ?_
  refine lv_if_ne (tgt := 17) hx hb dJ0_isLatin1_aae02_10 (by decide) (fun h => absurd rfl h) (fun _ => ?_)
  refine lv_iconst (v := 1) hx hb dJ0_isLatin1_aae02_13 (by decide) ?_
  refine lv_goto (tgt := 18) hx hb dJ0_isLatin1_aae02_14 (by decide) ?_
  exact W.zret hx hb hr (by decide) (fun t ht hW => ⟨rfl, ht⟩) (fun _ h => by cases h) dJ0_isLatin1_aae02_18
set_option maxHeartbeats 4000000 in
theorem j_pre (l : Launch) (d : Nat) {k n : Nat} {v : Value} (hv1 : v.category = 1) (hk : k < n) (hn : n ≤ 72) : Met l jPre.1 (wl jPre) (rmD (d)) (SP adK adV [.int (nI k), .int (nI n), v]) (SQ (nI k)) 0 0 (fun _ => False) := by
  refine Met.ofW (cc := jPre.2.1) (maxL := 3) (ret := jPre.2.2.2.1) (by decide) rfl ?_
  intro p e s m args below meth c s₁ B hml hv
  obtain ⟨rfl, hV, hZ⟩ := hv
  have hx := B.exec
  have hb := B.bytes
  have hr := B.returns
  have hts := atoms_spec (ws := wl jPre) B.pre
  have hT : ∀ {w : Cond}, inT w → w.before [.int (nI k), .int (nI n), v].toArray s = true := fun h => hts _ (inT.good (y := jPre) h).1
  have hown : s.vm.findClass RJ3 = some m.cls := findClass_of_methodNamed B.named
  have hlocks := B.notSynchronized
  have hS : va_S (fun _ => False) s.heap s.heap [] := va_S.rf
  have hU : ∀ (As : List Value) (U : State), U.heap = s.heap → s.WarmedH U.vm → SP adK adV As As.toArray U := fun As U hU hW => ⟨rfl, by rw [hU]; exact hV.moved hW.alike, by rw [hU]; exact hZ.moved hW.alike⟩
  have hl := lv_entry [.int (nI k), .int (nI n), v] (n := 3) (by simp [lg_sl, hv1, show (Value.int (nI k)).category = 1 from rfl, show (Value.int (nI n)).category = 1 from rfl])
  rw [lg_entry_eq]
  generalize (lg_sl [.int (nI k), .int (nI n), v] ++ List.replicate (3 - (lg_sl [.int (nI k), .int (nI n), v]).length) Slot.unset).toArray = ls at hl ⊢
  have a0 : ls[0]? = some (.val (.int (nI k))) := lv_at hl 0 rfl
  have a1 : ls[1]? = some (.val (.int (nI n))) := lv_at hl 1 rfl
  refine lv_iload_n hx hb dJ3_checkIndex_8e157_0 rfl a0 ?_
  refine lv_if_lt (tgt := 9) hx hb dJ3_checkIndex_8e157_1 (by decide) (fun h => absurd h (nI_pos (by omega))) (fun _ => ?_)
  refine lv_iload_n hx hb dJ3_checkIndex_8e157_4 rfl a0 ?_
  refine lv_iload_n hx hb dJ3_checkIndex_8e157_5 rfl a1 ?_
  refine lv_icmp_lt (tgt := 16) hx hb dJ3_checkIndex_8e157_6 (by decide) (fun _ => ?_) (fun h => absurd (nI_lt hk (by omega)) h)
  refine lv_iload_n hx hb dJ3_checkIndex_8e157_16 rfl a0 ?_
  exact W.zret hx hb hr rfl (fun t ht hW => ⟨rfl, ht⟩) (fun _ h => by cases h) dJ3_checkIndex_8e157_17
set_option maxHeartbeats 4000000 in
theorem j_chk (l : Launch) (d : Nat) {k n : Nat} (hk : k < n) (hn : n ≤ 72) : Met l jChk.1 (wl jChk) (rmD (d + 1)) (SP adK adV [.int (nI k), .int (nI n)]) (SQv) 0 0 (fun _ => False) := by
  refine Met.ofW (cc := jChk.2.1) (maxL := 2) (ret := jChk.2.2.2.1) (by decide) rfl ?_
  intro p e s m args below meth c s₁ B hml hv
  obtain ⟨rfl, hV, hZ⟩ := hv
  have hx := B.exec
  have hb := B.bytes
  have hr := B.returns
  have hts := atoms_spec (ws := wl jChk) B.pre
  have hT : ∀ {w : Cond}, inT w → w.before [.int (nI k), .int (nI n)].toArray s = true := fun h => hts _ (inT.good (y := jChk) h).1
  have hown : s.vm.findClass RJ0 = some m.cls := findClass_of_methodNamed B.named
  have hlocks := B.notSynchronized
  have hS : va_S (fun _ => False) s.heap s.heap [] := va_S.rf
  have hU : ∀ (As : List Value) (U : State), U.heap = s.heap → s.WarmedH U.vm → SP adK adV As As.toArray U := fun As U hU hW => ⟨rfl, by rw [hU]; exact hV.moved hW.alike, by rw [hU]; exact hZ.moved hW.alike⟩
  have hl := lv_entry [.int (nI k), .int (nI n)] (n := 2) (Nat.le_of_ble_eq_true rfl)
  rw [lg_entry_eq]
  generalize (lg_sl [.int (nI k), .int (nI n)] ++ List.replicate (2 - (lg_sl [.int (nI k), .int (nI n)]).length) Slot.unset).toArray = ls at hl ⊢
  have hl : lv_has ls 2 [(0, .int (nI k)), (1, .int (nI n))] := hl
  obtain ⟨v, hv1, hZv⟩ := hZ.2
  refine lv_iload_n hx hb dJ0_checkIndex_df160_0 rfl (lv_at hl 0 rfl) ?_
  refine lv_iload_n hx hb dJ0_checkIndex_df160_1 rfl (lv_at hl 1 rfl) ?_
  refine va_gets hx hb hZv hS hown (hT tf_J0_1053) (fun _ h => h) dJ0_checkIndex_df160_2 ?_
  refine run_S (va_runS (As := [.int (nI k), .int (nI n), v]) (rest := []) (nL := jChk.2.2.1) ⟨hx, hb, hml, hown, hts⟩ (j_pre (adK := adK) (adV := adV) l d (k := k) (n := n) hv1 hk hn) ⟨callB_of 3 hts (wl_good (y := jChk) (y' := jPre) tc_J3_checkIndex_8e157) rfl rfl rfl (hT tin_J3) (hT tm_J0_1059) (by decide +kernel) (rm_ok (by decide)), hT tst_J3_checkIndex_8e157⟩ ⟨SP.blind, fun U h1 h2 => hU _ U h1 h2⟩ rfl rfl hl.1 rfl (lv_room (Nat.le_of_ble_eq_true rfl)) dJ0_checkIndex_df160_5 ⟨Nat.le_refl _, Nat.le_refl _⟩) ?_
  refine lv_pop hx hb dJ0_checkIndex_df160_8 rfl ?_
  exact W.vret hx hb hr (fun t ht hW => ⟨rfl, ht⟩) (fun _ h => by cases h) dJ0_checkIndex_df160_9
set_option maxHeartbeats 4000000 in
theorem j_l1c (l : Launch) (d : Nat) {i k b : Nat} (hi : i < 3) (hk : (strB i)[k]? = some b) : Met l jL1c.1 (wl jL1c) (rmD (d + 2)) (SP adK adV [.ref (adV i), .int (nI k)]) (SQ (nI b)) 0 0 (fun _ => False) := by
  refine Met.ofW (cc := jL1c.2.1) (maxL := 2) (ret := jL1c.2.2.2.1) (by decide) rfl ?_
  intro p e s m args below meth c s₁ B hml hv
  obtain ⟨rfl, hV, hZ⟩ := hv
  have hx := B.exec
  have hb := B.bytes
  have hr := B.returns
  have hts := atoms_spec (ws := wl jL1c) B.pre
  have hT : ∀ {w : Cond}, inT w → w.before [.ref (adV i), .int (nI k)].toArray s = true := fun h => hts _ (inT.good (y := jL1c) h).1
  have hown : s.vm.findClass RJ1 = some m.cls := findClass_of_methodNamed B.named
  have hlocks := B.notSynchronized
  have hS : va_S (fun _ => False) s.heap s.heap [] := va_S.rf
  have hU : ∀ (As : List Value) (U : State), U.heap = s.heap → s.WarmedH U.vm → SP adK adV As As.toArray U := fun As U hU hW => ⟨rfl, by rw [hU]; exact hV.moved hW.alike, by rw [hU]; exact hZ.moved hW.alike⟩
  have hl := lv_entry [.ref (adV i), .int (nI k)] (n := 2) (Nat.le_of_ble_eq_true rfl)
  rw [lg_entry_eq]
  generalize (lg_sl [.ref (adV i), .int (nI k)] ++ List.replicate (2 - (lg_sl [.ref (adV i), .int (nI k)]).length) Slot.unset).toArray = ls at hl ⊢
  have hl : lv_has ls 2 [(0, .ref (adV i)), (1, .int (nI k))] := hl
  obtain ⟨g1, g2, g3⟩ := byt_get hi hk
  obtain ⟨-, -, s72, -, -⟩ := sLen_all ⟨i, hi⟩
  dsimp only at s72
  obtain ⟨c1, c2, c3⟩ := chr_all ⟨b, g3⟩
  dsimp only at c1 c2 c3
  have hTT : va_T .byte (adV i) (sLen i) (fun j => .int ((byt0.getD i []).getD j 0)) (fun _ => False) s s.heap := (hV.1 i hi).2.2.2
  have l1 := nI_clamp (show k < 2 ^ 31 by omega)
  refine lv_iload_n hx hb dJ1_charAt_3b067_0 rfl (lv_at hl 1 rfl) ?_
  refine lv_aload_n hx hb dJ1_charAt_3b067_1 rfl (lv_at hl 0 rfl) ?_
  refine va_tlen (v := nI (sLen i)) hx hb hTT hS rfl dJ1_charAt_3b067_2 ?_
  refine run_Sv (va_runS (As := [.int (nI k), .int (nI (sLen i))]) (rest := []) (nL := jL1c.2.2.1) ⟨hx, hb, hml, hown, hts⟩ (j_chk (adK := adK) (adV := adV) l d g2 s72) ⟨callB_of 2 hts (wl_good (y := jL1c) (y' := jChk) tc_J0_checkIndex_df160) rfl rfl rfl (hT tin_J0) (hT tm_J1_9) (by decide +kernel) (rm_ok (by decide)), hT tst_J0_checkIndex_df160⟩ ⟨SP.blind, fun U h1 h2 => hU _ U h1 h2⟩ rfl rfl hl.1 rfl (lv_room (Nat.le_of_ble_eq_true rfl)) dJ1_charAt_3b067_3 ⟨Nat.le_refl _, Nat.le_refl _⟩) ?_
  refine lv_aload_n hx hb dJ1_charAt_3b067_6 rfl (lv_at hl 0 rfl) ?_
  refine lv_iload_n hx hb dJ1_charAt_3b067_7 rfl (lv_at hl 1 rfl) ?_
  refine va_tb (v := .int (nI b)) hx hb hTT hS (vp_in_nI g2 (by omega)) (by rw [l1]; exact congrArg Value.int g1) dJ1_charAt_3b067_8 ?_
  refine lv_sipush (v := 255) hx hb dJ1_charAt_3b067_9 (by decide) ?_
  refine lv_iand hx hb dJ1_charAt_3b067_12 ?_
  refine lv_i2c hx hb dJ1_charAt_3b067_13 c1 ?_
  exact W.zret hx hb hr c3 (fun t ht hW => ⟨rfl, ht⟩) (fun _ h => by cases h) dJ1_charAt_3b067_14
set_option maxHeartbeats 4000000 in
theorem j_can (l : Launch) (d : Nat) {k : Nat} (hk : k < 128) : Met l jCan.1 (wl jCan) (rmD (d)) (SP adK adV [.int (nI k)]) (SQ 1) 0 0 (fun _ => False) := by
  refine Met.ofW (cc := jCan.2.1) (maxL := 1) (ret := jCan.2.2.2.1) (by decide) rfl ?_
  intro p e s m args below meth c s₁ B hml hv
  obtain ⟨rfl, hV, hZ⟩ := hv
  have hx := B.exec
  have hb := B.bytes
  have hr := B.returns
  have hts := atoms_spec (ws := wl jCan) B.pre
  have hT : ∀ {w : Cond}, inT w → w.before [.int (nI k)].toArray s = true := fun h => hts _ (inT.good (y := jCan) h).1
  have hown : s.vm.findClass RJ1 = some m.cls := findClass_of_methodNamed B.named
  have hlocks := B.notSynchronized
  have hS : va_S (fun _ => False) s.heap s.heap [] := va_S.rf
  have hU : ∀ (As : List Value) (U : State), U.heap = s.heap → s.WarmedH U.vm → SP adK adV As As.toArray U := fun As U hU hW => ⟨rfl, by rw [hU]; exact hV.moved hW.alike, by rw [hU]; exact hZ.moved hW.alike⟩
  have hl := lv_entry [.int (nI k)] (n := 1) (Nat.le_of_ble_eq_true rfl)
  rw [lg_entry_eq]
  generalize (lg_sl [.int (nI k)] ++ List.replicate (1 - (lg_sl [.int (nI k)]).length) Slot.unset).toArray = ls at hl ⊢
  have hl : lv_has ls 1 [(0, .int (nI k))] := hl
  refine lv_iload_n hx hb dJ1_canEncode_9a6ad_0 rfl (lv_at hl 0 rfl) ?_
  refine lv_if_lt (tgt := 15) hx hb dJ1_canEncode_9a6ad_1 (by decide) (fun h => absurd h (nI_pos (by omega))) (fun _ => ?_)
  refine lv_iload_n hx hb dJ1_canEncode_9a6ad_4 rfl (lv_at hl 0 rfl) ?_
  refine lv_sipush (v := nI 255) hx hb dJ1_canEncode_9a6ad_5 (by decide) ?_
  refine lv_icmp_gt (tgt := 15) hx hb dJ1_canEncode_9a6ad_8 (by decide) (fun h => absurd h (nI_nlt (by omega) (by omega))) (fun _ => ?_)
  refine lv_iconst (v := 1) hx hb dJ1_canEncode_9a6ad_11 (by decide) ?_
  refine lv_goto (tgt := 16) hx hb dJ1_canEncode_9a6ad_12 (by decide) ?_
  exact W.zret hx hb hr (by decide) (fun t ht hW => ⟨rfl, ht⟩) (fun _ h => by cases h) dJ1_canEncode_9a6ad_16
set_option maxHeartbeats 4000000 in
theorem j_ixc (l : Launch) (d : Nat) {i k : Nat} (hi : i < 3) (hk : k < 128) : Met l jIxc.1 (wl jIxc) (rmD (d)) (SP adK adV [.ref (adV i), .int (nI k), .int 0, .int (nI (sLen i))]) (SQ (strOf k (strB i) 0)) 0 0 (fun _ => False) := by
  refine Met.ofW (cc := jIxc.2.1) (maxL := 6) (ret := jIxc.2.2.2.1) (by decide) rfl ?_
  intro p e s m args below meth c s₁ B hml hv
  obtain ⟨rfl, hV, hZ⟩ := hv
  have hx := B.exec
  have hb := B.bytes
  have hr := B.returns
  have hts := atoms_spec (ws := wl jIxc) B.pre
  have hT : ∀ {w : Cond}, inT w → w.before [.ref (adV i), .int (nI k), .int 0, .int (nI (sLen i))].toArray s = true := fun h => hts _ (inT.good (y := jIxc) h).1
  have hown : s.vm.findClass RJ1 = some m.cls := findClass_of_methodNamed B.named
  have hlocks := B.notSynchronized
  have hS : va_S (fun _ => False) s.heap s.heap [] := va_S.rf
  have hU : ∀ (As : List Value) (U : State), U.heap = s.heap → s.WarmedH U.vm → SP adK adV As As.toArray U := fun As U hU hW => ⟨rfl, by rw [hU]; exact hV.moved hW.alike, by rw [hU]; exact hZ.moved hW.alike⟩
  have hl := lv_entry [.ref (adV i), .int (nI k), .int 0, .int (nI (sLen i))] (n := 6) (Nat.le_of_ble_eq_true rfl)
  rw [lg_entry_eq]
  generalize (lg_sl [.ref (adV i), .int (nI k), .int 0, .int (nI (sLen i))] ++ List.replicate (6 - (lg_sl [.ref (adV i), .int (nI k), .int 0, .int (nI (sLen i))]).length) Slot.unset).toArray = ls at hl ⊢
  have hl : lv_has ls 6 [(0, .ref (adV i)), (1, .int (nI k)), (2, .int 0), (3, .int (nI (sLen i)))] := hl
  obtain ⟨c1, c2, c3⟩ := chr_all ⟨k, hk⟩
  dsimp only at c1 c2 c3
  obtain ⟨sl, -, s72, -, -⟩ := sLen_all ⟨i, hi⟩
  dsimp only at sl s72
  have hTT : va_T .byte (adV i) (sLen i) (fun j => .int ((byt0.getD i []).getD j 0)) (fun _ => False) s s.heap := (hV.1 i hi).2.2.2
  have loop : ∀ (r j : Nat) (ls : Array Slot), j + r = sLen i → lv_has ls 6 [(5, .int (nI j)), (4, .int (nI k)), (0, .ref (adV i)), (3, .int (nI (sLen i)))] → strOf k ((strB i).drop j) j = strOf k (strB i) 0 → W p l e (rmD d) s m [.ref (adV i), .int (nI k), .int 0, .int (nI (sLen i))].toArray below meth c s.heap [] 0 0 (MQ below (SQ (strOf k (strB i) 0)) [.ref (adV i), .int (nI k), .int 0, .int (nI (sLen i))].toArray s 0 0 (fun _ => False)) (F0 m 7 ls []) := by
    intro r
    induction r with
    | zero =>
      intro j ls hj hl hs
      refine lv_iload hx hb dJ1_indexOfChar_4cfef_7 (lv_at hl 0 rfl) ?_
      refine lv_iload_n hx hb dJ1_indexOfChar_4cfef_9 rfl (lv_at hl 3 rfl) ?_
      refine lv_icmp_ge (tgt := 31) hx hb dJ1_indexOfChar_4cfef_10 (by decide) (fun _ => ?_) (fun h => absurd (nI_le (by omega) (by omega)) h)
      refine lv_iconst (v := -1) hx hb dJ1_indexOfChar_4cfef_31 (by decide) ?_
      rw [List.drop_eq_nil_iff.mpr (by omega), strOf] at hs
      rw [← hs]
      exact W.zret hx hb hr rfl (fun t ht hW => ⟨rfl, ht⟩) (fun _ h => by cases h) dJ1_indexOfChar_4cfef_32
    | succ r ih =>
      intro j ls hj hl hs
      have hjl : j < (strB i).length := by omega
      have hget : (strB i)[j]? = some ((strB i)[j]) := List.getElem?_eq_getElem hjl
      obtain ⟨g1, g2, g3⟩ := byt_get hi hget
      have l1 := nI_clamp (show j < 2 ^ 31 by omega)
      rw [List.drop_eq_getElem_cons hjl, strOf] at hs
      refine lv_iload hx hb dJ1_indexOfChar_4cfef_7 (lv_at hl 0 rfl) ?_
      refine lv_iload_n hx hb dJ1_indexOfChar_4cfef_9 rfl (lv_at hl 3 rfl) ?_
      refine lv_icmp_ge (tgt := 31) hx hb dJ1_indexOfChar_4cfef_10 (by decide) (fun h => absurd h (nI_ge (by omega) (by omega))) (fun _ => ?_)
      refine lv_aload_n hx hb dJ1_indexOfChar_4cfef_13 rfl (lv_at hl 2 rfl) ?_
      refine lv_iload hx hb dJ1_indexOfChar_4cfef_14 (lv_at hl 0 rfl) ?_
      refine va_tb (v := .int (nI ((strB i)[j]))) hx hb hTT hS (vp_in_nI g2 (by omega)) (by rw [l1]; exact congrArg Value.int g1) dJ1_indexOfChar_4cfef_16 ?_
      refine lv_iload hx hb dJ1_indexOfChar_4cfef_17 (lv_at hl 1 rfl) ?_
      refine lv_icmp_ne (tgt := 25) hx hb dJ1_indexOfChar_4cfef_19 (by decide) (fun hne => ?_) (fun heq => ?_)
      · rw [if_neg (fun h => hne (by rw [h]))] at hs
        refine lv_iinc (v := nI (j + 1)) (lv' := [(5, .int (nI (j + 1))), (4, .int (nI k)), (0, .ref (adV i)), (3, .int (nI (sLen i)))]) hx hb dJ1_indexOfChar_4cfef_25 hl (k := 0) rfl (nI_1 j) (by decide) rfl (fun ls hl => ?_)
        refine lv_goto (tgt := 7) hx hb dJ1_indexOfChar_4cfef_28 (by decide) ?_
        exact ih (j + 1) ls (by omega) hl hs
      · have he : (strB i)[j] = k := (nI_eq (by omega) (by omega)).mp heq
        rw [if_pos he] at hs
        refine lv_iload hx hb dJ1_indexOfChar_4cfef_22 (lv_at hl 0 rfl) ?_
        rw [← hs]
        exact W.zret hx hb hr rfl (fun t ht hW => ⟨rfl, ht⟩) (fun _ h => by cases h) dJ1_indexOfChar_4cfef_24
  refine lv_iload_n hx hb dJ1_indexOfChar_4cfef_0 rfl (lv_at hl 1 rfl) ?_
  refine lv_i2b hx hb dJ1_indexOfChar_4cfef_1 c2 ?_
  refine lv_istore (lv' := [(4, .int (nI k)), (0, .ref (adV i)), (1, .int (nI k)), (2, .int 0), (3, .int (nI (sLen i)))]) hx hb dJ1_indexOfChar_4cfef_2 hl (by decide) rfl (fun ls hl => ?_)
  refine lv_iload_n hx hb dJ1_indexOfChar_4cfef_4 rfl (lv_at hl 3 rfl) ?_
  refine lv_istore (lv' := [(5, .int 0), (4, .int (nI k)), (0, .ref (adV i)), (1, .int (nI k)), (2, .int 0), (3, .int (nI (sLen i)))]) hx hb dJ1_indexOfChar_4cfef_5 hl (by decide) rfl (fun ls hl => ?_)
  exact loop (sLen i) 0 ls (by omega) (lv_sub hl [0, 1, 2, 5] rfl) rfl
set_option maxHeartbeats 4000000 in
theorem j_l1i (l : Launch) (d : Nat) {i k : Nat} (hi : i < 3) (hk : k < 128) : Met l jL1i.1 (wl jL1i) (rmD (d + 1)) (SP adK adV [.ref (adV i), .int (nI k), .int 0, .int (nI (sLen i))]) (SQ (strOf k (strB i) 0)) 0 0 (fun _ => False) := by
  refine Met.ofW (cc := jL1i.2.1) (maxL := 4) (ret := jL1i.2.2.2.1) (by decide) rfl ?_
  intro p e s m args below meth c s₁ B hml hv
  obtain ⟨rfl, hV, hZ⟩ := hv
  have hx := B.exec
  have hb := B.bytes
  have hr := B.returns
  have hts := atoms_spec (ws := wl jL1i) B.pre
  have hT : ∀ {w : Cond}, inT w → w.before [.ref (adV i), .int (nI k), .int 0, .int (nI (sLen i))].toArray s = true := fun h => hts _ (inT.good (y := jL1i) h).1
  have hown : s.vm.findClass RJ1 = some m.cls := findClass_of_methodNamed B.named
  have hlocks := B.notSynchronized
  have hS : va_S (fun _ => False) s.heap s.heap [] := va_S.rf
  have hU : ∀ (As : List Value) (U : State), U.heap = s.heap → s.WarmedH U.vm → SP adK adV As As.toArray U := fun As U hU hW => ⟨rfl, by rw [hU]; exact hV.moved hW.alike, by rw [hU]; exact hZ.moved hW.alike⟩
  have hl := lv_entry [.ref (adV i), .int (nI k), .int 0, .int (nI (sLen i))] (n := 4) (Nat.le_of_ble_eq_true rfl)
  rw [lg_entry_eq]
  generalize (lg_sl [.ref (adV i), .int (nI k), .int 0, .int (nI (sLen i))] ++ List.replicate (4 - (lg_sl [.ref (adV i), .int (nI k), .int 0, .int (nI (sLen i))]).length) Slot.unset).toArray = ls at hl ⊢
  have hl : lv_has ls 4 [(0, .ref (adV i)), (1, .int (nI k)), (2, .int 0), (3, .int (nI (sLen i)))] := hl
  obtain ⟨-, s0, s72, -, -⟩ := sLen_all ⟨i, hi⟩
  dsimp only at s0 s72
  have hTT : va_T .byte (adV i) (sLen i) (fun j => .int ((byt0.getD i []).getD j 0)) (fun _ => False) s s.heap := (hV.1 i hi).2.2.2
  refine lv_iload_n hx hb dJ1_indexOf_4cfef_0 rfl (lv_at hl 1 rfl) ?_
  refine run_S (va_runS (As := [.int (nI k)]) (rest := []) (nL := jL1i.2.2.1) ⟨hx, hb, hml, hown, hts⟩ (j_can (adK := adK) (adV := adV) l d hk) ⟨callB_of 1 hts (wl_good (y := jL1i) (y' := jCan) tc_J1_canEncode_9a6ad) rfl rfl rfl (hT tin_J1) (hT tm_J1_88) (by decide +kernel) (rm_ok (by decide)), hT tst_J1_canEncode_9a6ad⟩ ⟨SP.blind, fun U h1 h2 => hU _ U h1 h2⟩ rfl rfl hl.1 rfl (lv_room (Nat.le_of_ble_eq_true rfl)) dJ1_indexOf_4cfef_1 ⟨Nat.le_refl _, Nat.le_refl _⟩) ?_
  refine lv_if_ne (tgt := 9) hx hb dJ1_indexOf_4cfef_4 (by decide) (fun _ => ?_) (fun h => absurd h (by decide))
  refine lv_iload_n hx hb dJ1_indexOf_4cfef_9 rfl (lv_at hl 2 rfl) ?_
  refine lv_iconst (v := 0) hx hb dJ1_indexOf_4cfef_10 (by decide) ?_
  refine va_mmax (own := RJ1) hx hb (by rw [hml]; exact hl.1.symm) hown (hT tm_J1_92) (hT tst_J9_max_7cf53) (hT tin_J9) (hT tc_mmax) (by simp only [rmD, headSpec]; omega) (by simp only [rmD, headSpec]; simp; omega) (Nat.zero_le _) (Nat.zero_le _) dJ1_indexOf_4cfef_11 ?_
  rw [if_neg (show ¬ (0 : Int32) < 0 by decide)]
  refine lv_istore_n (lv' := [(2, .int 0), (0, .ref (adV i)), (1, .int (nI k)), (3, .int (nI (sLen i)))]) hx hb dJ1_indexOf_4cfef_14 rfl hl (by decide) rfl (fun ls hl => ?_)
  refine lv_iload_n hx hb dJ1_indexOf_4cfef_15 rfl (lv_at hl 3 rfl) ?_
  refine lv_aload_n hx hb dJ1_indexOf_4cfef_16 rfl (lv_at hl 1 rfl) ?_
  refine va_tlen (v := nI (sLen i)) hx hb hTT hS rfl dJ1_indexOf_4cfef_17 ?_
  refine va_mmin (own := RJ1) hx hb (by rw [hml]; exact hl.1.symm) hown (hT tm_J1_38) (hT tst_J9_min_7cf53) (hT tin_J9) (hT tc_mmin) (by simp only [rmD, headSpec]; omega) (by simp only [rmD, headSpec]; simp; omega) (Nat.zero_le _) (Nat.zero_le _) dJ1_indexOf_4cfef_18 ?_
  rw [if_neg (show ¬ nI (sLen i) < nI (sLen i) from fun h => Int32.lt_irrefl h)]
  refine lv_istore_n (lv' := [(3, .int (nI (sLen i))), (2, .int 0), (0, .ref (adV i)), (1, .int (nI k))]) hx hb dJ1_indexOf_4cfef_21 rfl hl (by decide) rfl (fun ls hl => ?_)
  refine lv_iload_n hx hb dJ1_indexOf_4cfef_22 rfl (lv_at hl 1 rfl) ?_
  refine lv_iload_n hx hb dJ1_indexOf_4cfef_23 rfl (lv_at hl 0 rfl) ?_
  refine lv_icmp_lt (tgt := 29) hx hb dJ1_indexOf_4cfef_24 (by decide) (fun _ => ?_) (fun h => absurd (nI_lt (a := 0) s0 (by omega)) h)
  refine lv_aload_n hx hb dJ1_indexOf_4cfef_29 rfl (lv_at hl 2 rfl) ?_
  refine lv_iload_n hx hb dJ1_indexOf_4cfef_30 rfl (lv_at hl 3 rfl) ?_
  refine lv_iload_n hx hb dJ1_indexOf_4cfef_31 rfl (lv_at hl 1 rfl) ?_
  refine lv_iload_n hx hb dJ1_indexOf_4cfef_32 rfl (lv_at hl 0 rfl) ?_
  refine run_S (va_runS (As := [.ref (adV i), .int (nI k), .int 0, .int (nI (sLen i))]) (rest := []) (nL := jL1i.2.2.1) ⟨hx, hb, hml, hown, hts⟩ (j_ixc (adK := adK) (adV := adV) l d hi hk) ⟨callB_of 4 hts (wl_good (y := jL1i) (y' := jIxc) tc_J1_indexOfChar_4cfef) rfl rfl rfl (hT tin_J1) (hT tm_J1_95) (by decide +kernel) (rm_ok (by decide)), hT tst_J1_indexOfChar_4cfef⟩ ⟨SP.blind, fun U h1 h2 => hU _ U h1 h2⟩ rfl rfl hl.1 rfl (lv_room (Nat.le_of_ble_eq_true rfl)) dJ1_indexOf_4cfef_33 ⟨Nat.le_refl _, Nat.le_refl _⟩) ?_
  exact W.zret hx hb hr rfl (fun t ht hW => ⟨rfl, ht⟩) (fun _ h => by cases h) dJ1_indexOf_4cfef_36
theorem sShr0 {n : Nat} (h : n ≤ 72) : nI n >>> ((0 : Int32) &&& 31) = nI n := by
  have : ∀ k : Fin 73, nI k.val >>> ((0 : Int32) &&& 31) = nI k.val := by decide +kernel
  exact this ⟨n, by omega⟩
set_option maxHeartbeats 4000000 in
theorem j_len (l : Launch) (d : Nat) {i : Nat} (hi : i < 3) : Met l jLen.1 (wl jLen) (rmD (d + 1)) (SP adK adV [.ref (adK i)]) (SQ (nI (sLen i))) 0 0 (fun _ => False) := by
  refine Met.ofW (cc := jLen.2.1) (maxL := 1) (ret := jLen.2.2.2.1) (by decide) rfl ?_
  intro p e s m args below meth c s₁ B hml hv
  obtain ⟨rfl, hV, hZ⟩ := hv
  have hx := B.exec
  have hb := B.bytes
  have hr := B.returns
  have hts := atoms_spec (ws := wl jLen) B.pre
  have hT : ∀ {w : Cond}, inT w → w.before [.ref (adK i)].toArray s = true := fun h => hts _ (inT.good (y := jLen) h).1
  have hown : s.vm.findClass RJ0 = some m.cls := findClass_of_methodNamed B.named
  have hlocks := B.notSynchronized
  have hS : va_S (fun _ => False) s.heap s.heap [] := va_S.rf
  have hU : ∀ (As : List Value) (U : State), U.heap = s.heap → s.WarmedH U.vm → SP adK adV As As.toArray U := fun As U hU hW => ⟨rfl, by rw [hU]; exact hV.moved hW.alike, by rw [hU]; exact hZ.moved hW.alike⟩
  have hl := lv_entry [.ref (adK i)] (n := 1) (Nat.le_of_ble_eq_true rfl)
  rw [lg_entry_eq]
  generalize (lg_sl [.ref (adK i)] ++ List.replicate (1 - (lg_sl [.ref (adK i)]).length) Slot.unset).toArray = ls at hl ⊢
  have hl : lv_has ls 1 [(0, .ref (adK i))] := hl
  have a0 : ls[0]? = some (.val (.ref (adK i))) := lv_at hl 0 rfl
  obtain ⟨-, s0, s72, -, -⟩ := sLen_all ⟨i, hi⟩
  dsimp only at s0 s72
  refine lv_aload_n hx hb dJ0_length_8abf5_0 rfl a0 ?_
  refine vk_getf hx hb (hV.1 i hi).2.2.1 hS hown (hT tf_J0_9) (fun _ h => h) dJ0_length_8abf5_1 ?_
  refine va_tlen (v := nI (sLen i)) hx hb (hV.1 i hi).2.2.2 hS rfl dJ0_length_8abf5_4 ?_
  refine lv_aload_n hx hb dJ0_length_8abf5_5 rfl a0 ?_
  refine run_S (va_runV (As := []) (rest := [.int (nI (sLen i))]) (nL := jLen.2.2.1) ⟨hx, hb, hml, hown, hts⟩ (j_coder (adK := adK) (adV := adV) l d hi) (cwV 0 hts (gdV (y := jLen) (y' := jCoder) tm_J0_335 ti_J0_coder_7d493 tse_J0_coder_7d493 tin_J0 tc_J0_coder_7d493) rfl rfl rfl (by decide +kernel) (rm_ok (by decide))) ⟨SP.blind, vk_recv hV hi hS, fun U h1 h2 => hU _ U h1 h2⟩ rfl rfl hl.1 rfl (lv_room (Nat.le_of_ble_eq_true rfl)) dJ0_length_8abf5_6 ⟨Nat.le_refl _, Nat.le_refl _⟩) ?_
  refine lv_ishr hx hb dJ0_length_8abf5_9 ?_
  rw [sShr0 s72]
  exact W.zret hx hb hr rfl (fun t ht hW => ⟨rfl, ht⟩) (fun _ h => by cases h) dJ0_length_8abf5_10
set_option maxHeartbeats 4000000 in
theorem j_ix2 (l : Launch) (d : Nat) {i k : Nat} (hi : i < 3) (hk : k < 128) : Met l jIx2.1 (wl jIx2) (rmD (d + 2)) (SP adK adV [.ref (adK i), .int (nI k), .int 0]) (SQ (strOf k (strB i) 0)) 0 0 (fun _ => False) := by
  refine Met.ofW (cc := jIx2.2.1) (maxL := 3) (ret := jIx2.2.2.2.1) (by decide) rfl ?_
  intro p e s m args below meth c s₁ B hml hv
  obtain ⟨rfl, hV, hZ⟩ := hv
  have hx := B.exec
  have hb := B.bytes
  have hr := B.returns
  have hts := atoms_spec (ws := wl jIx2) B.pre
  have hT : ∀ {w : Cond}, inT w → w.before [.ref (adK i), .int (nI k), .int 0].toArray s = true := fun h => hts _ (inT.good (y := jIx2) h).1
  have hown : s.vm.findClass RJ0 = some m.cls := findClass_of_methodNamed B.named
  have hlocks := B.notSynchronized
  have hS : va_S (fun _ => False) s.heap s.heap [] := va_S.rf
  have hU : ∀ (As : List Value) (U : State), U.heap = s.heap → s.WarmedH U.vm → SP adK adV As As.toArray U := fun As U hU hW => ⟨rfl, by rw [hU]; exact hV.moved hW.alike, by rw [hU]; exact hZ.moved hW.alike⟩
  have hl := lv_entry [.ref (adK i), .int (nI k), .int 0] (n := 3) (Nat.le_of_ble_eq_true rfl)
  rw [lg_entry_eq]
  generalize (lg_sl [.ref (adK i), .int (nI k), .int 0] ++ List.replicate (3 - (lg_sl [.ref (adK i), .int (nI k), .int 0]).length) Slot.unset).toArray = ls at hl ⊢
  have hl : lv_has ls 3 [(0, .ref (adK i)), (1, .int (nI k)), (2, .int 0)] := hl
  refine lv_aload_n hx hb dJ0_indexOf_7cf53_0 rfl (lv_at hl 0 rfl) ?_
  refine run_S (va_runV (As := []) (rest := []) (nL := jIx2.2.2.1) ⟨hx, hb, hml, hown, hts⟩ (j_latin (adK := adK) (adV := adV) l (d + 1) hi) (cwV 0 hts (gdV (y := jIx2) (y' := jLatin) tm_J0_492 ti_J0_isLatin1_aae02 tse_J0_isLatin1_aae02 tin_J0 tc_J0_isLatin1_aae02) rfl rfl rfl (by decide +kernel) (rm_ok (by decide))) ⟨SP.blind, vk_recv hV hi hS, fun U h1 h2 => hU _ U h1 h2⟩ rfl rfl hl.1 rfl (lv_room (Nat.le_of_ble_eq_true rfl)) dJ0_indexOf_7cf53_1 ⟨Nat.le_refl _, Nat.le_refl _⟩) ?_
  refine lv_if_eq (tgt := 23) hx hb dJ0_indexOf_7cf53_4 (by decide) (fun h => absurd h (by decide)) (fun _ => ?_)
  refine lv_aload_n hx hb dJ0_indexOf_7cf53_7 rfl (lv_at hl 0 rfl) ?_
  refine vk_getf hx hb (hV.1 i hi).2.2.1 hS hown (hT tf_J0_9) (fun _ h => h) dJ0_indexOf_7cf53_8 ?_
  refine lv_iload_n hx hb dJ0_indexOf_7cf53_11 rfl (lv_at hl 1 rfl) ?_
  refine lv_iload_n hx hb dJ0_indexOf_7cf53_12 rfl (lv_at hl 2 rfl) ?_
  refine lv_aload_n hx hb dJ0_indexOf_7cf53_13 rfl (lv_at hl 0 rfl) ?_
  refine run_S (va_runV (As := []) (rest := [.int 0, .int (nI k), .ref (adV i)]) (nL := jIx2.2.2.1) ⟨hx, hb, hml, hown, hts⟩ (j_len (adK := adK) (adV := adV) l d hi) (cwV 0 hts (gdV (y := jIx2) (y' := jLen) tm_J0_505 ti_J0_length_8abf5 tse_J0_length_8abf5 tin_J0 tc_J0_length_8abf5) rfl rfl rfl (by decide +kernel) (rm_ok (by decide))) ⟨SP.blind, vk_recv hV hi hS, fun U h1 h2 => hU _ U h1 h2⟩ rfl rfl hl.1 rfl (lv_room (Nat.le_of_ble_eq_true rfl)) dJ0_indexOf_7cf53_14 ⟨Nat.le_refl _, Nat.le_refl _⟩) ?_
  refine run_S (va_runS (As := [.ref (adV i), .int (nI k), .int 0, .int (nI (sLen i))]) (rest := []) (nL := jIx2.2.2.1) ⟨hx, hb, hml, hown, hts⟩ (j_l1i (adK := adK) (adV := adV) l d hi hk) ⟨callB_of 4 hts (wl_good (y := jIx2) (y' := jL1i) tc_J1_indexOf_4cfef) rfl rfl rfl (hT tin_J1) (hT tm_J0_637) (by decide +kernel) (rm_ok (by decide)), hT tst_J1_indexOf_4cfef⟩ ⟨SP.blind, fun U h1 h2 => hU _ U h1 h2⟩ rfl rfl hl.1 rfl (lv_room (Nat.le_of_ble_eq_true rfl)) dJ0_indexOf_7cf53_17 ⟨Nat.le_refl _, Nat.le_refl _⟩) ?_
  refine lv_goto (tgt := 36) hx hb dJ0_indexOf_7cf53_20 (by decide) ?_
  exact W.zret hx hb hr rfl (fun t ht hW => ⟨rfl, ht⟩) (fun _ h => by cases h) dJ0_indexOf_7cf53_36
set_option maxHeartbeats 4000000 in
theorem x_len {d i : Nat} {M : Mt} {N : Nt} {P : Pt'} {Q : Qt} (hi : i < 3) (hQ : Q (some (.int (nI (strB i).length))) M N P) : Xs mJ0_length_8abf5 (d + 1) 0 [.ref (200 + i)] [] M N P Q := by
  intro l p e s m args below meth c D aC ad H locs ls hC hP hS hl hn
  obtain ⟨hx, hb, hr, hml, hown, hts, hlocks, hK, hinj, hN, ⟨adV, hV⟩, hZ, -⟩ := hC
  have hT : ∀ {w : Cond}, inT w → w.before args s = true := fun h => hts _ (inT.good (y := mJ0_length_8abf5) h).1
  have hU : ∀ (As : List Value) (U : State), U.heap = H → s.WarmedH U.vm → SP (fun i => ad (200 + i)) adV As As.toArray U := fun As U hU hW => ⟨rfl, by rw [hU]; exact ((hV.kept hS.2.1).moved hW.alike).narrow (fun _ h => h.elim), by rw [hU]; exact ((hZ.kept hS.2.1).moved hW.alike).narrow (fun _ h => h.elim)⟩
  have a0 : ls[0]? = some (.val (.ref (ad (200 + i)))) := lv_get (i := 0) hl rfl rfl
  obtain ⟨sl, s0, s72, -, -⟩ := sLen_all ⟨i, hi⟩
  dsimp only at sl s0 s72
  rw [← sl] at hQ
  refine lv_aload_n hx hb dJ0_length_8abf5_0 rfl a0 ?_
  refine vk_getf hx hb (hV.1 i hi).2.2.1 hS hown (hT tf_J0_9) (fun _ h => h) dJ0_length_8abf5_1 ?_
  refine va_tlen (v := nI (sLen i)) hx hb (hV.1 i hi).2.2.2 hS rfl dJ0_length_8abf5_4 ?_
  refine lv_aload_n hx hb dJ0_length_8abf5_5 rfl a0 ?_
  refine run_S (va_runV (As := []) (rest := [.int (nI (sLen i))]) (nL := mJ0_length_8abf5.2.2.1) ⟨hx, hb, hml, hown, hts⟩ (j_coder (adK := fun i => ad (200 + i)) (adV := adV) l d hi) (cwV 0 hts (gdV (y := mJ0_length_8abf5) (y' := jCoder) tm_J0_335 ti_J0_coder_7d493 tse_J0_coder_7d493 tin_J0 tc_J0_coder_7d493) rfl rfl rfl (by decide +kernel) (rm_ok (by decide))) ⟨SP.blind, vk_recv (adK := fun i => ad (200 + i)) hV hi hS, fun U h1 h2 => hU _ U h1 h2⟩ rfl rfl hl.1 rfl (lv_room (Nat.le_of_ble_eq_true rfl)) dJ0_length_8abf5_6 ⟨Nat.le_refl _, Nat.le_refl _⟩) ?_
  refine lv_ishr hx hb dJ0_length_8abf5_9 ?_
  rw [sShr0 s72]
  exact W.zret hx hb hr rfl (fun t ht hW => ⟨⟨_, M, N, P, rfl, hQ, by rw [ht]; exact hP⟩, hS.F ht⟩) hS.2.2 dJ0_length_8abf5_10
set_option maxHeartbeats 4000000 in
theorem x_chr {d i k b : Nat} {M : Mt} {N : Nt} {P : Pt'} {Q : Qt} (hi : i < 3) (hk : (strB i)[k]? = some b) (hQ : Q (some (.int (nI b))) M N P) : Xs mJ0_charAt_5068e (d + 3) 0 [.ref (200 + i), .int (nI k)] [] M N P Q := by
  intro l p e s m args below meth c D aC ad H locs ls hC hP hS hl hn
  obtain ⟨hx, hb, hr, hml, hown, hts, hlocks, hK, hinj, hN, ⟨adV, hV⟩, hZ, -⟩ := hC
  have hT : ∀ {w : Cond}, inT w → w.before args s = true := fun h => hts _ (inT.good (y := mJ0_charAt_5068e) h).1
  have hU : ∀ (As : List Value) (U : State), U.heap = H → s.WarmedH U.vm → SP (fun i => ad (200 + i)) adV As As.toArray U := fun As U hU hW => ⟨rfl, by rw [hU]; exact ((hV.kept hS.2.1).moved hW.alike).narrow (fun _ h => h.elim), by rw [hU]; exact ((hZ.kept hS.2.1).moved hW.alike).narrow (fun _ h => h.elim)⟩
  have a0 : ls[0]? = some (.val (.ref (ad (200 + i)))) := lv_get (i := 0) hl rfl rfl
  have a1 : ls[1]? = some (.val (.int (nI k))) := lv_get (i := 1) hl rfl rfl
  obtain ⟨-, -, g3⟩ := byt_get hi hk
  obtain ⟨-, -, c3⟩ := chr_all ⟨b, g3⟩
  dsimp only at c3
  refine lv_aload_n hx hb dJ0_charAt_5068e_0 rfl a0 ?_
  refine run_S (va_runV (As := []) (rest := []) (nL := mJ0_charAt_5068e.2.2.1) ⟨hx, hb, hml, hown, hts⟩ (j_latin (adK := fun i => ad (200 + i)) (adV := adV) l (d + 2) hi) (cwV 0 hts (gdV (y := mJ0_charAt_5068e) (y' := jLatin) tm_J0_492 ti_J0_isLatin1_aae02 tse_J0_isLatin1_aae02 tin_J0 tc_J0_isLatin1_aae02) rfl rfl rfl (by decide +kernel) (rm_ok (by decide))) ⟨SP.blind, vk_recv (adK := fun i => ad (200 + i)) hV hi hS, fun U h1 h2 => hU _ U h1 h2⟩ rfl rfl hl.1 rfl (lv_room (Nat.le_of_ble_eq_true rfl)) dJ0_charAt_5068e_1 ⟨Nat.le_refl _, Nat.le_refl _⟩) ?_
  refine lv_if_eq (tgt := 16) hx hb dJ0_charAt_5068e_4 (by decide) (fun h => absurd h (by decide)) (fun _ => ?_)
  refine lv_aload_n hx hb dJ0_charAt_5068e_7 rfl a0 ?_
  refine vk_getf hx hb (hV.1 i hi).2.2.1 hS hown (hT tf_J0_9) (fun _ h => h) dJ0_charAt_5068e_8 ?_
  refine lv_iload_n hx hb dJ0_charAt_5068e_11 rfl a1 ?_
  refine run_S (va_runS (As := [.ref (adV i), .int (nI k)]) (rest := []) (nL := mJ0_charAt_5068e.2.2.1) ⟨hx, hb, hml, hown, hts⟩ (j_l1c (adK := fun i => ad (200 + i)) (adV := adV) l d hi hk) ⟨callB_of 2 hts (wl_good (y := mJ0_charAt_5068e) (y' := jL1c) tc_J1_charAt_3b067) rfl rfl rfl (hT tin_J1) (hT tm_J0_495) (by decide +kernel) (rm_ok (by decide)), hT tst_J1_charAt_3b067⟩ ⟨SP.blind, fun U h1 h2 => hU _ U h1 h2⟩ rfl rfl hl.1 rfl (lv_room (Nat.le_of_ble_eq_true rfl)) dJ0_charAt_5068e_12 ⟨Nat.le_refl _, Nat.le_refl _⟩) ?_
  exact W.zret hx hb hr c3 (fun t ht hW => ⟨⟨_, M, N, P, rfl, hQ, by rw [ht]; exact hP⟩, hS.F ht⟩) hS.2.2 dJ0_charAt_5068e_15
set_option maxHeartbeats 4000000 in
theorem x_ixo {d i k : Nat} {M : Mt} {N : Nt} {P : Pt'} {Q : Qt} (hi : i < 3) (hk : k < 128) (hQ : Q (some (.int (strOf k (strB i) 0))) M N P) : Xs mJ0_indexOf_0f7a4 (d + 3) 0 [.ref (200 + i), .int (nI k)] [] M N P Q := by
  intro l p e s m args below meth c D aC ad H locs ls hC hP hS hl hn
  obtain ⟨hx, hb, hr, hml, hown, hts, hlocks, hK, hinj, hN, ⟨adV, hV⟩, hZ, -⟩ := hC
  have hT : ∀ {w : Cond}, inT w → w.before args s = true := fun h => hts _ (inT.good (y := mJ0_indexOf_0f7a4) h).1
  have hU : ∀ (As : List Value) (U : State), U.heap = H → s.WarmedH U.vm → SP (fun i => ad (200 + i)) adV As As.toArray U := fun As U hU hW => ⟨rfl, by rw [hU]; exact ((hV.kept hS.2.1).moved hW.alike).narrow (fun _ h => h.elim), by rw [hU]; exact ((hZ.kept hS.2.1).moved hW.alike).narrow (fun _ h => h.elim)⟩
  have a0 : ls[0]? = some (.val (.ref (ad (200 + i)))) := lv_get (i := 0) hl rfl rfl
  have a1 : ls[1]? = some (.val (.int (nI k))) := lv_get (i := 1) hl rfl rfl
  refine lv_aload_n hx hb dJ0_indexOf_0f7a4_0 rfl a0 ?_
  refine lv_iload_n hx hb dJ0_indexOf_0f7a4_1 rfl a1 ?_
  refine lv_iconst (v := 0) hx hb dJ0_indexOf_0f7a4_2 (by decide) ?_
  refine run_S (va_runV (As := [.int (nI k), .int 0]) (rest := []) (nL := mJ0_indexOf_0f7a4.2.2.1) ⟨hx, hb, hml, hown, hts⟩ (j_ix2 (adK := fun i => ad (200 + i)) (adV := adV) l d hi hk) (cwV 2 hts (gdV (y := mJ0_indexOf_0f7a4) (y' := jIx2) tm_J0_633 ti_J0_indexOf_7cf53 tse_J0_indexOf_7cf53 tin_J0 tc_J0_indexOf_7cf53) rfl rfl rfl (by decide +kernel) (rm_ok (by decide))) ⟨SP.blind, vk_recv (adK := fun i => ad (200 + i)) hV hi hS, fun U h1 h2 => hU _ U h1 h2⟩ rfl rfl hl.1 rfl (lv_room (Nat.le_of_ble_eq_true rfl)) dJ0_indexOf_0f7a4_3 ⟨Nat.le_refl _, Nat.le_refl _⟩) ?_
  exact W.zret hx hb hr rfl (fun t ht hW => ⟨⟨_, M, N, P, rfl, hQ, by rw [ht]; exact hP⟩, hS.F ht⟩) hS.2.2 dJ0_indexOf_0f7a4_6
theorem hprim : ∀ (y : Yt) (d : Nat) (L : List Value) (r : Value) (M : Mt) (N : Nt) (P : Pt') (Q : Qt), 5 ≤ d → primR y L r → Q (some r) M N P → Xs y d 0 L [] M N P Q := by
  intro y d L r M N P Q hd h hQ
  rcases h with ⟨rfl, i, j, b, rfl, hi, hb, rfl⟩ | ⟨rfl, i, rfl, hi, rfl⟩ | ⟨rfl, i, j, rfl, hi, hj, rfl⟩
  · rw [show d = (d - 3) + 3 by omega]
    exact x_chr hi hb hQ
  · rw [show d = (d - 1) + 1 by omega]
    exact x_len hi hQ
  · rw [show d = (d - 3) + 3 by omega]
    exact x_ixo hi hj hQ
end J0
