section C0
/-! constructors -/
theorem tOI : inT (.instanceMethod Lib.objectInit) := inT_1 (i := 27) (by decide +kernel) rfl
theorem tOC : inT (.code Lib.objectInit ⟨#[0xb1]⟩ 1 none) := inT_1 (i := 28) (by decide +kernel) rfl
theorem tA_int : inT (.arrayClass .int) := inT_1 (i := 50) rfl rfl
theorem tA_boolean : inT (.arrayClass .boolean) := inT_1 (i := 73) rfl rfl
theorem tA_long : inT (.arrayClass .long) := inT_1 (i := 74) rfl rfl
theorem tA_byte : inT (.arrayClass .byte) := inT_1 (i := 207) rfl rfl
theorem tA_short : inT (.arrayClass .short) := inT_1 (i := 231) rfl rfl
theorem tOL_X5 : inT (.methodLink RX5 3 Lib.objectInit) := inT_1 (i := 34) (by decide +kernel) rfl
theorem tIS_X5 : inT (.instantiable RX5 4) := inT_1 (i := 30) rfl rfl
theorem tOL_X6 : inT (.methodLink RX6 1 Lib.objectInit) := inT_1 (i := 56) (by decide +kernel) rfl
theorem tIS_X6 : inT (.instantiable RX6 5) := inT_1 (i := 52) rfl rfl
theorem tOL_X1 : inT (.methodLink RX1 3 Lib.objectInit) := inT_1 (i := 80) (by decide +kernel) rfl
theorem tIS_X1 : inT (.instantiable RX1 3) := inT_1 (i := 76) rfl rfl
theorem tOL_X3 : inT (.methodLink RX3 3 Lib.objectInit) := inT_1 (i := 99) (by decide +kernel) rfl
theorem tIS_X3 : inT (.instantiable RX3 10) := inT_1 (i := 95) rfl rfl
theorem tOL_X10 : inT (.methodLink RX10 3 Lib.objectInit) := inT_1 (i := 149) (by decide +kernel) rfl
theorem tIS_X10 : inT (.instantiable RX10 6) := inT_1 (i := 145) rfl rfl
theorem tOL_X0 : inT (.methodLink RX0 3 Lib.objectInit) := inT_1 (i := 178) (by decide +kernel) rfl
theorem tIS_X0 : inT (.instantiable RX0 3) := inT_1 (i := 174) rfl rfl
theorem tOL_X8 : inT (.methodLink RX8 1 Lib.objectInit) := inT_1 (i := 197) (by decide +kernel) rfl
theorem tIS_X8 : inT (.instantiable RX8 2) := inT_1 (i := 193) rfl rfl
theorem tOL_X9 : inT (.methodLink RX9 3 Lib.objectInit) := inT_1 (i := 213) (by decide +kernel) rfl
theorem tIS_X9 : inT (.instantiable RX9 4) := inT_1 (i := 209) rfl rfl
theorem tOL_X2 : inT (.methodLink RX2 3 Lib.objectInit) := inT_2 (i := 3) (by decide +kernel) rfl
theorem tIS_X2 : inT (.instantiable RX2 7) := inT_1 (i := 239) rfl rfl
theorem tOL_X4 : inT (.methodLink RX4 3 Lib.objectInit) := inT_1 (i := 237) (by decide +kernel) rfl
theorem tIS_X4 : inT (.instantiable RX4 8) := inT_1 (i := 233) rfl rfl
theorem tOL_X7 : inT (.methodLink RX7 3 Lib.objectInit) := inT_2 (i := 62) (by decide +kernel) rfl
theorem tIS_X7 : inT (.instantiable RX7 6) := inT_2 (i := 58) rfl rfl
theorem tOL_X11 : inT (.methodLink RX11 1 Lib.objectInit) := inT_1 (i := 26) (by decide +kernel) rfl
theorem tIS_X11 : inT (.instantiable RX11 13) := inT_1 (i := 22) rfl rfl
theorem tOL_X12 : inT (.methodLink RX12 1 Lib.objectInit) := inT_4 (i := 136) (by decide +kernel) rfl
theorem tIS_X12 : inT (.instantiable RX12 56) := inT_4 (i := 132) rfl rfl
theorem tCL_X4_9 : inT (.classLink RX4 9 RX2) := inT_1 (i := 238) rfl rfl
theorem tCL_X11_7 : inT (.classLink RX11 7 RX5) := inT_1 (i := 29) rfl rfl
theorem tCL_X11_16 : inT (.classLink RX11 16 RX6) := inT_1 (i := 51) rfl rfl
theorem tCL_X11_25 : inT (.classLink RX11 25 RX1) := inT_1 (i := 75) rfl rfl
theorem tCL_X11_36 : inT (.classLink RX11 36 RX3) := inT_1 (i := 94) rfl rfl
theorem tCL_X11_43 : inT (.classLink RX11 43 RX10) := inT_1 (i := 144) rfl rfl
theorem tCL_X11_52 : inT (.classLink RX11 52 RX0) := inT_1 (i := 173) rfl rfl
theorem tCL_X11_59 : inT (.classLink RX11 59 RX8) := inT_1 (i := 192) rfl rfl
theorem tCL_X11_66 : inT (.classLink RX11 66 RX9) := inT_1 (i := 208) rfl rfl
theorem tCL_X11_73 : inT (.classLink RX11 73 RX4) := inT_1 (i := 232) rfl rfl
theorem tCL_X11_82 : inT (.classLink RX11 82 RX7) := inT_2 (i := 57) rfl rfl
theorem tCL_X11_89 : inT (.classLink RX11 89 RX2) := inT_2 (i := 85) rfl rfl
def nestL : List (String × Nat × MethodName) := [(RX11, 9, yX5_init), (RX11, 27, yX1_init), (RX11, 38, yX3_init), (RX11, 54, yX0_init), (RX11, 61, yX8_init), (RX11, 68, yX9_init), (RX4, 11, yX2_init), (RX11, 84, yX7_init), (RX11, 91, yX2_init)]
def NST (U : State) : Prop := ∀ q ∈ nestL, va_Nw (.methodLinkNest q.1 q.2.1 q.2.2 "HomeRoll") U
theorem NST.same {u U : State} (hv : u.vm = U.vm) (h : NST u) : NST U := fun q hq => va_Nw.same rfl hv (h q hq)
theorem NST.warm {s U : State} (hW : s.WarmedH U.vm) (h : NST s) : NST U := fun q hq => va_Nw.warmM hW (h q hq)
def rmK (f c sl : Nat) : Room := { frames := f, cells := c, slots := sl, locals := 64 * f }
abbrev nX5 : Yt := (yX5_init, cX5_init, 1, none, 5)
abbrev nX6 : Yt := (yX6_init, cX6_init, 2, none, 6)
abbrev nX1 : Yt := (yX1_init, cX1_init, 1, none, 1)
abbrev nX3 : Yt := (yX3_init, cX3_init, 1, none, 3)
abbrev nX10 : Yt := (yX10_init, cX10_init, 3, none, 10)
abbrev nX0 : Yt := (yX0_init, cX0_init, 1, none, 0)
abbrev nX8 : Yt := (yX8_init, cX8_init, 1, none, 8)
abbrev nX9 : Yt := (yX9_init, cX9_init, 1, none, 9)
abbrev nX2 : Yt := (yX2_init, cX2_init, 1, none, 2)
abbrev nX4 : Yt := (yX4_init, cX4_init, 2, none, 4)
abbrev nX7 : Yt := (yX7_init, cX7_init, 1, none, 7)
abbrev nX11 : Yt := (yX11_init, cX11_init, 2, none, 11)
abbrev nX12 : Yt := (yX12_init, cX12_init, 2, none, 12)
section RR
variable {p : Program} {l : Launch} {e : Env} {R : Room} {s : State} {m : MethodId} {args : Array Value} {below : List Frame} {meth : Method} {c : Code} {H : Heap} {locs : List Loc} {cells slots : Nat} {Q : State → Prop}
variable {cc : ByteArray} {pc : Nat} {ls : Array Slot} {rest : List Value} {D : va_G} {A : Nat → Prop} {ws : va_W} {H0 : Heap} {aC : Nat → ClassId}
theorem va_newX (hexec : p.tables.exec = Jvm.exec) (hb : c.code = cc) {atype : ArrayType} {ty : FieldType} (k t0 : Nat) (harr : (Cond.arrayClass (newarray.typeOf atype)).before args s = true) (hty : newarray.typeOf atype = ty) (hK : va_K D vwCl (atys aC) s) (ht : (atys aC)[t0]? = some (aC k, ty)) (hra : ∀ c, va_RA s c ty = (s.vm.findClass ("[" ++ ty.toString) = some c)) (hP : va_P D vwCl ws H) (hD : va_D A ws) (hS : va_S A H0 H locs) (hA : ∀ q, H0.size ≤ q → A q)
    {n : Int32} {N' : Nat} {a0 : vp_A} (ha : ∀ cA : ClassId, vp_cell cA a0 = arrV cA N' (fun _ => defaultValue ty)) (hn : ¬ n < 0) (hN : n.toNatClampNeg = N') (hbytes : N' * componentBytes ty ≤ 536870912) (hcells : cells + 1 ≤ R.cells) (hslots : slots + N' ≤ R.slots) (hdg : decode cc pc = .ok (.newarray atype, 2))
    (kk : ∀ (q : Nat) (H1 : Heap), va_P D vwCl (ws ++ [(q, .inl (aC k, a0))]) H1 → va_D A (ws ++ [(q, .inl (aC k, a0))]) → va_S A H0 H1 locs →
      W p l e R s m args below meth c H1 locs (cells + 1) (slots + N') Q (F0 m (pc + 2) ls (.ref q :: rest))) : W p l e R s m args below meth c H locs cells slots Q (F0 m pc ls (.int n :: rest)) := by
  refine va_newa hexec hb harr hty hK hP hD hS hA ha hn hN hbytes hcells hslots hdg (fun q cA H1 hK1 hP1 hD1 hS1 => ?_)
  have e : cA = aC k := by
    have h1 := (hK1.2 5 (cA, ty) rfl).2
    have h2 := (hK.2 t0 (aC k, ty) ht).2
    rw [hra] at h1 h2
    exact Option.some.inj (h1.symm.trans h2)
  subst e
  exact kk q H1 hP1 hD1 hS1
end RR
section LL
variable {p : Program} {l : Launch} {e : Env} {R : Room} {s : State} {m : MethodId} {args : Array Value} {below : List Frame} {meth : Method} {c : Code} {cells slots : Nat} {Q : State → Prop}
variable {cc : ByteArray} {D : va_G} {A : Nat → Prop} {H0 : Heap} {aC : Nat → ClassId}
set_option maxHeartbeats 4000000 in
/-- every level is 100 -/
theorem lvl_loop (hx : p.tables.exec = Jvm.exec) (hb : c.code = cc) {own ref C : String} {T : u_T} {N ci index pc k3 iL h0 qL : Nat} {Ts : List Cond} (hts : ∀ w ∈ Ts, w.before args s = true) (hin : ∀ w ∈ u_ws C T N, w ∈ Ts) (hown : s.vm.findClass own = some m.cls) (hK : va_K D vwCl (atys aC) s) {ws : va_W} {fs : List Value} (h0s : ws[0]? = some (h0, .inr (ci, fs))) (hiL : iL < ws.length) (hi0 : ¬ iL = 0) (hc : vwCl[ci]? = some (C, T, N)) (hk : k3 < N) (hlink : (Cond.fieldLink own index ref (T k3).2.1 (T k3).2.2.1).before args s = true) (hsame : ∀ x, s.fieldFound? (T k3).1 (T k3).2.1 (T k3).2.2.1 = some x → s.fieldFound? ref (T k3).2.1 (T k3).2.2.1 = some x) (hv : fs[k3]? = some (.ref qL))
    (d0 : decode cc pc = .ok (.iload_n 1, 1)) (d1 : decode cc (pc + 1) = .ok (.bipush 100, 2)) (d3 : decode cc (pc + 3) = .ok (.if_icmp .ge 17, 3)) (d6 : decode cc (pc + 6) = .ok (.aload_n 0, 1)) (d7 : decode cc (pc + 7) = .ok (.getfield index, 3)) (d10 : decode cc (pc + 10) = .ok (.iload_n 1, 1)) (d11 : decode cc (pc + 11) = .ok (.bipush 100, 2)) (d13 : decode cc (pc + 13) = .ok (.iastore, 1)) (d14 : decode cc (pc + 14) = .ok (.iinc 1 1, 3)) (d17 : decode cc (pc + 17) = .ok (.goto (-17), 3))
    (kk : ∀ (f : Nat → Int32) (H : Heap) (locs : List Loc) (ls : Array Slot), (∀ j, j < 100 → f j = 100) → va_P D vwCl (ws.set iL (qL, .inl (aC 100, 100, .inl f))) H → va_D A (ws.set iL (qL, .inl (aC 100, 100, .inl f))) → va_S A H0 H locs → lv_has ls 2 [(1, .int (nI 100)), (0, .ref h0)] → W p l e R s m args below meth c H locs cells slots Q (F0 m (pc + 20) ls [])) :
    ∀ (n k : Nat) (f : Nat → Int32) (H : Heap) (locs : List Loc) (ls : Array Slot), k + n = 100 → (∀ j, j < k → f j = 100) → va_P D vwCl (ws.set iL (qL, .inl (aC 100, 100, .inl f))) H → va_D A (ws.set iL (qL, .inl (aC 100, 100, .inl f))) → va_S A H0 H locs → lv_has ls 2 [(1, .int (nI k)), (0, .ref h0)] → W p l e R s m args below meth c H locs cells slots Q (F0 m pc ls []) := by
  have g0 : ∀ x, (ws.set iL x)[0]? = some (h0, .inr (ci, fs)) := fun x => by rw [List.getElem?_set_ne hi0]; exact h0s
  have gL : ∀ x, (ws.set iL x)[iL]? = some x := fun x => List.getElem?_set_self hiL
  intro n
  induction n with
  | zero =>
    intro k f H locs ls hkn hf hP hD hS hl
    have e : k = 100 := by omega
    subst e
    refine lv_iload_n hx hb d0 rfl (lv_at hl 0 rfl) ?_
    refine lv_bipush (v := nI 100) hx hb d1 (by decide) ?_
    refine lv_icmp_ge (tgt := pc + 20) hx hb d3 (by omega) (fun _ => ?_) (fun h => absurd (Int32.le_refl _) h)
    exact kk f H locs ls hf hP hD hS hl
  | succ n ih =>
    intro k f H locs ls hkn hf hP hD hS hl
    refine lv_iload_n hx hb d0 rfl (lv_at hl 0 rfl) ?_
    refine lv_bipush (v := nI 100) hx hb d1 (by decide) ?_
    refine lv_icmp_ge (tgt := pc + 20) hx hb d3 (by omega) (fun h => absurd h (nI_ge (by omega) (by omega))) (fun _ => ?_)
    refine lv_aload_n hx hb d6 rfl (lv_at hl 1 rfl) ?_
    refine va_get (D := D) (ci := ci) (v := .ref qL) (C := C) (T := T) (N := N) hx hb hts hin hown hK hP 0 (g0 _) hc k3 hk hlink hsame hv d7 ?_
    refine lv_iload_n hx hb d10 rfl (lv_at hl 0 rfl) ?_
    refine lv_bipush (v := 100) hx hb d11 (by decide) ?_
    refine va_iast hx hb hK hP hD hS iL 0 (gL _) rfl (vp_in_nI (by omega) (by omega)) d13 (fun H locs hP hD hS => ?_)
    rw [List.set_set] at hP hD
    refine lv_iinc (v := nI (k + 1)) (lv' := [(1, .int (nI (k + 1))), (0, .ref h0)]) hx hb d14 hl (k := 0) rfl (nI_1 k) (by decide) rfl (fun ls hl => ?_)
    refine lv_goto (tgt := pc) hx hb d17 (by omega) ?_
    refine ih (k + 1) _ H locs ls (by omega) (fun j hj => ?_) hP hD hS hl
    rw [nI_clamp (by omega)]
    unfold upd
    split
    · rfl
    · exact hf j (by omega)
end LL
def iX5 (h0 : Nat) : va_W := [(h0, .inr (5, [.null, .null, .null, .int 0]))]
def oX5 (aC : Nat → ClassId) (h0 : Nat) (q : Nat → Nat) : va_W := [(h0, .inr (5, [.ref (q 0), .ref (q 1), .ref (q 2), .int 0])), (q 0, .inl (aC 100, 24, .inl (fun _ => 0))), (q 1, .inl (aC 100, 24, .inl (fun _ => 0))), (q 2, .inl (aC 100, 24, .inl (fun _ => 0)))]
theorem ct_X5_bl {D : va_G} {aC : Nat → ClassId} {h0 sz : Nat} : FrameBlind (va_Pc [.ref h0] (fun U => U.heap.size = sz ∧ va_P D vwCl (iX5 h0) U.heap ∧ va_K D vwCl (atys aC) U ∧ va_D (fun _ => True) (iX5 h0))) := by
  intro a U g mk q
  obtain ⟨q0, q1, qP, qK, qD⟩ := q
  exact ⟨q0, q1, qP, va_K.moved (u := U) (U := U.calling g mk a) (Vm.Alike.refl U.vm) qK, qD⟩
set_option maxHeartbeats 40000000 in
set_option maxRecDepth 100000 in
theorem ct_X5 (l : Launch) (D : va_G) (aC : Nat → ClassId) (h0 sz : Nat) : Met l yX5_init (wl nX5) (rmK 1 3 72) (va_Pc [.ref h0] (fun U => U.heap.size = sz ∧ va_P D vwCl (iX5 h0) U.heap ∧ va_K D vwCl (atys aC) U ∧ va_D (fun _ => True) (iX5 h0))) (va_Qv (fun _ : Nat → Nat => True) (fun q t => va_P D vwCl (oX5 aC h0 q) t.heap ∧ va_K D vwCl (atys aC) t ∧ va_D (va_A (iX5 h0) sz) (oX5 aC h0 q)) (va_A (iX5 h0) sz)) 3 72 (va_A (iX5 h0) sz) := by
  refine Met.ofW (cc := cX5_init) (maxL := 1) (ret := none) (by decide) rfl ?_
  intro p e s m args below meth c s₁ B hml hv
  obtain ⟨rfl, hsz, hP, hK, hD0⟩ := hv
  have hx := B.exec
  have hb := B.bytes
  have hr := B.returns
  have hts := atoms_spec (ws := wl nX5) B.pre
  have hT : ∀ {w : Cond}, inT w → w.before [.ref h0].toArray s = true := fun h => hts _ (inT.good (y := nX5) h).1
  have hown : s.vm.findClass RX5 = some m.cls := findClass_of_methodNamed B.named
  have hlocks := B.notSynchronized
  have hin : meth.name = "<init>" := (name_of_methodNamed B.named B.method).1
  subst hsz
  have hD := hD0.self (sz := s.heap.size)
  have hA : ∀ q : Nat, s.heap.size ≤ q → va_A (iX5 h0) s.heap.size q := fun q h => Or.inr h
  generalize va_A (iX5 h0) s.heap.size = A at hD hA ⊢
  have hS : va_S A s.heap s.heap [] := va_S.rf
  have hl := lv_entry [.ref h0] (n := 1) (Nat.le_of_ble_eq_true rfl)
  rw [lg_entry_eq]
  generalize (lg_sl [.ref h0] ++ List.replicate (1 - (lg_sl [.ref h0]).length) Slot.unset).toArray = ls at hl ⊢
  have hl : lv_has ls 1 [(0, .ref h0)] := hl
  have hP : va_P D vwCl [(h0, .inr (5, [.null, .null, .null, .int 0]))] s.heap := hP
  have hD : va_D A [(h0, .inr (5, [.null, .null, .null, .int 0]))] := hD
  refine lv_aload_n hx hb dX5_init_0 rfl (lv_at hl 0 rfl) ?_
  refine W.objInit hx hb hown (hT tOL_X5) (hT tOI) (hT tOC) rfl (by rw [hml]; exact hl.1) rfl dX5_init_1 (Nat.le_of_ble_eq_true rfl) (Nat.le_of_ble_eq_true rfl) ?_
  refine W.eq (g2 := F0 m 4 ls []) rfl ?_
  refine lv_aload_n hx hb dX5_init_4 rfl (lv_at hl 0 rfl) ?_
  refine lv_bipush (v := nI 24) hx hb dX5_init_5 (by decide) ?_
  refine va_newX (a0 := (24, .inl (fun _ => 0))) (ty := .int) (atype := .int) hx hb 100 0 (hT tA_int) rfl hK rfl (fun _ => rfl) hP hD hS hA (fun _ => rfl) (by decide) (by decide) (by decide) (Nat.le_of_ble_eq_true rfl) (Nat.le_of_ble_eq_true rfl) dX5_init_7 (fun q0 H hP hD hS => ?_)
  have hP : va_P D vwCl [(h0, .inr (5, [.null, .null, .null, .int 0])), (q0, .inl (aC 100, 24, .inl (fun _ => 0)))] H := hP
  have hD : va_D A [(h0, .inr (5, [.null, .null, .null, .int 0])), (q0, .inl (aC 100, 24, .inl (fun _ => 0)))] := hD
  refine va_putF (D := D) (ci := 5) (v := .ref q0) (ty := tyX5 0) (C := RX5) (T := TX5) (N := 4) hx hb hts (fun w hw => (inT.good (y := nX5) (twX5 w hw)).1) tyX5 tyX5_ok nmX5 hown hK hP hD hS 0 rfl rfl 0 (by decide) (hT tf_X5_11) (fun _ h => h) rfl hin rfl (tyX5_ok 0 (by decide)) rfl rfl (Nat.le_of_ble_eq_true rfl) dX5_init_9 (fun H locs hP hD hS => ?_)
  have hP : va_P D vwCl [(h0, .inr (5, [.ref q0, .null, .null, .int 0])), (q0, .inl (aC 100, 24, .inl (fun _ => 0)))] H := hP
  have hD : va_D A [(h0, .inr (5, [.ref q0, .null, .null, .int 0])), (q0, .inl (aC 100, 24, .inl (fun _ => 0)))] := hD
  refine lv_aload_n hx hb dX5_init_12 rfl (lv_at hl 0 rfl) ?_
  refine lv_bipush (v := nI 24) hx hb dX5_init_13 (by decide) ?_
  refine va_newX (a0 := (24, .inl (fun _ => 0))) (ty := .int) (atype := .int) hx hb 100 0 (hT tA_int) rfl hK rfl (fun _ => rfl) hP hD hS hA (fun _ => rfl) (by decide) (by decide) (by decide) (Nat.le_of_ble_eq_true rfl) (Nat.le_of_ble_eq_true rfl) dX5_init_15 (fun q1 H hP hD hS => ?_)
  have hP : va_P D vwCl [(h0, .inr (5, [.ref q0, .null, .null, .int 0])), (q0, .inl (aC 100, 24, .inl (fun _ => 0))), (q1, .inl (aC 100, 24, .inl (fun _ => 0)))] H := hP
  have hD : va_D A [(h0, .inr (5, [.ref q0, .null, .null, .int 0])), (q0, .inl (aC 100, 24, .inl (fun _ => 0))), (q1, .inl (aC 100, 24, .inl (fun _ => 0)))] := hD
  refine va_putF (D := D) (ci := 5) (v := .ref q1) (ty := tyX5 1) (C := RX5) (T := TX5) (N := 4) hx hb hts (fun w hw => (inT.good (y := nX5) (twX5 w hw)).1) tyX5 tyX5_ok nmX5 hown hK hP hD hS 0 rfl rfl 1 (by decide) (hT tf_X5_15) (fun _ h => h) rfl hin rfl (tyX5_ok 1 (by decide)) rfl rfl (Nat.le_of_ble_eq_true rfl) dX5_init_17 (fun H locs hP hD hS => ?_)
  have hP : va_P D vwCl [(h0, .inr (5, [.ref q0, .ref q1, .null, .int 0])), (q0, .inl (aC 100, 24, .inl (fun _ => 0))), (q1, .inl (aC 100, 24, .inl (fun _ => 0)))] H := hP
  have hD : va_D A [(h0, .inr (5, [.ref q0, .ref q1, .null, .int 0])), (q0, .inl (aC 100, 24, .inl (fun _ => 0))), (q1, .inl (aC 100, 24, .inl (fun _ => 0)))] := hD
  refine lv_aload_n hx hb dX5_init_20 rfl (lv_at hl 0 rfl) ?_
  refine lv_bipush (v := nI 24) hx hb dX5_init_21 (by decide) ?_
  refine va_newX (a0 := (24, .inl (fun _ => 0))) (ty := .int) (atype := .int) hx hb 100 0 (hT tA_int) rfl hK rfl (fun _ => rfl) hP hD hS hA (fun _ => rfl) (by decide) (by decide) (by decide) (Nat.le_of_ble_eq_true rfl) (Nat.le_of_ble_eq_true rfl) dX5_init_23 (fun q2 H hP hD hS => ?_)
  have hP : va_P D vwCl [(h0, .inr (5, [.ref q0, .ref q1, .null, .int 0])), (q0, .inl (aC 100, 24, .inl (fun _ => 0))), (q1, .inl (aC 100, 24, .inl (fun _ => 0))), (q2, .inl (aC 100, 24, .inl (fun _ => 0)))] H := hP
  have hD : va_D A [(h0, .inr (5, [.ref q0, .ref q1, .null, .int 0])), (q0, .inl (aC 100, 24, .inl (fun _ => 0))), (q1, .inl (aC 100, 24, .inl (fun _ => 0))), (q2, .inl (aC 100, 24, .inl (fun _ => 0)))] := hD
  refine va_putF (D := D) (ci := 5) (v := .ref q2) (ty := tyX5 2) (C := RX5) (T := TX5) (N := 4) hx hb hts (fun w hw => (inT.good (y := nX5) (twX5 w hw)).1) tyX5 tyX5_ok nmX5 hown hK hP hD hS 0 rfl rfl 2 (by decide) (hT tf_X5_18) (fun _ h => h) rfl hin rfl (tyX5_ok 2 (by decide)) rfl rfl (Nat.le_of_ble_eq_true rfl) dX5_init_25 (fun H locs hP hD hS => ?_)
  have hP : va_P D vwCl [(h0, .inr (5, [.ref q0, .ref q1, .ref q2, .int 0])), (q0, .inl (aC 100, 24, .inl (fun _ => 0))), (q1, .inl (aC 100, 24, .inl (fun _ => 0))), (q2, .inl (aC 100, 24, .inl (fun _ => 0)))] H := hP
  have hD : va_D A [(h0, .inr (5, [.ref q0, .ref q1, .ref q2, .int 0])), (q0, .inl (aC 100, 24, .inl (fun _ => 0))), (q1, .inl (aC 100, 24, .inl (fun _ => 0))), (q2, .inl (aC 100, 24, .inl (fun _ => 0)))] := hD
  refine lv_aload_n hx hb dX5_init_28 rfl (lv_at hl 0 rfl) ?_
  refine lv_iconst (v := 0) hx hb dX5_init_29 (by decide) ?_
  refine va_put (D := D) (ci := 5) (v := .int 0) (ty := tyX5 3) (C := RX5) (T := TX5) (N := 4) hx hb hts (fun w hw => (inT.good (y := nX5) (twX5 w hw)).1) tyX5 tyX5_ok nmX5 hown hK hP hD hS 0 rfl rfl 3 (by decide) (hT tf_X5_21) (fun _ h => h) rfl (tyX5_ok 3 (by decide)) rfl rfl (Nat.le_of_ble_eq_true rfl) dX5_init_30 (fun H locs hP hD hS => ?_)
  have hP : va_P D vwCl [(h0, .inr (5, [.ref q0, .ref q1, .ref q2, .int 0])), (q0, .inl (aC 100, 24, .inl (fun _ => 0))), (q1, .inl (aC 100, 24, .inl (fun _ => 0))), (q2, .inl (aC 100, 24, .inl (fun _ => 0)))] H := hP
  have hD : va_D A [(h0, .inr (5, [.ref q0, .ref q1, .ref q2, .int 0])), (q0, .inl (aC 100, 24, .inl (fun _ => 0))), (q1, .inl (aC 100, 24, .inl (fun _ => 0))), (q2, .inl (aC 100, 24, .inl (fun _ => 0)))] := hD
  refine W.widen (k := 3) (n := 72) (Nat.le_of_ble_eq_true rfl) (Nat.le_of_ble_eq_true rfl) ?_
  exact W.vret hx hb hr (fun t ht hW => ⟨⟨fun j => ([q0, q1, q2] : List Nat).getD j 0, rfl, trivial, by rw [ht]; exact hP, va_K.moved hW.alike hK, hD⟩, hS.F ht⟩) hS.2.2 dX5_init_33
def iX6 (h0 : Nat) : va_W := [(h0, .inr (6, [.null, .null, .null, .null, .long 0]))]
def oX6 (aC : Nat → ClassId) (h0 p1 : Nat) (q : Nat → Nat) : va_W := [(h0, .inr (6, [.ref p1, .ref (q 0), .ref (q 1), .ref (q 2), .long 1])), (q 0, .inl (aC 100, 24, .inl (fun _ => 0))), (q 1, .inl (aC 102, 24, .inl (fun _ => 0))), (q 2, .inl (aC 104, 24, .inr (.inl (fun _ => 0))))]
theorem ct_X6_bl {D : va_G} {aC : Nat → ClassId} {h0 p1 sz : Nat} : FrameBlind (va_Pc [.ref h0, .ref p1] (fun U => U.heap.size = sz ∧ va_P D vwCl (iX6 h0) U.heap ∧ va_K D vwCl (atys aC) U ∧ va_D (fun _ => True) (iX6 h0))) := by
  intro a U g mk q
  obtain ⟨q0, q1, qP, qK, qD⟩ := q
  exact ⟨q0, q1, qP, va_K.moved (u := U) (U := U.calling g mk a) (Vm.Alike.refl U.vm) qK, qD⟩
set_option maxHeartbeats 40000000 in
set_option maxRecDepth 100000 in
theorem ct_X6 (l : Launch) (D : va_G) (aC : Nat → ClassId) (h0 p1 sz : Nat) : Met l yX6_init (wl nX6) (rmK 1 3 72) (va_Pc [.ref h0, .ref p1] (fun U => U.heap.size = sz ∧ va_P D vwCl (iX6 h0) U.heap ∧ va_K D vwCl (atys aC) U ∧ va_D (fun _ => True) (iX6 h0))) (va_Qv (fun _ : Nat → Nat => True) (fun q t => va_P D vwCl (oX6 aC h0 p1 q) t.heap ∧ va_K D vwCl (atys aC) t ∧ va_D (va_A (iX6 h0) sz) (oX6 aC h0 p1 q)) (va_A (iX6 h0) sz)) 3 72 (va_A (iX6 h0) sz) := by
  refine Met.ofW (cc := cX6_init) (maxL := 2) (ret := none) (by decide) rfl ?_
  intro p e s m args below meth c s₁ B hml hv
  obtain ⟨rfl, hsz, hP, hK, hD0⟩ := hv
  have hx := B.exec
  have hb := B.bytes
  have hr := B.returns
  have hts := atoms_spec (ws := wl nX6) B.pre
  have hT : ∀ {w : Cond}, inT w → w.before [.ref h0, .ref p1].toArray s = true := fun h => hts _ (inT.good (y := nX6) h).1
  have hown : s.vm.findClass RX6 = some m.cls := findClass_of_methodNamed B.named
  have hlocks := B.notSynchronized
  have hin : meth.name = "<init>" := (name_of_methodNamed B.named B.method).1
  subst hsz
  have hD := hD0.self (sz := s.heap.size)
  have hA : ∀ q : Nat, s.heap.size ≤ q → va_A (iX6 h0) s.heap.size q := fun q h => Or.inr h
  generalize va_A (iX6 h0) s.heap.size = A at hD hA ⊢
  have hS : va_S A s.heap s.heap [] := va_S.rf
  have hl := lv_entry [.ref h0, .ref p1] (n := 2) (Nat.le_of_ble_eq_true rfl)
  rw [lg_entry_eq]
  generalize (lg_sl [.ref h0, .ref p1] ++ List.replicate (2 - (lg_sl [.ref h0, .ref p1]).length) Slot.unset).toArray = ls at hl ⊢
  have hl : lv_has ls 2 [(0, .ref h0), (1, .ref p1)] := hl
  have hP : va_P D vwCl [(h0, .inr (6, [.null, .null, .null, .null, .long 0]))] s.heap := hP
  have hD : va_D A [(h0, .inr (6, [.null, .null, .null, .null, .long 0]))] := hD
  refine lv_aload_n hx hb dX6_init_0 rfl (lv_at hl 0 rfl) ?_
  refine W.objInit hx hb hown (hT tOL_X6) (hT tOI) (hT tOC) rfl (by rw [hml]; exact hl.1) rfl dX6_init_1 (Nat.le_of_ble_eq_true rfl) (Nat.le_of_ble_eq_true rfl) ?_
  refine W.eq (g2 := F0 m 4 ls []) rfl ?_
  refine lv_aload_n hx hb dX6_init_4 rfl (lv_at hl 0 rfl) ?_
  refine lv_bipush (v := nI 24) hx hb dX6_init_5 (by decide) ?_
  refine va_newX (a0 := (24, .inl (fun _ => 0))) (ty := .int) (atype := .int) hx hb 100 0 (hT tA_int) rfl hK rfl (fun _ => rfl) hP hD hS hA (fun _ => rfl) (by decide) (by decide) (by decide) (Nat.le_of_ble_eq_true rfl) (Nat.le_of_ble_eq_true rfl) dX6_init_7 (fun q0 H hP hD hS => ?_)
  have hP : va_P D vwCl [(h0, .inr (6, [.null, .null, .null, .null, .long 0])), (q0, .inl (aC 100, 24, .inl (fun _ => 0)))] H := hP
  have hD : va_D A [(h0, .inr (6, [.null, .null, .null, .null, .long 0])), (q0, .inl (aC 100, 24, .inl (fun _ => 0)))] := hD
  refine va_putF (D := D) (ci := 6) (v := .ref q0) (ty := tyX6 1) (C := RX6) (T := TX6) (N := 5) hx hb hts (fun w hw => (inT.good (y := nX6) (twX6 w hw)).1) tyX6 tyX6_ok nmX6 hown hK hP hD hS 0 rfl rfl 1 (by decide) (hT tf_X6_9) (fun _ h => h) rfl hin rfl (tyX6_ok 1 (by decide)) rfl rfl (Nat.le_of_ble_eq_true rfl) dX6_init_9 (fun H locs hP hD hS => ?_)
  have hP : va_P D vwCl [(h0, .inr (6, [.null, .ref q0, .null, .null, .long 0])), (q0, .inl (aC 100, 24, .inl (fun _ => 0)))] H := hP
  have hD : va_D A [(h0, .inr (6, [.null, .ref q0, .null, .null, .long 0])), (q0, .inl (aC 100, 24, .inl (fun _ => 0)))] := hD
  refine lv_aload_n hx hb dX6_init_12 rfl (lv_at hl 0 rfl) ?_
  refine lv_bipush (v := nI 24) hx hb dX6_init_13 (by decide) ?_
  refine va_newX (a0 := (24, .inl (fun _ => 0))) (ty := .boolean) (atype := .boolean) hx hb 102 2 (hT tA_boolean) rfl hK rfl (fun _ => rfl) hP hD hS hA (fun _ => rfl) (by decide) (by decide) (by decide) (Nat.le_of_ble_eq_true rfl) (Nat.le_of_ble_eq_true rfl) dX6_init_15 (fun q1 H hP hD hS => ?_)
  have hP : va_P D vwCl [(h0, .inr (6, [.null, .ref q0, .null, .null, .long 0])), (q0, .inl (aC 100, 24, .inl (fun _ => 0))), (q1, .inl (aC 102, 24, .inl (fun _ => 0)))] H := hP
  have hD : va_D A [(h0, .inr (6, [.null, .ref q0, .null, .null, .long 0])), (q0, .inl (aC 100, 24, .inl (fun _ => 0))), (q1, .inl (aC 102, 24, .inl (fun _ => 0)))] := hD
  refine va_putF (D := D) (ci := 6) (v := .ref q1) (ty := tyX6 2) (C := RX6) (T := TX6) (N := 5) hx hb hts (fun w hw => (inT.good (y := nX6) (twX6 w hw)).1) tyX6 tyX6_ok nmX6 hown hK hP hD hS 0 rfl rfl 2 (by decide) (hT tf_X6_15) (fun _ h => h) rfl hin rfl (tyX6_ok 2 (by decide)) rfl rfl (Nat.le_of_ble_eq_true rfl) dX6_init_17 (fun H locs hP hD hS => ?_)
  have hP : va_P D vwCl [(h0, .inr (6, [.null, .ref q0, .ref q1, .null, .long 0])), (q0, .inl (aC 100, 24, .inl (fun _ => 0))), (q1, .inl (aC 102, 24, .inl (fun _ => 0)))] H := hP
  have hD : va_D A [(h0, .inr (6, [.null, .ref q0, .ref q1, .null, .long 0])), (q0, .inl (aC 100, 24, .inl (fun _ => 0))), (q1, .inl (aC 102, 24, .inl (fun _ => 0)))] := hD
  refine lv_aload_n hx hb dX6_init_20 rfl (lv_at hl 0 rfl) ?_
  refine lv_bipush (v := nI 24) hx hb dX6_init_21 (by decide) ?_
  refine va_newX (a0 := (24, .inr (.inl (fun _ => 0)))) (ty := .long) (atype := .long) hx hb 104 4 (hT tA_long) rfl hK rfl (fun _ => rfl) hP hD hS hA (fun _ => rfl) (by decide) (by decide) (by decide) (Nat.le_of_ble_eq_true rfl) (Nat.le_of_ble_eq_true rfl) dX6_init_23 (fun q2 H hP hD hS => ?_)
  have hP : va_P D vwCl [(h0, .inr (6, [.null, .ref q0, .ref q1, .null, .long 0])), (q0, .inl (aC 100, 24, .inl (fun _ => 0))), (q1, .inl (aC 102, 24, .inl (fun _ => 0))), (q2, .inl (aC 104, 24, .inr (.inl (fun _ => 0))))] H := hP
  have hD : va_D A [(h0, .inr (6, [.null, .ref q0, .ref q1, .null, .long 0])), (q0, .inl (aC 100, 24, .inl (fun _ => 0))), (q1, .inl (aC 102, 24, .inl (fun _ => 0))), (q2, .inl (aC 104, 24, .inr (.inl (fun _ => 0))))] := hD
  refine va_putF (D := D) (ci := 6) (v := .ref q2) (ty := tyX6 3) (C := RX6) (T := TX6) (N := 5) hx hb hts (fun w hw => (inT.good (y := nX6) (twX6 w hw)).1) tyX6 tyX6_ok nmX6 hown hK hP hD hS 0 rfl rfl 3 (by decide) (hT tf_X6_19) (fun _ h => h) rfl hin rfl (tyX6_ok 3 (by decide)) rfl rfl (Nat.le_of_ble_eq_true rfl) dX6_init_25 (fun H locs hP hD hS => ?_)
  have hP : va_P D vwCl [(h0, .inr (6, [.null, .ref q0, .ref q1, .ref q2, .long 0])), (q0, .inl (aC 100, 24, .inl (fun _ => 0))), (q1, .inl (aC 102, 24, .inl (fun _ => 0))), (q2, .inl (aC 104, 24, .inr (.inl (fun _ => 0))))] H := hP
  have hD : va_D A [(h0, .inr (6, [.null, .ref q0, .ref q1, .ref q2, .long 0])), (q0, .inl (aC 100, 24, .inl (fun _ => 0))), (q1, .inl (aC 102, 24, .inl (fun _ => 0))), (q2, .inl (aC 104, 24, .inr (.inl (fun _ => 0))))] := hD
  refine lv_aload_n hx hb dX6_init_28 rfl (lv_at hl 0 rfl) ?_
  refine lv_lconst (v := 1) hx hb dX6_init_29 (by decide) ?_
  refine va_put (D := D) (ci := 6) (v := .long 1) (ty := tyX6 4) (C := RX6) (T := TX6) (N := 5) hx hb hts (fun w hw => (inT.good (y := nX6) (twX6 w hw)).1) tyX6 tyX6_ok nmX6 hown hK hP hD hS 0 rfl rfl 4 (by decide) (hT tf_X6_23) (fun _ h => h) rfl (tyX6_ok 4 (by decide)) rfl rfl (Nat.le_of_ble_eq_true rfl) dX6_init_30 (fun H locs hP hD hS => ?_)
  have hP : va_P D vwCl [(h0, .inr (6, [.null, .ref q0, .ref q1, .ref q2, .long 1])), (q0, .inl (aC 100, 24, .inl (fun _ => 0))), (q1, .inl (aC 102, 24, .inl (fun _ => 0))), (q2, .inl (aC 104, 24, .inr (.inl (fun _ => 0))))] H := hP
  have hD : va_D A [(h0, .inr (6, [.null, .ref q0, .ref q1, .ref q2, .long 1])), (q0, .inl (aC 100, 24, .inl (fun _ => 0))), (q1, .inl (aC 102, 24, .inl (fun _ => 0))), (q2, .inl (aC 104, 24, .inr (.inl (fun _ => 0))))] := hD
  refine lv_aload_n hx hb dX6_init_33 rfl (lv_at hl 0 rfl) ?_
  refine lv_aload_n hx hb dX6_init_34 rfl (lv_at hl 1 rfl) ?_
  refine va_putF (D := D) (ci := 6) (v := .ref p1) (ty := tyX6 0) (C := RX6) (T := TX6) (N := 5) hx hb hts (fun w hw => (inT.good (y := nX6) (twX6 w hw)).1) tyX6 tyX6_ok nmX6 hown hK hP hD hS 0 rfl rfl 0 (by decide) (hT tf_X6_27) (fun _ h => h) rfl hin rfl (tyX6_ok 0 (by decide)) rfl rfl (Nat.le_of_ble_eq_true rfl) dX6_init_35 (fun H locs hP hD hS => ?_)
  have hP : va_P D vwCl [(h0, .inr (6, [.ref p1, .ref q0, .ref q1, .ref q2, .long 1])), (q0, .inl (aC 100, 24, .inl (fun _ => 0))), (q1, .inl (aC 102, 24, .inl (fun _ => 0))), (q2, .inl (aC 104, 24, .inr (.inl (fun _ => 0))))] H := hP
  have hD : va_D A [(h0, .inr (6, [.ref p1, .ref q0, .ref q1, .ref q2, .long 1])), (q0, .inl (aC 100, 24, .inl (fun _ => 0))), (q1, .inl (aC 102, 24, .inl (fun _ => 0))), (q2, .inl (aC 104, 24, .inr (.inl (fun _ => 0))))] := hD
  refine W.widen (k := 3) (n := 72) (Nat.le_of_ble_eq_true rfl) (Nat.le_of_ble_eq_true rfl) ?_
  exact W.vret hx hb hr (fun t ht hW => ⟨⟨fun j => ([q0, q1, q2] : List Nat).getD j 0, rfl, trivial, by rw [ht]; exact hP, va_K.moved hW.alike hK, hD⟩, hS.F ht⟩) hS.2.2 dX6_init_38
def iX1 (h0 : Nat) : va_W := [(h0, .inr (1, [.null, .null, .int 0]))]
def oX1 (aC : Nat → ClassId) (h0 : Nat) (q : Nat → Nat) : va_W := [(h0, .inr (1, [.ref (q 0), .ref (q 1), .int 0])), (q 0, .inl (aC 100, 8, .inl (fun _ => 0))), (q 1, .inl (aC 100, 8, .inl (fun _ => 0)))]
theorem ct_X1_bl {D : va_G} {aC : Nat → ClassId} {h0 sz : Nat} : FrameBlind (va_Pc [.ref h0] (fun U => U.heap.size = sz ∧ va_P D vwCl (iX1 h0) U.heap ∧ va_K D vwCl (atys aC) U ∧ va_D (fun _ => True) (iX1 h0))) := by
  intro a U g mk q
  obtain ⟨q0, q1, qP, qK, qD⟩ := q
  exact ⟨q0, q1, qP, va_K.moved (u := U) (U := U.calling g mk a) (Vm.Alike.refl U.vm) qK, qD⟩
set_option maxHeartbeats 40000000 in
set_option maxRecDepth 100000 in
theorem ct_X1 (l : Launch) (D : va_G) (aC : Nat → ClassId) (h0 sz : Nat) : Met l yX1_init (wl nX1) (rmK 1 2 16) (va_Pc [.ref h0] (fun U => U.heap.size = sz ∧ va_P D vwCl (iX1 h0) U.heap ∧ va_K D vwCl (atys aC) U ∧ va_D (fun _ => True) (iX1 h0))) (va_Qv (fun _ : Nat → Nat => True) (fun q t => va_P D vwCl (oX1 aC h0 q) t.heap ∧ va_K D vwCl (atys aC) t ∧ va_D (va_A (iX1 h0) sz) (oX1 aC h0 q)) (va_A (iX1 h0) sz)) 2 16 (va_A (iX1 h0) sz) := by
  refine Met.ofW (cc := cX1_init) (maxL := 1) (ret := none) (by decide) rfl ?_
  intro p e s m args below meth c s₁ B hml hv
  obtain ⟨rfl, hsz, hP, hK, hD0⟩ := hv
  have hx := B.exec
  have hb := B.bytes
  have hr := B.returns
  have hts := atoms_spec (ws := wl nX1) B.pre
  have hT : ∀ {w : Cond}, inT w → w.before [.ref h0].toArray s = true := fun h => hts _ (inT.good (y := nX1) h).1
  have hown : s.vm.findClass RX1 = some m.cls := findClass_of_methodNamed B.named
  have hlocks := B.notSynchronized
  have hin : meth.name = "<init>" := (name_of_methodNamed B.named B.method).1
  subst hsz
  have hD := hD0.self (sz := s.heap.size)
  have hA : ∀ q : Nat, s.heap.size ≤ q → va_A (iX1 h0) s.heap.size q := fun q h => Or.inr h
  generalize va_A (iX1 h0) s.heap.size = A at hD hA ⊢
  have hS : va_S A s.heap s.heap [] := va_S.rf
  have hl := lv_entry [.ref h0] (n := 1) (Nat.le_of_ble_eq_true rfl)
  rw [lg_entry_eq]
  generalize (lg_sl [.ref h0] ++ List.replicate (1 - (lg_sl [.ref h0]).length) Slot.unset).toArray = ls at hl ⊢
  have hl : lv_has ls 1 [(0, .ref h0)] := hl
  have hP : va_P D vwCl [(h0, .inr (1, [.null, .null, .int 0]))] s.heap := hP
  have hD : va_D A [(h0, .inr (1, [.null, .null, .int 0]))] := hD
  refine lv_aload_n hx hb dX1_init_0 rfl (lv_at hl 0 rfl) ?_
  refine W.objInit hx hb hown (hT tOL_X1) (hT tOI) (hT tOC) rfl (by rw [hml]; exact hl.1) rfl dX1_init_1 (Nat.le_of_ble_eq_true rfl) (Nat.le_of_ble_eq_true rfl) ?_
  refine W.eq (g2 := F0 m 4 ls []) rfl ?_
  refine lv_aload_n hx hb dX1_init_4 rfl (lv_at hl 0 rfl) ?_
  refine lv_bipush (v := nI 8) hx hb dX1_init_5 (by decide) ?_
  refine va_newX (a0 := (8, .inl (fun _ => 0))) (ty := .int) (atype := .int) hx hb 100 0 (hT tA_int) rfl hK rfl (fun _ => rfl) hP hD hS hA (fun _ => rfl) (by decide) (by decide) (by decide) (Nat.le_of_ble_eq_true rfl) (Nat.le_of_ble_eq_true rfl) dX1_init_7 (fun q0 H hP hD hS => ?_)
  have hP : va_P D vwCl [(h0, .inr (1, [.null, .null, .int 0])), (q0, .inl (aC 100, 8, .inl (fun _ => 0)))] H := hP
  have hD : va_D A [(h0, .inr (1, [.null, .null, .int 0])), (q0, .inl (aC 100, 8, .inl (fun _ => 0)))] := hD
  refine va_putF (D := D) (ci := 1) (v := .ref q0) (ty := tyX1 0) (C := RX1) (T := TX1) (N := 3) hx hb hts (fun w hw => (inT.good (y := nX1) (twX1 w hw)).1) tyX1 tyX1_ok nmX1 hown hK hP hD hS 0 rfl rfl 0 (by decide) (hT tf_X1_11) (fun _ h => h) rfl hin rfl (tyX1_ok 0 (by decide)) rfl rfl (Nat.le_of_ble_eq_true rfl) dX1_init_9 (fun H locs hP hD hS => ?_)
  have hP : va_P D vwCl [(h0, .inr (1, [.ref q0, .null, .int 0])), (q0, .inl (aC 100, 8, .inl (fun _ => 0)))] H := hP
  have hD : va_D A [(h0, .inr (1, [.ref q0, .null, .int 0])), (q0, .inl (aC 100, 8, .inl (fun _ => 0)))] := hD
  refine lv_aload_n hx hb dX1_init_12 rfl (lv_at hl 0 rfl) ?_
  refine lv_bipush (v := nI 8) hx hb dX1_init_13 (by decide) ?_
  refine va_newX (a0 := (8, .inl (fun _ => 0))) (ty := .int) (atype := .int) hx hb 100 0 (hT tA_int) rfl hK rfl (fun _ => rfl) hP hD hS hA (fun _ => rfl) (by decide) (by decide) (by decide) (Nat.le_of_ble_eq_true rfl) (Nat.le_of_ble_eq_true rfl) dX1_init_15 (fun q1 H hP hD hS => ?_)
  have hP : va_P D vwCl [(h0, .inr (1, [.ref q0, .null, .int 0])), (q0, .inl (aC 100, 8, .inl (fun _ => 0))), (q1, .inl (aC 100, 8, .inl (fun _ => 0)))] H := hP
  have hD : va_D A [(h0, .inr (1, [.ref q0, .null, .int 0])), (q0, .inl (aC 100, 8, .inl (fun _ => 0))), (q1, .inl (aC 100, 8, .inl (fun _ => 0)))] := hD
  refine va_putF (D := D) (ci := 1) (v := .ref q1) (ty := tyX1 1) (C := RX1) (T := TX1) (N := 3) hx hb hts (fun w hw => (inT.good (y := nX1) (twX1 w hw)).1) tyX1 tyX1_ok nmX1 hown hK hP hD hS 0 rfl rfl 1 (by decide) (hT tf_X1_15) (fun _ h => h) rfl hin rfl (tyX1_ok 1 (by decide)) rfl rfl (Nat.le_of_ble_eq_true rfl) dX1_init_17 (fun H locs hP hD hS => ?_)
  have hP : va_P D vwCl [(h0, .inr (1, [.ref q0, .ref q1, .int 0])), (q0, .inl (aC 100, 8, .inl (fun _ => 0))), (q1, .inl (aC 100, 8, .inl (fun _ => 0)))] H := hP
  have hD : va_D A [(h0, .inr (1, [.ref q0, .ref q1, .int 0])), (q0, .inl (aC 100, 8, .inl (fun _ => 0))), (q1, .inl (aC 100, 8, .inl (fun _ => 0)))] := hD
  refine lv_aload_n hx hb dX1_init_20 rfl (lv_at hl 0 rfl) ?_
  refine lv_iconst (v := 0) hx hb dX1_init_21 (by decide) ?_
  refine va_put (D := D) (ci := 1) (v := .int 0) (ty := tyX1 2) (C := RX1) (T := TX1) (N := 3) hx hb hts (fun w hw => (inT.good (y := nX1) (twX1 w hw)).1) tyX1 tyX1_ok nmX1 hown hK hP hD hS 0 rfl rfl 2 (by decide) (hT tf_X1_18) (fun _ h => h) rfl (tyX1_ok 2 (by decide)) rfl rfl (Nat.le_of_ble_eq_true rfl) dX1_init_22 (fun H locs hP hD hS => ?_)
  have hP : va_P D vwCl [(h0, .inr (1, [.ref q0, .ref q1, .int 0])), (q0, .inl (aC 100, 8, .inl (fun _ => 0))), (q1, .inl (aC 100, 8, .inl (fun _ => 0)))] H := hP
  have hD : va_D A [(h0, .inr (1, [.ref q0, .ref q1, .int 0])), (q0, .inl (aC 100, 8, .inl (fun _ => 0))), (q1, .inl (aC 100, 8, .inl (fun _ => 0)))] := hD
  refine W.widen (k := 2) (n := 16) (Nat.le_of_ble_eq_true rfl) (Nat.le_of_ble_eq_true rfl) ?_
  exact W.vret hx hb hr (fun t ht hW => ⟨⟨fun j => ([q0, q1] : List Nat).getD j 0, rfl, trivial, by rw [ht]; exact hP, va_K.moved hW.alike hK, hD⟩, hS.F ht⟩) hS.2.2 dX1_init_25
def iX3 (h0 : Nat) : va_W := [(h0, .inr (3, [.null, .null, .null, .null, .null, .null, .null, .null, .null, .int 0]))]
def oX3 (aC : Nat → ClassId) (h0 : Nat) (q : Nat → Nat) : va_W := [(h0, .inr (3, [.ref (q 0), .ref (q 1), .ref (q 2), .ref (q 3), .ref (q 4), .ref (q 5), .ref (q 6), .ref (q 7), .ref (q 8), .int 0])), (q 0, .inl (aC 100, 60, .inl (fun _ => 0))), (q 1, .inl (aC 100, 60, .inl (fun _ => 0))), (q 2, .inl (aC 100, 60, .inl (fun _ => 0))), (q 3, .inl (aC 100, 60, .inl (fun _ => 0))), (q 4, .inl (aC 100, 60, .inl (fun _ => 0))), (q 5, .inl (aC 100, 60, .inl (fun _ => 0))), (q 6, .inl (aC 100, 60, .inl (fun _ => 0))), (q 7, .inl (aC 100, 60, .inl (fun _ => 0))), (q 8, .inl (aC 100, 60, .inl (fun _ => 0)))]
theorem ct_X3_bl {D : va_G} {aC : Nat → ClassId} {h0 sz : Nat} : FrameBlind (va_Pc [.ref h0] (fun U => U.heap.size = sz ∧ va_P D vwCl (iX3 h0) U.heap ∧ va_K D vwCl (atys aC) U ∧ va_D (fun _ => True) (iX3 h0))) := by
  intro a U g mk q
  obtain ⟨q0, q1, qP, qK, qD⟩ := q
  exact ⟨q0, q1, qP, va_K.moved (u := U) (U := U.calling g mk a) (Vm.Alike.refl U.vm) qK, qD⟩
set_option maxHeartbeats 40000000 in
set_option maxRecDepth 100000 in
theorem ct_X3 (l : Launch) (D : va_G) (aC : Nat → ClassId) (h0 sz : Nat) : Met l yX3_init (wl nX3) (rmK 1 9 540) (va_Pc [.ref h0] (fun U => U.heap.size = sz ∧ va_P D vwCl (iX3 h0) U.heap ∧ va_K D vwCl (atys aC) U ∧ va_D (fun _ => True) (iX3 h0))) (va_Qv (fun _ : Nat → Nat => True) (fun q t => va_P D vwCl (oX3 aC h0 q) t.heap ∧ va_K D vwCl (atys aC) t ∧ va_D (va_A (iX3 h0) sz) (oX3 aC h0 q)) (va_A (iX3 h0) sz)) 9 540 (va_A (iX3 h0) sz) := by
  refine Met.ofW (cc := cX3_init) (maxL := 1) (ret := none) (by decide) rfl ?_
  intro p e s m args below meth c s₁ B hml hv
  obtain ⟨rfl, hsz, hP, hK, hD0⟩ := hv
  have hx := B.exec
  have hb := B.bytes
  have hr := B.returns
  have hts := atoms_spec (ws := wl nX3) B.pre
  have hT : ∀ {w : Cond}, inT w → w.before [.ref h0].toArray s = true := fun h => hts _ (inT.good (y := nX3) h).1
  have hown : s.vm.findClass RX3 = some m.cls := findClass_of_methodNamed B.named
  have hlocks := B.notSynchronized
  have hin : meth.name = "<init>" := (name_of_methodNamed B.named B.method).1
  subst hsz
  have hD := hD0.self (sz := s.heap.size)
  have hA : ∀ q : Nat, s.heap.size ≤ q → va_A (iX3 h0) s.heap.size q := fun q h => Or.inr h
  generalize va_A (iX3 h0) s.heap.size = A at hD hA ⊢
  have hS : va_S A s.heap s.heap [] := va_S.rf
  have hl := lv_entry [.ref h0] (n := 1) (Nat.le_of_ble_eq_true rfl)
  rw [lg_entry_eq]
  generalize (lg_sl [.ref h0] ++ List.replicate (1 - (lg_sl [.ref h0]).length) Slot.unset).toArray = ls at hl ⊢
  have hl : lv_has ls 1 [(0, .ref h0)] := hl
  have hP : va_P D vwCl [(h0, .inr (3, [.null, .null, .null, .null, .null, .null, .null, .null, .null, .int 0]))] s.heap := hP
  have hD : va_D A [(h0, .inr (3, [.null, .null, .null, .null, .null, .null, .null, .null, .null, .int 0]))] := hD
  refine lv_aload_n hx hb dX3_init_0 rfl (lv_at hl 0 rfl) ?_
  refine W.objInit hx hb hown (hT tOL_X3) (hT tOI) (hT tOC) rfl (by rw [hml]; exact hl.1) rfl dX3_init_1 (Nat.le_of_ble_eq_true rfl) (Nat.le_of_ble_eq_true rfl) ?_
  refine W.eq (g2 := F0 m 4 ls []) rfl ?_
  refine lv_aload_n hx hb dX3_init_4 rfl (lv_at hl 0 rfl) ?_
  refine lv_bipush (v := nI 60) hx hb dX3_init_5 (by decide) ?_
  refine va_newX (a0 := (60, .inl (fun _ => 0))) (ty := .int) (atype := .int) hx hb 100 0 (hT tA_int) rfl hK rfl (fun _ => rfl) hP hD hS hA (fun _ => rfl) (by decide) (by decide) (by decide) (Nat.le_of_ble_eq_true rfl) (Nat.le_of_ble_eq_true rfl) dX3_init_7 (fun q0 H hP hD hS => ?_)
  have hP : va_P D vwCl [(h0, .inr (3, [.null, .null, .null, .null, .null, .null, .null, .null, .null, .int 0])), (q0, .inl (aC 100, 60, .inl (fun _ => 0)))] H := hP
  have hD : va_D A [(h0, .inr (3, [.null, .null, .null, .null, .null, .null, .null, .null, .null, .int 0])), (q0, .inl (aC 100, 60, .inl (fun _ => 0)))] := hD
  refine va_putF (D := D) (ci := 3) (v := .ref q0) (ty := tyX3 0) (C := RX3) (T := TX3) (N := 10) hx hb hts (fun w hw => (inT.good (y := nX3) (twX3 w hw)).1) tyX3 tyX3_ok nmX3 hown hK hP hD hS 0 rfl rfl 0 (by decide) (hT tf_X3_11) (fun _ h => h) rfl hin rfl (tyX3_ok 0 (by decide)) rfl rfl (Nat.le_of_ble_eq_true rfl) dX3_init_9 (fun H locs hP hD hS => ?_)
  have hP : va_P D vwCl [(h0, .inr (3, [.ref q0, .null, .null, .null, .null, .null, .null, .null, .null, .int 0])), (q0, .inl (aC 100, 60, .inl (fun _ => 0)))] H := hP
  have hD : va_D A [(h0, .inr (3, [.ref q0, .null, .null, .null, .null, .null, .null, .null, .null, .int 0])), (q0, .inl (aC 100, 60, .inl (fun _ => 0)))] := hD
  refine lv_aload_n hx hb dX3_init_12 rfl (lv_at hl 0 rfl) ?_
  refine lv_bipush (v := nI 60) hx hb dX3_init_13 (by decide) ?_
  refine va_newX (a0 := (60, .inl (fun _ => 0))) (ty := .int) (atype := .int) hx hb 100 0 (hT tA_int) rfl hK rfl (fun _ => rfl) hP hD hS hA (fun _ => rfl) (by decide) (by decide) (by decide) (Nat.le_of_ble_eq_true rfl) (Nat.le_of_ble_eq_true rfl) dX3_init_15 (fun q1 H hP hD hS => ?_)
  have hP : va_P D vwCl [(h0, .inr (3, [.ref q0, .null, .null, .null, .null, .null, .null, .null, .null, .int 0])), (q0, .inl (aC 100, 60, .inl (fun _ => 0))), (q1, .inl (aC 100, 60, .inl (fun _ => 0)))] H := hP
  have hD : va_D A [(h0, .inr (3, [.ref q0, .null, .null, .null, .null, .null, .null, .null, .null, .int 0])), (q0, .inl (aC 100, 60, .inl (fun _ => 0))), (q1, .inl (aC 100, 60, .inl (fun _ => 0)))] := hD
  refine va_putF (D := D) (ci := 3) (v := .ref q1) (ty := tyX3 1) (C := RX3) (T := TX3) (N := 10) hx hb hts (fun w hw => (inT.good (y := nX3) (twX3 w hw)).1) tyX3 tyX3_ok nmX3 hown hK hP hD hS 0 rfl rfl 1 (by decide) (hT tf_X3_15) (fun _ h => h) rfl hin rfl (tyX3_ok 1 (by decide)) rfl rfl (Nat.le_of_ble_eq_true rfl) dX3_init_17 (fun H locs hP hD hS => ?_)
  have hP : va_P D vwCl [(h0, .inr (3, [.ref q0, .ref q1, .null, .null, .null, .null, .null, .null, .null, .int 0])), (q0, .inl (aC 100, 60, .inl (fun _ => 0))), (q1, .inl (aC 100, 60, .inl (fun _ => 0)))] H := hP
  have hD : va_D A [(h0, .inr (3, [.ref q0, .ref q1, .null, .null, .null, .null, .null, .null, .null, .int 0])), (q0, .inl (aC 100, 60, .inl (fun _ => 0))), (q1, .inl (aC 100, 60, .inl (fun _ => 0)))] := hD
  refine lv_aload_n hx hb dX3_init_20 rfl (lv_at hl 0 rfl) ?_
  refine lv_bipush (v := nI 60) hx hb dX3_init_21 (by decide) ?_
  refine va_newX (a0 := (60, .inl (fun _ => 0))) (ty := .int) (atype := .int) hx hb 100 0 (hT tA_int) rfl hK rfl (fun _ => rfl) hP hD hS hA (fun _ => rfl) (by decide) (by decide) (by decide) (Nat.le_of_ble_eq_true rfl) (Nat.le_of_ble_eq_true rfl) dX3_init_23 (fun q2 H hP hD hS => ?_)
  have hP : va_P D vwCl [(h0, .inr (3, [.ref q0, .ref q1, .null, .null, .null, .null, .null, .null, .null, .int 0])), (q0, .inl (aC 100, 60, .inl (fun _ => 0))), (q1, .inl (aC 100, 60, .inl (fun _ => 0))), (q2, .inl (aC 100, 60, .inl (fun _ => 0)))] H := hP
  have hD : va_D A [(h0, .inr (3, [.ref q0, .ref q1, .null, .null, .null, .null, .null, .null, .null, .int 0])), (q0, .inl (aC 100, 60, .inl (fun _ => 0))), (q1, .inl (aC 100, 60, .inl (fun _ => 0))), (q2, .inl (aC 100, 60, .inl (fun _ => 0)))] := hD
  refine va_putF (D := D) (ci := 3) (v := .ref q2) (ty := tyX3 2) (C := RX3) (T := TX3) (N := 10) hx hb hts (fun w hw => (inT.good (y := nX3) (twX3 w hw)).1) tyX3 tyX3_ok nmX3 hown hK hP hD hS 0 rfl rfl 2 (by decide) (hT tf_X3_18) (fun _ h => h) rfl hin rfl (tyX3_ok 2 (by decide)) rfl rfl (Nat.le_of_ble_eq_true rfl) dX3_init_25 (fun H locs hP hD hS => ?_)
  have hP : va_P D vwCl [(h0, .inr (3, [.ref q0, .ref q1, .ref q2, .null, .null, .null, .null, .null, .null, .int 0])), (q0, .inl (aC 100, 60, .inl (fun _ => 0))), (q1, .inl (aC 100, 60, .inl (fun _ => 0))), (q2, .inl (aC 100, 60, .inl (fun _ => 0)))] H := hP
  have hD : va_D A [(h0, .inr (3, [.ref q0, .ref q1, .ref q2, .null, .null, .null, .null, .null, .null, .int 0])), (q0, .inl (aC 100, 60, .inl (fun _ => 0))), (q1, .inl (aC 100, 60, .inl (fun _ => 0))), (q2, .inl (aC 100, 60, .inl (fun _ => 0)))] := hD
  refine lv_aload_n hx hb dX3_init_28 rfl (lv_at hl 0 rfl) ?_
  refine lv_bipush (v := nI 60) hx hb dX3_init_29 (by decide) ?_
  refine va_newX (a0 := (60, .inl (fun _ => 0))) (ty := .int) (atype := .int) hx hb 100 0 (hT tA_int) rfl hK rfl (fun _ => rfl) hP hD hS hA (fun _ => rfl) (by decide) (by decide) (by decide) (Nat.le_of_ble_eq_true rfl) (Nat.le_of_ble_eq_true rfl) dX3_init_31 (fun q3 H hP hD hS => ?_)
  have hP : va_P D vwCl [(h0, .inr (3, [.ref q0, .ref q1, .ref q2, .null, .null, .null, .null, .null, .null, .int 0])), (q0, .inl (aC 100, 60, .inl (fun _ => 0))), (q1, .inl (aC 100, 60, .inl (fun _ => 0))), (q2, .inl (aC 100, 60, .inl (fun _ => 0))), (q3, .inl (aC 100, 60, .inl (fun _ => 0)))] H := hP
  have hD : va_D A [(h0, .inr (3, [.ref q0, .ref q1, .ref q2, .null, .null, .null, .null, .null, .null, .int 0])), (q0, .inl (aC 100, 60, .inl (fun _ => 0))), (q1, .inl (aC 100, 60, .inl (fun _ => 0))), (q2, .inl (aC 100, 60, .inl (fun _ => 0))), (q3, .inl (aC 100, 60, .inl (fun _ => 0)))] := hD
  refine va_putF (D := D) (ci := 3) (v := .ref q3) (ty := tyX3 3) (C := RX3) (T := TX3) (N := 10) hx hb hts (fun w hw => (inT.good (y := nX3) (twX3 w hw)).1) tyX3 tyX3_ok nmX3 hown hK hP hD hS 0 rfl rfl 3 (by decide) (hT tf_X3_21) (fun _ h => h) rfl hin rfl (tyX3_ok 3 (by decide)) rfl rfl (Nat.le_of_ble_eq_true rfl) dX3_init_33 (fun H locs hP hD hS => ?_)
  have hP : va_P D vwCl [(h0, .inr (3, [.ref q0, .ref q1, .ref q2, .ref q3, .null, .null, .null, .null, .null, .int 0])), (q0, .inl (aC 100, 60, .inl (fun _ => 0))), (q1, .inl (aC 100, 60, .inl (fun _ => 0))), (q2, .inl (aC 100, 60, .inl (fun _ => 0))), (q3, .inl (aC 100, 60, .inl (fun _ => 0)))] H := hP
  have hD : va_D A [(h0, .inr (3, [.ref q0, .ref q1, .ref q2, .ref q3, .null, .null, .null, .null, .null, .int 0])), (q0, .inl (aC 100, 60, .inl (fun _ => 0))), (q1, .inl (aC 100, 60, .inl (fun _ => 0))), (q2, .inl (aC 100, 60, .inl (fun _ => 0))), (q3, .inl (aC 100, 60, .inl (fun _ => 0)))] := hD
  refine lv_aload_n hx hb dX3_init_36 rfl (lv_at hl 0 rfl) ?_
  refine lv_bipush (v := nI 60) hx hb dX3_init_37 (by decide) ?_
  refine va_newX (a0 := (60, .inl (fun _ => 0))) (ty := .int) (atype := .int) hx hb 100 0 (hT tA_int) rfl hK rfl (fun _ => rfl) hP hD hS hA (fun _ => rfl) (by decide) (by decide) (by decide) (Nat.le_of_ble_eq_true rfl) (Nat.le_of_ble_eq_true rfl) dX3_init_39 (fun q4 H hP hD hS => ?_)
  have hP : va_P D vwCl [(h0, .inr (3, [.ref q0, .ref q1, .ref q2, .ref q3, .null, .null, .null, .null, .null, .int 0])), (q0, .inl (aC 100, 60, .inl (fun _ => 0))), (q1, .inl (aC 100, 60, .inl (fun _ => 0))), (q2, .inl (aC 100, 60, .inl (fun _ => 0))), (q3, .inl (aC 100, 60, .inl (fun _ => 0))), (q4, .inl (aC 100, 60, .inl (fun _ => 0)))] H := hP
  have hD : va_D A [(h0, .inr (3, [.ref q0, .ref q1, .ref q2, .ref q3, .null, .null, .null, .null, .null, .int 0])), (q0, .inl (aC 100, 60, .inl (fun _ => 0))), (q1, .inl (aC 100, 60, .inl (fun _ => 0))), (q2, .inl (aC 100, 60, .inl (fun _ => 0))), (q3, .inl (aC 100, 60, .inl (fun _ => 0))), (q4, .inl (aC 100, 60, .inl (fun _ => 0)))] := hD
  refine va_putF (D := D) (ci := 3) (v := .ref q4) (ty := tyX3 4) (C := RX3) (T := TX3) (N := 10) hx hb hts (fun w hw => (inT.good (y := nX3) (twX3 w hw)).1) tyX3 tyX3_ok nmX3 hown hK hP hD hS 0 rfl rfl 4 (by decide) (hT tf_X3_24) (fun _ h => h) rfl hin rfl (tyX3_ok 4 (by decide)) rfl rfl (Nat.le_of_ble_eq_true rfl) dX3_init_41 (fun H locs hP hD hS => ?_)
  have hP : va_P D vwCl [(h0, .inr (3, [.ref q0, .ref q1, .ref q2, .ref q3, .ref q4, .null, .null, .null, .null, .int 0])), (q0, .inl (aC 100, 60, .inl (fun _ => 0))), (q1, .inl (aC 100, 60, .inl (fun _ => 0))), (q2, .inl (aC 100, 60, .inl (fun _ => 0))), (q3, .inl (aC 100, 60, .inl (fun _ => 0))), (q4, .inl (aC 100, 60, .inl (fun _ => 0)))] H := hP
  have hD : va_D A [(h0, .inr (3, [.ref q0, .ref q1, .ref q2, .ref q3, .ref q4, .null, .null, .null, .null, .int 0])), (q0, .inl (aC 100, 60, .inl (fun _ => 0))), (q1, .inl (aC 100, 60, .inl (fun _ => 0))), (q2, .inl (aC 100, 60, .inl (fun _ => 0))), (q3, .inl (aC 100, 60, .inl (fun _ => 0))), (q4, .inl (aC 100, 60, .inl (fun _ => 0)))] := hD
  refine lv_aload_n hx hb dX3_init_44 rfl (lv_at hl 0 rfl) ?_
  refine lv_bipush (v := nI 60) hx hb dX3_init_45 (by decide) ?_
  refine va_newX (a0 := (60, .inl (fun _ => 0))) (ty := .int) (atype := .int) hx hb 100 0 (hT tA_int) rfl hK rfl (fun _ => rfl) hP hD hS hA (fun _ => rfl) (by decide) (by decide) (by decide) (Nat.le_of_ble_eq_true rfl) (Nat.le_of_ble_eq_true rfl) dX3_init_47 (fun q5 H hP hD hS => ?_)
  have hP : va_P D vwCl [(h0, .inr (3, [.ref q0, .ref q1, .ref q2, .ref q3, .ref q4, .null, .null, .null, .null, .int 0])), (q0, .inl (aC 100, 60, .inl (fun _ => 0))), (q1, .inl (aC 100, 60, .inl (fun _ => 0))), (q2, .inl (aC 100, 60, .inl (fun _ => 0))), (q3, .inl (aC 100, 60, .inl (fun _ => 0))), (q4, .inl (aC 100, 60, .inl (fun _ => 0))), (q5, .inl (aC 100, 60, .inl (fun _ => 0)))] H := hP
  have hD : va_D A [(h0, .inr (3, [.ref q0, .ref q1, .ref q2, .ref q3, .ref q4, .null, .null, .null, .null, .int 0])), (q0, .inl (aC 100, 60, .inl (fun _ => 0))), (q1, .inl (aC 100, 60, .inl (fun _ => 0))), (q2, .inl (aC 100, 60, .inl (fun _ => 0))), (q3, .inl (aC 100, 60, .inl (fun _ => 0))), (q4, .inl (aC 100, 60, .inl (fun _ => 0))), (q5, .inl (aC 100, 60, .inl (fun _ => 0)))] := hD
  refine va_putF (D := D) (ci := 3) (v := .ref q5) (ty := tyX3 5) (C := RX3) (T := TX3) (N := 10) hx hb hts (fun w hw => (inT.good (y := nX3) (twX3 w hw)).1) tyX3 tyX3_ok nmX3 hown hK hP hD hS 0 rfl rfl 5 (by decide) (hT tf_X3_27) (fun _ h => h) rfl hin rfl (tyX3_ok 5 (by decide)) rfl rfl (Nat.le_of_ble_eq_true rfl) dX3_init_49 (fun H locs hP hD hS => ?_)
  have hP : va_P D vwCl [(h0, .inr (3, [.ref q0, .ref q1, .ref q2, .ref q3, .ref q4, .ref q5, .null, .null, .null, .int 0])), (q0, .inl (aC 100, 60, .inl (fun _ => 0))), (q1, .inl (aC 100, 60, .inl (fun _ => 0))), (q2, .inl (aC 100, 60, .inl (fun _ => 0))), (q3, .inl (aC 100, 60, .inl (fun _ => 0))), (q4, .inl (aC 100, 60, .inl (fun _ => 0))), (q5, .inl (aC 100, 60, .inl (fun _ => 0)))] H := hP
  have hD : va_D A [(h0, .inr (3, [.ref q0, .ref q1, .ref q2, .ref q3, .ref q4, .ref q5, .null, .null, .null, .int 0])), (q0, .inl (aC 100, 60, .inl (fun _ => 0))), (q1, .inl (aC 100, 60, .inl (fun _ => 0))), (q2, .inl (aC 100, 60, .inl (fun _ => 0))), (q3, .inl (aC 100, 60, .inl (fun _ => 0))), (q4, .inl (aC 100, 60, .inl (fun _ => 0))), (q5, .inl (aC 100, 60, .inl (fun _ => 0)))] := hD
  refine lv_aload_n hx hb dX3_init_52 rfl (lv_at hl 0 rfl) ?_
  refine lv_bipush (v := nI 60) hx hb dX3_init_53 (by decide) ?_
  refine va_newX (a0 := (60, .inl (fun _ => 0))) (ty := .int) (atype := .int) hx hb 100 0 (hT tA_int) rfl hK rfl (fun _ => rfl) hP hD hS hA (fun _ => rfl) (by decide) (by decide) (by decide) (Nat.le_of_ble_eq_true rfl) (Nat.le_of_ble_eq_true rfl) dX3_init_55 (fun q6 H hP hD hS => ?_)
  have hP : va_P D vwCl [(h0, .inr (3, [.ref q0, .ref q1, .ref q2, .ref q3, .ref q4, .ref q5, .null, .null, .null, .int 0])), (q0, .inl (aC 100, 60, .inl (fun _ => 0))), (q1, .inl (aC 100, 60, .inl (fun _ => 0))), (q2, .inl (aC 100, 60, .inl (fun _ => 0))), (q3, .inl (aC 100, 60, .inl (fun _ => 0))), (q4, .inl (aC 100, 60, .inl (fun _ => 0))), (q5, .inl (aC 100, 60, .inl (fun _ => 0))), (q6, .inl (aC 100, 60, .inl (fun _ => 0)))] H := hP
  have hD : va_D A [(h0, .inr (3, [.ref q0, .ref q1, .ref q2, .ref q3, .ref q4, .ref q5, .null, .null, .null, .int 0])), (q0, .inl (aC 100, 60, .inl (fun _ => 0))), (q1, .inl (aC 100, 60, .inl (fun _ => 0))), (q2, .inl (aC 100, 60, .inl (fun _ => 0))), (q3, .inl (aC 100, 60, .inl (fun _ => 0))), (q4, .inl (aC 100, 60, .inl (fun _ => 0))), (q5, .inl (aC 100, 60, .inl (fun _ => 0))), (q6, .inl (aC 100, 60, .inl (fun _ => 0)))] := hD
  refine va_putF (D := D) (ci := 3) (v := .ref q6) (ty := tyX3 6) (C := RX3) (T := TX3) (N := 10) hx hb hts (fun w hw => (inT.good (y := nX3) (twX3 w hw)).1) tyX3 tyX3_ok nmX3 hown hK hP hD hS 0 rfl rfl 6 (by decide) (hT tf_X3_30) (fun _ h => h) rfl hin rfl (tyX3_ok 6 (by decide)) rfl rfl (Nat.le_of_ble_eq_true rfl) dX3_init_57 (fun H locs hP hD hS => ?_)
  have hP : va_P D vwCl [(h0, .inr (3, [.ref q0, .ref q1, .ref q2, .ref q3, .ref q4, .ref q5, .ref q6, .null, .null, .int 0])), (q0, .inl (aC 100, 60, .inl (fun _ => 0))), (q1, .inl (aC 100, 60, .inl (fun _ => 0))), (q2, .inl (aC 100, 60, .inl (fun _ => 0))), (q3, .inl (aC 100, 60, .inl (fun _ => 0))), (q4, .inl (aC 100, 60, .inl (fun _ => 0))), (q5, .inl (aC 100, 60, .inl (fun _ => 0))), (q6, .inl (aC 100, 60, .inl (fun _ => 0)))] H := hP
  have hD : va_D A [(h0, .inr (3, [.ref q0, .ref q1, .ref q2, .ref q3, .ref q4, .ref q5, .ref q6, .null, .null, .int 0])), (q0, .inl (aC 100, 60, .inl (fun _ => 0))), (q1, .inl (aC 100, 60, .inl (fun _ => 0))), (q2, .inl (aC 100, 60, .inl (fun _ => 0))), (q3, .inl (aC 100, 60, .inl (fun _ => 0))), (q4, .inl (aC 100, 60, .inl (fun _ => 0))), (q5, .inl (aC 100, 60, .inl (fun _ => 0))), (q6, .inl (aC 100, 60, .inl (fun _ => 0)))] := hD
  refine lv_aload_n hx hb dX3_init_60 rfl (lv_at hl 0 rfl) ?_
  refine lv_bipush (v := nI 60) hx hb dX3_init_61 (by decide) ?_
  refine va_newX (a0 := (60, .inl (fun _ => 0))) (ty := .int) (atype := .int) hx hb 100 0 (hT tA_int) rfl hK rfl (fun _ => rfl) hP hD hS hA (fun _ => rfl) (by decide) (by decide) (by decide) (Nat.le_of_ble_eq_true rfl) (Nat.le_of_ble_eq_true rfl) dX3_init_63 (fun q7 H hP hD hS => ?_)
  have hP : va_P D vwCl [(h0, .inr (3, [.ref q0, .ref q1, .ref q2, .ref q3, .ref q4, .ref q5, .ref q6, .null, .null, .int 0])), (q0, .inl (aC 100, 60, .inl (fun _ => 0))), (q1, .inl (aC 100, 60, .inl (fun _ => 0))), (q2, .inl (aC 100, 60, .inl (fun _ => 0))), (q3, .inl (aC 100, 60, .inl (fun _ => 0))), (q4, .inl (aC 100, 60, .inl (fun _ => 0))), (q5, .inl (aC 100, 60, .inl (fun _ => 0))), (q6, .inl (aC 100, 60, .inl (fun _ => 0))), (q7, .inl (aC 100, 60, .inl (fun _ => 0)))] H := hP
  have hD : va_D A [(h0, .inr (3, [.ref q0, .ref q1, .ref q2, .ref q3, .ref q4, .ref q5, .ref q6, .null, .null, .int 0])), (q0, .inl (aC 100, 60, .inl (fun _ => 0))), (q1, .inl (aC 100, 60, .inl (fun _ => 0))), (q2, .inl (aC 100, 60, .inl (fun _ => 0))), (q3, .inl (aC 100, 60, .inl (fun _ => 0))), (q4, .inl (aC 100, 60, .inl (fun _ => 0))), (q5, .inl (aC 100, 60, .inl (fun _ => 0))), (q6, .inl (aC 100, 60, .inl (fun _ => 0))), (q7, .inl (aC 100, 60, .inl (fun _ => 0)))] := hD
  refine va_putF (D := D) (ci := 3) (v := .ref q7) (ty := tyX3 7) (C := RX3) (T := TX3) (N := 10) hx hb hts (fun w hw => (inT.good (y := nX3) (twX3 w hw)).1) tyX3 tyX3_ok nmX3 hown hK hP hD hS 0 rfl rfl 7 (by decide) (hT tf_X3_33) (fun _ h => h) rfl hin rfl (tyX3_ok 7 (by decide)) rfl rfl (Nat.le_of_ble_eq_true rfl) dX3_init_65 (fun H locs hP hD hS => ?_)
  have hP : va_P D vwCl [(h0, .inr (3, [.ref q0, .ref q1, .ref q2, .ref q3, .ref q4, .ref q5, .ref q6, .ref q7, .null, .int 0])), (q0, .inl (aC 100, 60, .inl (fun _ => 0))), (q1, .inl (aC 100, 60, .inl (fun _ => 0))), (q2, .inl (aC 100, 60, .inl (fun _ => 0))), (q3, .inl (aC 100, 60, .inl (fun _ => 0))), (q4, .inl (aC 100, 60, .inl (fun _ => 0))), (q5, .inl (aC 100, 60, .inl (fun _ => 0))), (q6, .inl (aC 100, 60, .inl (fun _ => 0))), (q7, .inl (aC 100, 60, .inl (fun _ => 0)))] H := hP
  have hD : va_D A [(h0, .inr (3, [.ref q0, .ref q1, .ref q2, .ref q3, .ref q4, .ref q5, .ref q6, .ref q7, .null, .int 0])), (q0, .inl (aC 100, 60, .inl (fun _ => 0))), (q1, .inl (aC 100, 60, .inl (fun _ => 0))), (q2, .inl (aC 100, 60, .inl (fun _ => 0))), (q3, .inl (aC 100, 60, .inl (fun _ => 0))), (q4, .inl (aC 100, 60, .inl (fun _ => 0))), (q5, .inl (aC 100, 60, .inl (fun _ => 0))), (q6, .inl (aC 100, 60, .inl (fun _ => 0))), (q7, .inl (aC 100, 60, .inl (fun _ => 0)))] := hD
  refine lv_aload_n hx hb dX3_init_68 rfl (lv_at hl 0 rfl) ?_
  refine lv_bipush (v := nI 60) hx hb dX3_init_69 (by decide) ?_
  refine va_newX (a0 := (60, .inl (fun _ => 0))) (ty := .int) (atype := .int) hx hb 100 0 (hT tA_int) rfl hK rfl (fun _ => rfl) hP hD hS hA (fun _ => rfl) (by decide) (by decide) (by decide) (Nat.le_of_ble_eq_true rfl) (Nat.le_of_ble_eq_true rfl) dX3_init_71 (fun q8 H hP hD hS => ?_)
  have hP : va_P D vwCl [(h0, .inr (3, [.ref q0, .ref q1, .ref q2, .ref q3, .ref q4, .ref q5, .ref q6, .ref q7, .null, .int 0])), (q0, .inl (aC 100, 60, .inl (fun _ => 0))), (q1, .inl (aC 100, 60, .inl (fun _ => 0))), (q2, .inl (aC 100, 60, .inl (fun _ => 0))), (q3, .inl (aC 100, 60, .inl (fun _ => 0))), (q4, .inl (aC 100, 60, .inl (fun _ => 0))), (q5, .inl (aC 100, 60, .inl (fun _ => 0))), (q6, .inl (aC 100, 60, .inl (fun _ => 0))), (q7, .inl (aC 100, 60, .inl (fun _ => 0))), (q8, .inl (aC 100, 60, .inl (fun _ => 0)))] H := hP
  have hD : va_D A [(h0, .inr (3, [.ref q0, .ref q1, .ref q2, .ref q3, .ref q4, .ref q5, .ref q6, .ref q7, .null, .int 0])), (q0, .inl (aC 100, 60, .inl (fun _ => 0))), (q1, .inl (aC 100, 60, .inl (fun _ => 0))), (q2, .inl (aC 100, 60, .inl (fun _ => 0))), (q3, .inl (aC 100, 60, .inl (fun _ => 0))), (q4, .inl (aC 100, 60, .inl (fun _ => 0))), (q5, .inl (aC 100, 60, .inl (fun _ => 0))), (q6, .inl (aC 100, 60, .inl (fun _ => 0))), (q7, .inl (aC 100, 60, .inl (fun _ => 0))), (q8, .inl (aC 100, 60, .inl (fun _ => 0)))] := hD
  refine va_putF (D := D) (ci := 3) (v := .ref q8) (ty := tyX3 8) (C := RX3) (T := TX3) (N := 10) hx hb hts (fun w hw => (inT.good (y := nX3) (twX3 w hw)).1) tyX3 tyX3_ok nmX3 hown hK hP hD hS 0 rfl rfl 8 (by decide) (hT tf_X3_36) (fun _ h => h) rfl hin rfl (tyX3_ok 8 (by decide)) rfl rfl (Nat.le_of_ble_eq_true rfl) dX3_init_73 (fun H locs hP hD hS => ?_)
  have hP : va_P D vwCl [(h0, .inr (3, [.ref q0, .ref q1, .ref q2, .ref q3, .ref q4, .ref q5, .ref q6, .ref q7, .ref q8, .int 0])), (q0, .inl (aC 100, 60, .inl (fun _ => 0))), (q1, .inl (aC 100, 60, .inl (fun _ => 0))), (q2, .inl (aC 100, 60, .inl (fun _ => 0))), (q3, .inl (aC 100, 60, .inl (fun _ => 0))), (q4, .inl (aC 100, 60, .inl (fun _ => 0))), (q5, .inl (aC 100, 60, .inl (fun _ => 0))), (q6, .inl (aC 100, 60, .inl (fun _ => 0))), (q7, .inl (aC 100, 60, .inl (fun _ => 0))), (q8, .inl (aC 100, 60, .inl (fun _ => 0)))] H := hP
  have hD : va_D A [(h0, .inr (3, [.ref q0, .ref q1, .ref q2, .ref q3, .ref q4, .ref q5, .ref q6, .ref q7, .ref q8, .int 0])), (q0, .inl (aC 100, 60, .inl (fun _ => 0))), (q1, .inl (aC 100, 60, .inl (fun _ => 0))), (q2, .inl (aC 100, 60, .inl (fun _ => 0))), (q3, .inl (aC 100, 60, .inl (fun _ => 0))), (q4, .inl (aC 100, 60, .inl (fun _ => 0))), (q5, .inl (aC 100, 60, .inl (fun _ => 0))), (q6, .inl (aC 100, 60, .inl (fun _ => 0))), (q7, .inl (aC 100, 60, .inl (fun _ => 0))), (q8, .inl (aC 100, 60, .inl (fun _ => 0)))] := hD
  refine lv_aload_n hx hb dX3_init_76 rfl (lv_at hl 0 rfl) ?_
  refine lv_iconst (v := 0) hx hb dX3_init_77 (by decide) ?_
  refine va_put (D := D) (ci := 3) (v := .int 0) (ty := tyX3 9) (C := RX3) (T := TX3) (N := 10) hx hb hts (fun w hw => (inT.good (y := nX3) (twX3 w hw)).1) tyX3 tyX3_ok nmX3 hown hK hP hD hS 0 rfl rfl 9 (by decide) (hT tf_X3_39) (fun _ h => h) rfl (tyX3_ok 9 (by decide)) rfl rfl (Nat.le_of_ble_eq_true rfl) dX3_init_78 (fun H locs hP hD hS => ?_)
  have hP : va_P D vwCl [(h0, .inr (3, [.ref q0, .ref q1, .ref q2, .ref q3, .ref q4, .ref q5, .ref q6, .ref q7, .ref q8, .int 0])), (q0, .inl (aC 100, 60, .inl (fun _ => 0))), (q1, .inl (aC 100, 60, .inl (fun _ => 0))), (q2, .inl (aC 100, 60, .inl (fun _ => 0))), (q3, .inl (aC 100, 60, .inl (fun _ => 0))), (q4, .inl (aC 100, 60, .inl (fun _ => 0))), (q5, .inl (aC 100, 60, .inl (fun _ => 0))), (q6, .inl (aC 100, 60, .inl (fun _ => 0))), (q7, .inl (aC 100, 60, .inl (fun _ => 0))), (q8, .inl (aC 100, 60, .inl (fun _ => 0)))] H := hP
  have hD : va_D A [(h0, .inr (3, [.ref q0, .ref q1, .ref q2, .ref q3, .ref q4, .ref q5, .ref q6, .ref q7, .ref q8, .int 0])), (q0, .inl (aC 100, 60, .inl (fun _ => 0))), (q1, .inl (aC 100, 60, .inl (fun _ => 0))), (q2, .inl (aC 100, 60, .inl (fun _ => 0))), (q3, .inl (aC 100, 60, .inl (fun _ => 0))), (q4, .inl (aC 100, 60, .inl (fun _ => 0))), (q5, .inl (aC 100, 60, .inl (fun _ => 0))), (q6, .inl (aC 100, 60, .inl (fun _ => 0))), (q7, .inl (aC 100, 60, .inl (fun _ => 0))), (q8, .inl (aC 100, 60, .inl (fun _ => 0)))] := hD
  refine W.widen (k := 9) (n := 540) (Nat.le_of_ble_eq_true rfl) (Nat.le_of_ble_eq_true rfl) ?_
  exact W.vret hx hb hr (fun t ht hW => ⟨⟨fun j => ([q0, q1, q2, q3, q4, q5, q6, q7, q8] : List Nat).getD j 0, rfl, trivial, by rw [ht]; exact hP, va_K.moved hW.alike hK, hD⟩, hS.F ht⟩) hS.2.2 dX3_init_81
def iX10 (h0 : Nat) : va_W := [(h0, .inr (10, [.null, .null, .int 0, .int 0, .int 0, .int 0]))]
def oX10 (aC : Nat → ClassId) (h0 p1 p2 : Nat) (q : Nat → Nat) : va_W := [(h0, .inr (10, [.ref p1, .ref p2, .int (-1), .int 0, .int 0, .int 0]))]
theorem ct_X10_bl {D : va_G} {aC : Nat → ClassId} {h0 p1 p2 sz : Nat} : FrameBlind (va_Pc [.ref h0, .ref p1, .ref p2] (fun U => U.heap.size = sz ∧ va_P D vwCl (iX10 h0) U.heap ∧ va_K D vwCl (atys aC) U ∧ va_D (fun _ => True) (iX10 h0))) := by
  intro a U g mk q
  obtain ⟨q0, q1, qP, qK, qD⟩ := q
  exact ⟨q0, q1, qP, va_K.moved (u := U) (U := U.calling g mk a) (Vm.Alike.refl U.vm) qK, qD⟩
set_option maxHeartbeats 40000000 in
set_option maxRecDepth 100000 in
theorem ct_X10 (l : Launch) (D : va_G) (aC : Nat → ClassId) (h0 p1 p2 sz : Nat) : Met l yX10_init (wl nX10) (rmK 1 0 0) (va_Pc [.ref h0, .ref p1, .ref p2] (fun U => U.heap.size = sz ∧ va_P D vwCl (iX10 h0) U.heap ∧ va_K D vwCl (atys aC) U ∧ va_D (fun _ => True) (iX10 h0))) (va_Qv (fun _ : Nat → Nat => True) (fun q t => va_P D vwCl (oX10 aC h0 p1 p2 q) t.heap ∧ va_K D vwCl (atys aC) t ∧ va_D (va_A (iX10 h0) sz) (oX10 aC h0 p1 p2 q)) (va_A (iX10 h0) sz)) 0 0 (va_A (iX10 h0) sz) := by
  refine Met.ofW (cc := cX10_init) (maxL := 3) (ret := none) (by decide) rfl ?_
  intro p e s m args below meth c s₁ B hml hv
  obtain ⟨rfl, hsz, hP, hK, hD0⟩ := hv
  have hx := B.exec
  have hb := B.bytes
  have hr := B.returns
  have hts := atoms_spec (ws := wl nX10) B.pre
  have hT : ∀ {w : Cond}, inT w → w.before [.ref h0, .ref p1, .ref p2].toArray s = true := fun h => hts _ (inT.good (y := nX10) h).1
  have hown : s.vm.findClass RX10 = some m.cls := findClass_of_methodNamed B.named
  have hlocks := B.notSynchronized
  have hin : meth.name = "<init>" := (name_of_methodNamed B.named B.method).1
  subst hsz
  have hD := hD0.self (sz := s.heap.size)
  have hA : ∀ q : Nat, s.heap.size ≤ q → va_A (iX10 h0) s.heap.size q := fun q h => Or.inr h
  generalize va_A (iX10 h0) s.heap.size = A at hD hA ⊢
  have hS : va_S A s.heap s.heap [] := va_S.rf
  have hl := lv_entry [.ref h0, .ref p1, .ref p2] (n := 3) (Nat.le_of_ble_eq_true rfl)
  rw [lg_entry_eq]
  generalize (lg_sl [.ref h0, .ref p1, .ref p2] ++ List.replicate (3 - (lg_sl [.ref h0, .ref p1, .ref p2]).length) Slot.unset).toArray = ls at hl ⊢
  have hl : lv_has ls 3 [(0, .ref h0), (1, .ref p1), (2, .ref p2)] := hl
  have hP : va_P D vwCl [(h0, .inr (10, [.null, .null, .int 0, .int 0, .int 0, .int 0]))] s.heap := hP
  have hD : va_D A [(h0, .inr (10, [.null, .null, .int 0, .int 0, .int 0, .int 0]))] := hD
  refine lv_aload_n hx hb dX10_init_0 rfl (lv_at hl 0 rfl) ?_
  refine W.objInit hx hb hown (hT tOL_X10) (hT tOI) (hT tOC) rfl (by rw [hml]; exact hl.1) rfl dX10_init_1 (Nat.le_of_ble_eq_true rfl) (Nat.le_of_ble_eq_true rfl) ?_
  refine W.eq (g2 := F0 m 4 ls []) rfl ?_
  refine lv_aload_n hx hb dX10_init_4 rfl (lv_at hl 0 rfl) ?_
  refine lv_iconst (v := -1) hx hb dX10_init_5 (by decide) ?_
  refine va_put (D := D) (ci := 10) (v := .int (-1)) (ty := tyX10 2) (C := RX10) (T := TX10) (N := 6) hx hb hts (fun w hw => (inT.good (y := nX10) (twX10 w hw)).1) tyX10 tyX10_ok nmX10 hown hK hP hD hS 0 rfl rfl 2 (by decide) (hT tf_X10_9) (fun _ h => h) rfl (tyX10_ok 2 (by decide)) rfl rfl (Nat.le_of_ble_eq_true rfl) dX10_init_6 (fun H locs hP hD hS => ?_)
  have hP : va_P D vwCl [(h0, .inr (10, [.null, .null, .int (-1), .int 0, .int 0, .int 0]))] H := hP
  have hD : va_D A [(h0, .inr (10, [.null, .null, .int (-1), .int 0, .int 0, .int 0]))] := hD
  refine lv_aload_n hx hb dX10_init_9 rfl (lv_at hl 0 rfl) ?_
  refine lv_iconst (v := 0) hx hb dX10_init_10 (by decide) ?_
  refine va_put (D := D) (ci := 10) (v := .int 0) (ty := tyX10 3) (C := RX10) (T := TX10) (N := 6) hx hb hts (fun w hw => (inT.good (y := nX10) (twX10 w hw)).1) tyX10 tyX10_ok nmX10 hown hK hP hD hS 0 rfl rfl 3 (by decide) (hT tf_X10_15) (fun _ h => h) rfl (tyX10_ok 3 (by decide)) rfl rfl (Nat.le_of_ble_eq_true rfl) dX10_init_11 (fun H locs hP hD hS => ?_)
  have hP : va_P D vwCl [(h0, .inr (10, [.null, .null, .int (-1), .int 0, .int 0, .int 0]))] H := hP
  have hD : va_D A [(h0, .inr (10, [.null, .null, .int (-1), .int 0, .int 0, .int 0]))] := hD
  refine lv_aload_n hx hb dX10_init_14 rfl (lv_at hl 0 rfl) ?_
  refine lv_iconst (v := 0) hx hb dX10_init_15 (by decide) ?_
  refine va_put (D := D) (ci := 10) (v := .int 0) (ty := tyX10 4) (C := RX10) (T := TX10) (N := 6) hx hb hts (fun w hw => (inT.good (y := nX10) (twX10 w hw)).1) tyX10 tyX10_ok nmX10 hown hK hP hD hS 0 rfl rfl 4 (by decide) (hT tf_X10_19) (fun _ h => h) rfl (tyX10_ok 4 (by decide)) rfl rfl (Nat.le_of_ble_eq_true rfl) dX10_init_16 (fun H locs hP hD hS => ?_)
  have hP : va_P D vwCl [(h0, .inr (10, [.null, .null, .int (-1), .int 0, .int 0, .int 0]))] H := hP
  have hD : va_D A [(h0, .inr (10, [.null, .null, .int (-1), .int 0, .int 0, .int 0]))] := hD
  refine lv_aload_n hx hb dX10_init_19 rfl (lv_at hl 0 rfl) ?_
  refine lv_iconst (v := 0) hx hb dX10_init_20 (by decide) ?_
  refine va_put (D := D) (ci := 10) (v := .int 0) (ty := tyX10 5) (C := RX10) (T := TX10) (N := 6) hx hb hts (fun w hw => (inT.good (y := nX10) (twX10 w hw)).1) tyX10 tyX10_ok nmX10 hown hK hP hD hS 0 rfl rfl 5 (by decide) (hT tf_X10_22) (fun _ h => h) rfl (tyX10_ok 5 (by decide)) rfl rfl (Nat.le_of_ble_eq_true rfl) dX10_init_21 (fun H locs hP hD hS => ?_)
  have hP : va_P D vwCl [(h0, .inr (10, [.null, .null, .int (-1), .int 0, .int 0, .int 0]))] H := hP
  have hD : va_D A [(h0, .inr (10, [.null, .null, .int (-1), .int 0, .int 0, .int 0]))] := hD
  refine lv_aload_n hx hb dX10_init_24 rfl (lv_at hl 0 rfl) ?_
  refine lv_aload_n hx hb dX10_init_25 rfl (lv_at hl 1 rfl) ?_
  refine va_putF (D := D) (ci := 10) (v := .ref p1) (ty := tyX10 0) (C := RX10) (T := TX10) (N := 6) hx hb hts (fun w hw => (inT.good (y := nX10) (twX10 w hw)).1) tyX10 tyX10_ok nmX10 hown hK hP hD hS 0 rfl rfl 0 (by decide) (hT tf_X10_25) (fun _ h => h) rfl hin rfl (tyX10_ok 0 (by decide)) rfl rfl (Nat.le_of_ble_eq_true rfl) dX10_init_26 (fun H locs hP hD hS => ?_)
  have hP : va_P D vwCl [(h0, .inr (10, [.ref p1, .null, .int (-1), .int 0, .int 0, .int 0]))] H := hP
  have hD : va_D A [(h0, .inr (10, [.ref p1, .null, .int (-1), .int 0, .int 0, .int 0]))] := hD
  refine lv_aload_n hx hb dX10_init_29 rfl (lv_at hl 0 rfl) ?_
  refine lv_aload_n hx hb dX10_init_30 rfl (lv_at hl 2 rfl) ?_
  refine va_putF (D := D) (ci := 10) (v := .ref p2) (ty := tyX10 1) (C := RX10) (T := TX10) (N := 6) hx hb hts (fun w hw => (inT.good (y := nX10) (twX10 w hw)).1) tyX10 tyX10_ok nmX10 hown hK hP hD hS 0 rfl rfl 1 (by decide) (hT tf_X10_29) (fun _ h => h) rfl hin rfl (tyX10_ok 1 (by decide)) rfl rfl (Nat.le_of_ble_eq_true rfl) dX10_init_31 (fun H locs hP hD hS => ?_)
  have hP : va_P D vwCl [(h0, .inr (10, [.ref p1, .ref p2, .int (-1), .int 0, .int 0, .int 0]))] H := hP
  have hD : va_D A [(h0, .inr (10, [.ref p1, .ref p2, .int (-1), .int 0, .int 0, .int 0]))] := hD
  refine W.widen (k := 0) (n := 0) (Nat.le_of_ble_eq_true rfl) (Nat.le_of_ble_eq_true rfl) ?_
  exact W.vret hx hb hr (fun t ht hW => ⟨⟨fun j => ([] : List Nat).getD j 0, rfl, trivial, by rw [ht]; exact hP, va_K.moved hW.alike hK, hD⟩, hS.F ht⟩) hS.2.2 dX10_init_34
def iX0 (h0 : Nat) : va_W := [(h0, .inr (0, [.null, .null, .int 0]))]
def oX0 (aC : Nat → ClassId) (h0 : Nat) (q : Nat → Nat) : va_W := [(h0, .inr (0, [.ref (q 0), .ref (q 1), .int 0])), (q 0, .inl (aC 100, 30, .inl (fun _ => 0))), (q 1, .inl (aC 100, 9, .inl (fun _ => 0)))]
theorem ct_X0_bl {D : va_G} {aC : Nat → ClassId} {h0 sz : Nat} : FrameBlind (va_Pc [.ref h0] (fun U => U.heap.size = sz ∧ va_P D vwCl (iX0 h0) U.heap ∧ va_K D vwCl (atys aC) U ∧ va_D (fun _ => True) (iX0 h0))) := by
  intro a U g mk q
  obtain ⟨q0, q1, qP, qK, qD⟩ := q
  exact ⟨q0, q1, qP, va_K.moved (u := U) (U := U.calling g mk a) (Vm.Alike.refl U.vm) qK, qD⟩
set_option maxHeartbeats 40000000 in
set_option maxRecDepth 100000 in
theorem ct_X0 (l : Launch) (D : va_G) (aC : Nat → ClassId) (h0 sz : Nat) : Met l yX0_init (wl nX0) (rmK 1 2 39) (va_Pc [.ref h0] (fun U => U.heap.size = sz ∧ va_P D vwCl (iX0 h0) U.heap ∧ va_K D vwCl (atys aC) U ∧ va_D (fun _ => True) (iX0 h0))) (va_Qv (fun _ : Nat → Nat => True) (fun q t => va_P D vwCl (oX0 aC h0 q) t.heap ∧ va_K D vwCl (atys aC) t ∧ va_D (va_A (iX0 h0) sz) (oX0 aC h0 q)) (va_A (iX0 h0) sz)) 2 39 (va_A (iX0 h0) sz) := by
  refine Met.ofW (cc := cX0_init) (maxL := 1) (ret := none) (by decide) rfl ?_
  intro p e s m args below meth c s₁ B hml hv
  obtain ⟨rfl, hsz, hP, hK, hD0⟩ := hv
  have hx := B.exec
  have hb := B.bytes
  have hr := B.returns
  have hts := atoms_spec (ws := wl nX0) B.pre
  have hT : ∀ {w : Cond}, inT w → w.before [.ref h0].toArray s = true := fun h => hts _ (inT.good (y := nX0) h).1
  have hown : s.vm.findClass RX0 = some m.cls := findClass_of_methodNamed B.named
  have hlocks := B.notSynchronized
  have hin : meth.name = "<init>" := (name_of_methodNamed B.named B.method).1
  subst hsz
  have hD := hD0.self (sz := s.heap.size)
  have hA : ∀ q : Nat, s.heap.size ≤ q → va_A (iX0 h0) s.heap.size q := fun q h => Or.inr h
  generalize va_A (iX0 h0) s.heap.size = A at hD hA ⊢
  have hS : va_S A s.heap s.heap [] := va_S.rf
  have hl := lv_entry [.ref h0] (n := 1) (Nat.le_of_ble_eq_true rfl)
  rw [lg_entry_eq]
  generalize (lg_sl [.ref h0] ++ List.replicate (1 - (lg_sl [.ref h0]).length) Slot.unset).toArray = ls at hl ⊢
  have hl : lv_has ls 1 [(0, .ref h0)] := hl
  have hP : va_P D vwCl [(h0, .inr (0, [.null, .null, .int 0]))] s.heap := hP
  have hD : va_D A [(h0, .inr (0, [.null, .null, .int 0]))] := hD
  refine lv_aload_n hx hb dX0_init_0 rfl (lv_at hl 0 rfl) ?_
  refine W.objInit hx hb hown (hT tOL_X0) (hT tOI) (hT tOC) rfl (by rw [hml]; exact hl.1) rfl dX0_init_1 (Nat.le_of_ble_eq_true rfl) (Nat.le_of_ble_eq_true rfl) ?_
  refine W.eq (g2 := F0 m 4 ls []) rfl ?_
  refine lv_aload_n hx hb dX0_init_4 rfl (lv_at hl 0 rfl) ?_
  refine lv_bipush (v := nI 30) hx hb dX0_init_5 (by decide) ?_
  refine va_newX (a0 := (30, .inl (fun _ => 0))) (ty := .int) (atype := .int) hx hb 100 0 (hT tA_int) rfl hK rfl (fun _ => rfl) hP hD hS hA (fun _ => rfl) (by decide) (by decide) (by decide) (Nat.le_of_ble_eq_true rfl) (Nat.le_of_ble_eq_true rfl) dX0_init_7 (fun q0 H hP hD hS => ?_)
  have hP : va_P D vwCl [(h0, .inr (0, [.null, .null, .int 0])), (q0, .inl (aC 100, 30, .inl (fun _ => 0)))] H := hP
  have hD : va_D A [(h0, .inr (0, [.null, .null, .int 0])), (q0, .inl (aC 100, 30, .inl (fun _ => 0)))] := hD
  refine va_putF (D := D) (ci := 0) (v := .ref q0) (ty := tyX0 0) (C := RX0) (T := TX0) (N := 3) hx hb hts (fun w hw => (inT.good (y := nX0) (twX0 w hw)).1) tyX0 tyX0_ok nmX0 hown hK hP hD hS 0 rfl rfl 0 (by decide) (hT tf_X0_11) (fun _ h => h) rfl hin rfl (tyX0_ok 0 (by decide)) rfl rfl (Nat.le_of_ble_eq_true rfl) dX0_init_9 (fun H locs hP hD hS => ?_)
  have hP : va_P D vwCl [(h0, .inr (0, [.ref q0, .null, .int 0])), (q0, .inl (aC 100, 30, .inl (fun _ => 0)))] H := hP
  have hD : va_D A [(h0, .inr (0, [.ref q0, .null, .int 0])), (q0, .inl (aC 100, 30, .inl (fun _ => 0)))] := hD
  refine lv_aload_n hx hb dX0_init_12 rfl (lv_at hl 0 rfl) ?_
  refine lv_bipush (v := nI 9) hx hb dX0_init_13 (by decide) ?_
  refine va_newX (a0 := (9, .inl (fun _ => 0))) (ty := .int) (atype := .int) hx hb 100 0 (hT tA_int) rfl hK rfl (fun _ => rfl) hP hD hS hA (fun _ => rfl) (by decide) (by decide) (by decide) (Nat.le_of_ble_eq_true rfl) (Nat.le_of_ble_eq_true rfl) dX0_init_15 (fun q1 H hP hD hS => ?_)
  have hP : va_P D vwCl [(h0, .inr (0, [.ref q0, .null, .int 0])), (q0, .inl (aC 100, 30, .inl (fun _ => 0))), (q1, .inl (aC 100, 9, .inl (fun _ => 0)))] H := hP
  have hD : va_D A [(h0, .inr (0, [.ref q0, .null, .int 0])), (q0, .inl (aC 100, 30, .inl (fun _ => 0))), (q1, .inl (aC 100, 9, .inl (fun _ => 0)))] := hD
  refine va_putF (D := D) (ci := 0) (v := .ref q1) (ty := tyX0 1) (C := RX0) (T := TX0) (N := 3) hx hb hts (fun w hw => (inT.good (y := nX0) (twX0 w hw)).1) tyX0 tyX0_ok nmX0 hown hK hP hD hS 0 rfl rfl 1 (by decide) (hT tf_X0_15) (fun _ h => h) rfl hin rfl (tyX0_ok 1 (by decide)) rfl rfl (Nat.le_of_ble_eq_true rfl) dX0_init_17 (fun H locs hP hD hS => ?_)
  have hP : va_P D vwCl [(h0, .inr (0, [.ref q0, .ref q1, .int 0])), (q0, .inl (aC 100, 30, .inl (fun _ => 0))), (q1, .inl (aC 100, 9, .inl (fun _ => 0)))] H := hP
  have hD : va_D A [(h0, .inr (0, [.ref q0, .ref q1, .int 0])), (q0, .inl (aC 100, 30, .inl (fun _ => 0))), (q1, .inl (aC 100, 9, .inl (fun _ => 0)))] := hD
  refine lv_aload_n hx hb dX0_init_20 rfl (lv_at hl 0 rfl) ?_
  refine lv_iconst (v := 0) hx hb dX0_init_21 (by decide) ?_
  refine va_put (D := D) (ci := 0) (v := .int 0) (ty := tyX0 2) (C := RX0) (T := TX0) (N := 3) hx hb hts (fun w hw => (inT.good (y := nX0) (twX0 w hw)).1) tyX0 tyX0_ok nmX0 hown hK hP hD hS 0 rfl rfl 2 (by decide) (hT tf_X0_18) (fun _ h => h) rfl (tyX0_ok 2 (by decide)) rfl rfl (Nat.le_of_ble_eq_true rfl) dX0_init_22 (fun H locs hP hD hS => ?_)
  have hP : va_P D vwCl [(h0, .inr (0, [.ref q0, .ref q1, .int 0])), (q0, .inl (aC 100, 30, .inl (fun _ => 0))), (q1, .inl (aC 100, 9, .inl (fun _ => 0)))] H := hP
  have hD : va_D A [(h0, .inr (0, [.ref q0, .ref q1, .int 0])), (q0, .inl (aC 100, 30, .inl (fun _ => 0))), (q1, .inl (aC 100, 9, .inl (fun _ => 0)))] := hD
  refine W.widen (k := 2) (n := 39) (Nat.le_of_ble_eq_true rfl) (Nat.le_of_ble_eq_true rfl) ?_
  exact W.vret hx hb hr (fun t ht hW => ⟨⟨fun j => ([q0, q1] : List Nat).getD j 0, rfl, trivial, by rw [ht]; exact hP, va_K.moved hW.alike hK, hD⟩, hS.F ht⟩) hS.2.2 dX0_init_25
def iX8 (h0 : Nat) : va_W := [(h0, .inr (8, [.null, .int 0]))]
def oX8 (aC : Nat → ClassId) (h0 : Nat) (q : Nat → Nat) : va_W := [(h0, .inr (8, [.ref (q 0), .int 0])), (q 0, .inl (aC 101, 600, .inl (fun _ => 0)))]
theorem ct_X8_bl {D : va_G} {aC : Nat → ClassId} {h0 sz : Nat} : FrameBlind (va_Pc [.ref h0] (fun U => U.heap.size = sz ∧ va_P D vwCl (iX8 h0) U.heap ∧ va_K D vwCl (atys aC) U ∧ va_D (fun _ => True) (iX8 h0))) := by
  intro a U g mk q
  obtain ⟨q0, q1, qP, qK, qD⟩ := q
  exact ⟨q0, q1, qP, va_K.moved (u := U) (U := U.calling g mk a) (Vm.Alike.refl U.vm) qK, qD⟩
set_option maxHeartbeats 40000000 in
set_option maxRecDepth 100000 in
theorem ct_X8 (l : Launch) (D : va_G) (aC : Nat → ClassId) (h0 sz : Nat) : Met l yX8_init (wl nX8) (rmK 1 1 600) (va_Pc [.ref h0] (fun U => U.heap.size = sz ∧ va_P D vwCl (iX8 h0) U.heap ∧ va_K D vwCl (atys aC) U ∧ va_D (fun _ => True) (iX8 h0))) (va_Qv (fun _ : Nat → Nat => True) (fun q t => va_P D vwCl (oX8 aC h0 q) t.heap ∧ va_K D vwCl (atys aC) t ∧ va_D (va_A (iX8 h0) sz) (oX8 aC h0 q)) (va_A (iX8 h0) sz)) 1 600 (va_A (iX8 h0) sz) := by
  refine Met.ofW (cc := cX8_init) (maxL := 1) (ret := none) (by decide) rfl ?_
  intro p e s m args below meth c s₁ B hml hv
  obtain ⟨rfl, hsz, hP, hK, hD0⟩ := hv
  have hx := B.exec
  have hb := B.bytes
  have hr := B.returns
  have hts := atoms_spec (ws := wl nX8) B.pre
  have hT : ∀ {w : Cond}, inT w → w.before [.ref h0].toArray s = true := fun h => hts _ (inT.good (y := nX8) h).1
  have hown : s.vm.findClass RX8 = some m.cls := findClass_of_methodNamed B.named
  have hlocks := B.notSynchronized
  have hin : meth.name = "<init>" := (name_of_methodNamed B.named B.method).1
  subst hsz
  have hD := hD0.self (sz := s.heap.size)
  have hA : ∀ q : Nat, s.heap.size ≤ q → va_A (iX8 h0) s.heap.size q := fun q h => Or.inr h
  generalize va_A (iX8 h0) s.heap.size = A at hD hA ⊢
  have hS : va_S A s.heap s.heap [] := va_S.rf
  have hl := lv_entry [.ref h0] (n := 1) (Nat.le_of_ble_eq_true rfl)
  rw [lg_entry_eq]
  generalize (lg_sl [.ref h0] ++ List.replicate (1 - (lg_sl [.ref h0]).length) Slot.unset).toArray = ls at hl ⊢
  have hl : lv_has ls 1 [(0, .ref h0)] := hl
  have hP : va_P D vwCl [(h0, .inr (8, [.null, .int 0]))] s.heap := hP
  have hD : va_D A [(h0, .inr (8, [.null, .int 0]))] := hD
  refine lv_aload_n hx hb dX8_init_0 rfl (lv_at hl 0 rfl) ?_
  refine W.objInit hx hb hown (hT tOL_X8) (hT tOI) (hT tOC) rfl (by rw [hml]; exact hl.1) rfl dX8_init_1 (Nat.le_of_ble_eq_true rfl) (Nat.le_of_ble_eq_true rfl) ?_
  refine W.eq (g2 := F0 m 4 ls []) rfl ?_
  refine lv_aload_n hx hb dX8_init_4 rfl (lv_at hl 0 rfl) ?_
  refine lv_sipush (v := nI 600) hx hb dX8_init_5 (by decide) ?_
  refine va_newX (a0 := (600, .inl (fun _ => 0))) (ty := .byte) (atype := .byte) hx hb 101 1 (hT tA_byte) rfl hK rfl (fun _ => rfl) hP hD hS hA (fun _ => rfl) (by decide) (by decide) (by decide) (Nat.le_of_ble_eq_true rfl) (Nat.le_of_ble_eq_true rfl) dX8_init_8 (fun q0 H hP hD hS => ?_)
  have hP : va_P D vwCl [(h0, .inr (8, [.null, .int 0])), (q0, .inl (aC 101, 600, .inl (fun _ => 0)))] H := hP
  have hD : va_D A [(h0, .inr (8, [.null, .int 0])), (q0, .inl (aC 101, 600, .inl (fun _ => 0)))] := hD
  refine va_putF (D := D) (ci := 8) (v := .ref q0) (ty := tyX8 0) (C := RX8) (T := TX8) (N := 2) hx hb hts (fun w hw => (inT.good (y := nX8) (twX8 w hw)).1) tyX8 tyX8_ok nmX8 hown hK hP hD hS 0 rfl rfl 0 (by decide) (hT tf_X8_9) (fun _ h => h) rfl hin rfl (tyX8_ok 0 (by decide)) rfl rfl (Nat.le_of_ble_eq_true rfl) dX8_init_10 (fun H locs hP hD hS => ?_)
  have hP : va_P D vwCl [(h0, .inr (8, [.ref q0, .int 0])), (q0, .inl (aC 101, 600, .inl (fun _ => 0)))] H := hP
  have hD : va_D A [(h0, .inr (8, [.ref q0, .int 0])), (q0, .inl (aC 101, 600, .inl (fun _ => 0)))] := hD
  refine lv_aload_n hx hb dX8_init_13 rfl (lv_at hl 0 rfl) ?_
  refine lv_iconst (v := 0) hx hb dX8_init_14 (by decide) ?_
  refine va_put (D := D) (ci := 8) (v := .int 0) (ty := tyX8 1) (C := RX8) (T := TX8) (N := 2) hx hb hts (fun w hw => (inT.good (y := nX8) (twX8 w hw)).1) tyX8 tyX8_ok nmX8 hown hK hP hD hS 0 rfl rfl 1 (by decide) (hT tf_X8_13) (fun _ h => h) rfl (tyX8_ok 1 (by decide)) rfl rfl (Nat.le_of_ble_eq_true rfl) dX8_init_15 (fun H locs hP hD hS => ?_)
  have hP : va_P D vwCl [(h0, .inr (8, [.ref q0, .int 0])), (q0, .inl (aC 101, 600, .inl (fun _ => 0)))] H := hP
  have hD : va_D A [(h0, .inr (8, [.ref q0, .int 0])), (q0, .inl (aC 101, 600, .inl (fun _ => 0)))] := hD
  refine W.widen (k := 1) (n := 600) (Nat.le_of_ble_eq_true rfl) (Nat.le_of_ble_eq_true rfl) ?_
  exact W.vret hx hb hr (fun t ht hW => ⟨⟨fun j => ([q0] : List Nat).getD j 0, rfl, trivial, by rw [ht]; exact hP, va_K.moved hW.alike hK, hD⟩, hS.F ht⟩) hS.2.2 dX8_init_18
def iX9 (h0 : Nat) : va_W := [(h0, .inr (9, [.null, .null, .null, .int 0]))]
def oX9 (aC : Nat → ClassId) (h0 : Nat) (q : Nat → Nat) : va_W := [(h0, .inr (9, [.ref (q 0), .ref (q 1), .ref (q 2), .int 0])), (q 0, .inl (aC 101, 601, .inl (fun _ => 0))), (q 1, .inl (aC 103, 601, .inl (fun _ => 0))), (q 2, .inl (aC 100, 601, .inl (fun _ => 0)))]
theorem ct_X9_bl {D : va_G} {aC : Nat → ClassId} {h0 sz : Nat} : FrameBlind (va_Pc [.ref h0] (fun U => U.heap.size = sz ∧ va_P D vwCl (iX9 h0) U.heap ∧ va_K D vwCl (atys aC) U ∧ va_D (fun _ => True) (iX9 h0))) := by
  intro a U g mk q
  obtain ⟨q0, q1, qP, qK, qD⟩ := q
  exact ⟨q0, q1, qP, va_K.moved (u := U) (U := U.calling g mk a) (Vm.Alike.refl U.vm) qK, qD⟩
set_option maxHeartbeats 40000000 in
set_option maxRecDepth 100000 in
theorem ct_X9 (l : Launch) (D : va_G) (aC : Nat → ClassId) (h0 sz : Nat) : Met l yX9_init (wl nX9) (rmK 1 3 1803) (va_Pc [.ref h0] (fun U => U.heap.size = sz ∧ va_P D vwCl (iX9 h0) U.heap ∧ va_K D vwCl (atys aC) U ∧ va_D (fun _ => True) (iX9 h0))) (va_Qv (fun _ : Nat → Nat => True) (fun q t => va_P D vwCl (oX9 aC h0 q) t.heap ∧ va_K D vwCl (atys aC) t ∧ va_D (va_A (iX9 h0) sz) (oX9 aC h0 q)) (va_A (iX9 h0) sz)) 3 1803 (va_A (iX9 h0) sz) := by
  refine Met.ofW (cc := cX9_init) (maxL := 1) (ret := none) (by decide) rfl ?_
  intro p e s m args below meth c s₁ B hml hv
  obtain ⟨rfl, hsz, hP, hK, hD0⟩ := hv
  have hx := B.exec
  have hb := B.bytes
  have hr := B.returns
  have hts := atoms_spec (ws := wl nX9) B.pre
  have hT : ∀ {w : Cond}, inT w → w.before [.ref h0].toArray s = true := fun h => hts _ (inT.good (y := nX9) h).1
  have hown : s.vm.findClass RX9 = some m.cls := findClass_of_methodNamed B.named
  have hlocks := B.notSynchronized
  have hin : meth.name = "<init>" := (name_of_methodNamed B.named B.method).1
  subst hsz
  have hD := hD0.self (sz := s.heap.size)
  have hA : ∀ q : Nat, s.heap.size ≤ q → va_A (iX9 h0) s.heap.size q := fun q h => Or.inr h
  generalize va_A (iX9 h0) s.heap.size = A at hD hA ⊢
  have hS : va_S A s.heap s.heap [] := va_S.rf
  have hl := lv_entry [.ref h0] (n := 1) (Nat.le_of_ble_eq_true rfl)
  rw [lg_entry_eq]
  generalize (lg_sl [.ref h0] ++ List.replicate (1 - (lg_sl [.ref h0]).length) Slot.unset).toArray = ls at hl ⊢
  have hl : lv_has ls 1 [(0, .ref h0)] := hl
  have hP : va_P D vwCl [(h0, .inr (9, [.null, .null, .null, .int 0]))] s.heap := hP
  have hD : va_D A [(h0, .inr (9, [.null, .null, .null, .int 0]))] := hD
  refine lv_aload_n hx hb dX9_init_0 rfl (lv_at hl 0 rfl) ?_
  refine W.objInit hx hb hown (hT tOL_X9) (hT tOI) (hT tOC) rfl (by rw [hml]; exact hl.1) rfl dX9_init_1 (Nat.le_of_ble_eq_true rfl) (Nat.le_of_ble_eq_true rfl) ?_
  refine W.eq (g2 := F0 m 4 ls []) rfl ?_
  refine lv_aload_n hx hb dX9_init_4 rfl (lv_at hl 0 rfl) ?_
  refine lv_sipush (v := nI 601) hx hb dX9_init_5 (by decide) ?_
  refine va_newX (a0 := (601, .inl (fun _ => 0))) (ty := .byte) (atype := .byte) hx hb 101 1 (hT tA_byte) rfl hK rfl (fun _ => rfl) hP hD hS hA (fun _ => rfl) (by decide) (by decide) (by decide) (Nat.le_of_ble_eq_true rfl) (Nat.le_of_ble_eq_true rfl) dX9_init_8 (fun q0 H hP hD hS => ?_)
  have hP : va_P D vwCl [(h0, .inr (9, [.null, .null, .null, .int 0])), (q0, .inl (aC 101, 601, .inl (fun _ => 0)))] H := hP
  have hD : va_D A [(h0, .inr (9, [.null, .null, .null, .int 0])), (q0, .inl (aC 101, 601, .inl (fun _ => 0)))] := hD
  refine va_putF (D := D) (ci := 9) (v := .ref q0) (ty := tyX9 0) (C := RX9) (T := TX9) (N := 4) hx hb hts (fun w hw => (inT.good (y := nX9) (twX9 w hw)).1) tyX9 tyX9_ok nmX9 hown hK hP hD hS 0 rfl rfl 0 (by decide) (hT tf_X9_11) (fun _ h => h) rfl hin rfl (tyX9_ok 0 (by decide)) rfl rfl (Nat.le_of_ble_eq_true rfl) dX9_init_10 (fun H locs hP hD hS => ?_)
  have hP : va_P D vwCl [(h0, .inr (9, [.ref q0, .null, .null, .int 0])), (q0, .inl (aC 101, 601, .inl (fun _ => 0)))] H := hP
  have hD : va_D A [(h0, .inr (9, [.ref q0, .null, .null, .int 0])), (q0, .inl (aC 101, 601, .inl (fun _ => 0)))] := hD
  refine lv_aload_n hx hb dX9_init_13 rfl (lv_at hl 0 rfl) ?_
  refine lv_sipush (v := nI 601) hx hb dX9_init_14 (by decide) ?_
  refine va_newX (a0 := (601, .inl (fun _ => 0))) (ty := .short) (atype := .short) hx hb 103 3 (hT tA_short) rfl hK rfl (fun _ => rfl) hP hD hS hA (fun _ => rfl) (by decide) (by decide) (by decide) (Nat.le_of_ble_eq_true rfl) (Nat.le_of_ble_eq_true rfl) dX9_init_17 (fun q1 H hP hD hS => ?_)
  have hP : va_P D vwCl [(h0, .inr (9, [.ref q0, .null, .null, .int 0])), (q0, .inl (aC 101, 601, .inl (fun _ => 0))), (q1, .inl (aC 103, 601, .inl (fun _ => 0)))] H := hP
  have hD : va_D A [(h0, .inr (9, [.ref q0, .null, .null, .int 0])), (q0, .inl (aC 101, 601, .inl (fun _ => 0))), (q1, .inl (aC 103, 601, .inl (fun _ => 0)))] := hD
  refine va_putF (D := D) (ci := 9) (v := .ref q1) (ty := tyX9 1) (C := RX9) (T := TX9) (N := 4) hx hb hts (fun w hw => (inT.good (y := nX9) (twX9 w hw)).1) tyX9 tyX9_ok nmX9 hown hK hP hD hS 0 rfl rfl 1 (by decide) (hT tf_X9_17) (fun _ h => h) rfl hin rfl (tyX9_ok 1 (by decide)) rfl rfl (Nat.le_of_ble_eq_true rfl) dX9_init_19 (fun H locs hP hD hS => ?_)
  have hP : va_P D vwCl [(h0, .inr (9, [.ref q0, .ref q1, .null, .int 0])), (q0, .inl (aC 101, 601, .inl (fun _ => 0))), (q1, .inl (aC 103, 601, .inl (fun _ => 0)))] H := hP
  have hD : va_D A [(h0, .inr (9, [.ref q0, .ref q1, .null, .int 0])), (q0, .inl (aC 101, 601, .inl (fun _ => 0))), (q1, .inl (aC 103, 601, .inl (fun _ => 0)))] := hD
  refine lv_aload_n hx hb dX9_init_22 rfl (lv_at hl 0 rfl) ?_
  refine lv_sipush (v := nI 601) hx hb dX9_init_23 (by decide) ?_
  refine va_newX (a0 := (601, .inl (fun _ => 0))) (ty := .int) (atype := .int) hx hb 100 0 (hT tA_int) rfl hK rfl (fun _ => rfl) hP hD hS hA (fun _ => rfl) (by decide) (by decide) (by decide) (Nat.le_of_ble_eq_true rfl) (Nat.le_of_ble_eq_true rfl) dX9_init_26 (fun q2 H hP hD hS => ?_)
  have hP : va_P D vwCl [(h0, .inr (9, [.ref q0, .ref q1, .null, .int 0])), (q0, .inl (aC 101, 601, .inl (fun _ => 0))), (q1, .inl (aC 103, 601, .inl (fun _ => 0))), (q2, .inl (aC 100, 601, .inl (fun _ => 0)))] H := hP
  have hD : va_D A [(h0, .inr (9, [.ref q0, .ref q1, .null, .int 0])), (q0, .inl (aC 101, 601, .inl (fun _ => 0))), (q1, .inl (aC 103, 601, .inl (fun _ => 0))), (q2, .inl (aC 100, 601, .inl (fun _ => 0)))] := hD
  refine va_putF (D := D) (ci := 9) (v := .ref q2) (ty := tyX9 2) (C := RX9) (T := TX9) (N := 4) hx hb hts (fun w hw => (inT.good (y := nX9) (twX9 w hw)).1) tyX9 tyX9_ok nmX9 hown hK hP hD hS 0 rfl rfl 2 (by decide) (hT tf_X9_21) (fun _ h => h) rfl hin rfl (tyX9_ok 2 (by decide)) rfl rfl (Nat.le_of_ble_eq_true rfl) dX9_init_28 (fun H locs hP hD hS => ?_)
  have hP : va_P D vwCl [(h0, .inr (9, [.ref q0, .ref q1, .ref q2, .int 0])), (q0, .inl (aC 101, 601, .inl (fun _ => 0))), (q1, .inl (aC 103, 601, .inl (fun _ => 0))), (q2, .inl (aC 100, 601, .inl (fun _ => 0)))] H := hP
  have hD : va_D A [(h0, .inr (9, [.ref q0, .ref q1, .ref q2, .int 0])), (q0, .inl (aC 101, 601, .inl (fun _ => 0))), (q1, .inl (aC 103, 601, .inl (fun _ => 0))), (q2, .inl (aC 100, 601, .inl (fun _ => 0)))] := hD
  refine lv_aload_n hx hb dX9_init_31 rfl (lv_at hl 0 rfl) ?_
  refine lv_iconst (v := 0) hx hb dX9_init_32 (by decide) ?_
  refine va_put (D := D) (ci := 9) (v := .int 0) (ty := tyX9 3) (C := RX9) (T := TX9) (N := 4) hx hb hts (fun w hw => (inT.good (y := nX9) (twX9 w hw)).1) tyX9 tyX9_ok nmX9 hown hK hP hD hS 0 rfl rfl 3 (by decide) (hT tf_X9_25) (fun _ h => h) rfl (tyX9_ok 3 (by decide)) rfl rfl (Nat.le_of_ble_eq_true rfl) dX9_init_33 (fun H locs hP hD hS => ?_)
  have hP : va_P D vwCl [(h0, .inr (9, [.ref q0, .ref q1, .ref q2, .int 0])), (q0, .inl (aC 101, 601, .inl (fun _ => 0))), (q1, .inl (aC 103, 601, .inl (fun _ => 0))), (q2, .inl (aC 100, 601, .inl (fun _ => 0)))] H := hP
  have hD : va_D A [(h0, .inr (9, [.ref q0, .ref q1, .ref q2, .int 0])), (q0, .inl (aC 101, 601, .inl (fun _ => 0))), (q1, .inl (aC 103, 601, .inl (fun _ => 0))), (q2, .inl (aC 100, 601, .inl (fun _ => 0)))] := hD
  refine W.widen (k := 3) (n := 1803) (Nat.le_of_ble_eq_true rfl) (Nat.le_of_ble_eq_true rfl) ?_
  exact W.vret hx hb hr (fun t ht hW => ⟨⟨fun j => ([q0, q1, q2] : List Nat).getD j 0, rfl, trivial, by rw [ht]; exact hP, va_K.moved hW.alike hK, hD⟩, hS.F ht⟩) hS.2.2 dX9_init_36
def iX2 (h0 : Nat) : va_W := [(h0, .inr (2, [.null, .null, .null, .null, .null, .int 0, .int 0]))]
def oX2 (aC : Nat → ClassId) (h0 : Nat) (q : Nat → Nat) : va_W := [(h0, .inr (2, [.ref (q 0), .ref (q 1), .ref (q 2), .ref (q 3), .ref (q 4), .int 0, .int 0])), (q 0, .inl (aC 100, 600, .inl (fun _ => 0))), (q 1, .inl (aC 100, 16, .inl (fun _ => 0))), (q 2, .inl (aC 100, 16, .inl (fun _ => 0))), (q 3, .inl (aC 100, 16, .inl (fun _ => 0))), (q 4, .inl (aC 100, 32, .inl (fun _ => 0)))]
theorem ct_X2_bl {D : va_G} {aC : Nat → ClassId} {h0 sz : Nat} : FrameBlind (va_Pc [.ref h0] (fun U => U.heap.size = sz ∧ va_P D vwCl (iX2 h0) U.heap ∧ va_K D vwCl (atys aC) U ∧ va_D (fun _ => True) (iX2 h0))) := by
  intro a U g mk q
  obtain ⟨q0, q1, qP, qK, qD⟩ := q
  exact ⟨q0, q1, qP, va_K.moved (u := U) (U := U.calling g mk a) (Vm.Alike.refl U.vm) qK, qD⟩
set_option maxHeartbeats 40000000 in
set_option maxRecDepth 100000 in
theorem ct_X2 (l : Launch) (D : va_G) (aC : Nat → ClassId) (h0 sz : Nat) : Met l yX2_init (wl nX2) (rmK 1 5 680) (va_Pc [.ref h0] (fun U => U.heap.size = sz ∧ va_P D vwCl (iX2 h0) U.heap ∧ va_K D vwCl (atys aC) U ∧ va_D (fun _ => True) (iX2 h0))) (va_Qv (fun _ : Nat → Nat => True) (fun q t => va_P D vwCl (oX2 aC h0 q) t.heap ∧ va_K D vwCl (atys aC) t ∧ va_D (va_A (iX2 h0) sz) (oX2 aC h0 q)) (va_A (iX2 h0) sz)) 5 680 (va_A (iX2 h0) sz) := by
  refine Met.ofW (cc := cX2_init) (maxL := 1) (ret := none) (by decide) rfl ?_
  intro p e s m args below meth c s₁ B hml hv
  obtain ⟨rfl, hsz, hP, hK, hD0⟩ := hv
  have hx := B.exec
  have hb := B.bytes
  have hr := B.returns
  have hts := atoms_spec (ws := wl nX2) B.pre
  have hT : ∀ {w : Cond}, inT w → w.before [.ref h0].toArray s = true := fun h => hts _ (inT.good (y := nX2) h).1
  have hown : s.vm.findClass RX2 = some m.cls := findClass_of_methodNamed B.named
  have hlocks := B.notSynchronized
  have hin : meth.name = "<init>" := (name_of_methodNamed B.named B.method).1
  subst hsz
  have hD := hD0.self (sz := s.heap.size)
  have hA : ∀ q : Nat, s.heap.size ≤ q → va_A (iX2 h0) s.heap.size q := fun q h => Or.inr h
  generalize va_A (iX2 h0) s.heap.size = A at hD hA ⊢
  have hS : va_S A s.heap s.heap [] := va_S.rf
  have hl := lv_entry [.ref h0] (n := 1) (Nat.le_of_ble_eq_true rfl)
  rw [lg_entry_eq]
  generalize (lg_sl [.ref h0] ++ List.replicate (1 - (lg_sl [.ref h0]).length) Slot.unset).toArray = ls at hl ⊢
  have hl : lv_has ls 1 [(0, .ref h0)] := hl
  have hP : va_P D vwCl [(h0, .inr (2, [.null, .null, .null, .null, .null, .int 0, .int 0]))] s.heap := hP
  have hD : va_D A [(h0, .inr (2, [.null, .null, .null, .null, .null, .int 0, .int 0]))] := hD
  refine lv_aload_n hx hb dX2_init_0 rfl (lv_at hl 0 rfl) ?_
  refine W.objInit hx hb hown (hT tOL_X2) (hT tOI) (hT tOC) rfl (by rw [hml]; exact hl.1) rfl dX2_init_1 (Nat.le_of_ble_eq_true rfl) (Nat.le_of_ble_eq_true rfl) ?_
  refine W.eq (g2 := F0 m 4 ls []) rfl ?_
  refine lv_aload_n hx hb dX2_init_4 rfl (lv_at hl 0 rfl) ?_
  refine lv_sipush (v := nI 600) hx hb dX2_init_5 (by decide) ?_
  refine va_newX (a0 := (600, .inl (fun _ => 0))) (ty := .int) (atype := .int) hx hb 100 0 (hT tA_int) rfl hK rfl (fun _ => rfl) hP hD hS hA (fun _ => rfl) (by decide) (by decide) (by decide) (Nat.le_of_ble_eq_true rfl) (Nat.le_of_ble_eq_true rfl) dX2_init_8 (fun q0 H hP hD hS => ?_)
  have hP : va_P D vwCl [(h0, .inr (2, [.null, .null, .null, .null, .null, .int 0, .int 0])), (q0, .inl (aC 100, 600, .inl (fun _ => 0)))] H := hP
  have hD : va_D A [(h0, .inr (2, [.null, .null, .null, .null, .null, .int 0, .int 0])), (q0, .inl (aC 100, 600, .inl (fun _ => 0)))] := hD
  refine va_putF (D := D) (ci := 2) (v := .ref q0) (ty := tyX2 0) (C := RX2) (T := TX2) (N := 7) hx hb hts (fun w hw => (inT.good (y := nX2) (twX2 w hw)).1) tyX2 tyX2_ok nmX2 hown hK hP hD hS 0 rfl rfl 0 (by decide) (hT tf_X2_11) (fun _ h => h) rfl hin rfl (tyX2_ok 0 (by decide)) rfl rfl (Nat.le_of_ble_eq_true rfl) dX2_init_10 (fun H locs hP hD hS => ?_)
  have hP : va_P D vwCl [(h0, .inr (2, [.ref q0, .null, .null, .null, .null, .int 0, .int 0])), (q0, .inl (aC 100, 600, .inl (fun _ => 0)))] H := hP
  have hD : va_D A [(h0, .inr (2, [.ref q0, .null, .null, .null, .null, .int 0, .int 0])), (q0, .inl (aC 100, 600, .inl (fun _ => 0)))] := hD
  refine lv_aload_n hx hb dX2_init_13 rfl (lv_at hl 0 rfl) ?_
  refine lv_bipush (v := nI 16) hx hb dX2_init_14 (by decide) ?_
  refine va_newX (a0 := (16, .inl (fun _ => 0))) (ty := .int) (atype := .int) hx hb 100 0 (hT tA_int) rfl hK rfl (fun _ => rfl) hP hD hS hA (fun _ => rfl) (by decide) (by decide) (by decide) (Nat.le_of_ble_eq_true rfl) (Nat.le_of_ble_eq_true rfl) dX2_init_16 (fun q1 H hP hD hS => ?_)
  have hP : va_P D vwCl [(h0, .inr (2, [.ref q0, .null, .null, .null, .null, .int 0, .int 0])), (q0, .inl (aC 100, 600, .inl (fun _ => 0))), (q1, .inl (aC 100, 16, .inl (fun _ => 0)))] H := hP
  have hD : va_D A [(h0, .inr (2, [.ref q0, .null, .null, .null, .null, .int 0, .int 0])), (q0, .inl (aC 100, 600, .inl (fun _ => 0))), (q1, .inl (aC 100, 16, .inl (fun _ => 0)))] := hD
  refine va_putF (D := D) (ci := 2) (v := .ref q1) (ty := tyX2 1) (C := RX2) (T := TX2) (N := 7) hx hb hts (fun w hw => (inT.good (y := nX2) (twX2 w hw)).1) tyX2 tyX2_ok nmX2 hown hK hP hD hS 0 rfl rfl 1 (by decide) (hT tf_X2_17) (fun _ h => h) rfl hin rfl (tyX2_ok 1 (by decide)) rfl rfl (Nat.le_of_ble_eq_true rfl) dX2_init_18 (fun H locs hP hD hS => ?_)
  have hP : va_P D vwCl [(h0, .inr (2, [.ref q0, .ref q1, .null, .null, .null, .int 0, .int 0])), (q0, .inl (aC 100, 600, .inl (fun _ => 0))), (q1, .inl (aC 100, 16, .inl (fun _ => 0)))] H := hP
  have hD : va_D A [(h0, .inr (2, [.ref q0, .ref q1, .null, .null, .null, .int 0, .int 0])), (q0, .inl (aC 100, 600, .inl (fun _ => 0))), (q1, .inl (aC 100, 16, .inl (fun _ => 0)))] := hD
  refine lv_aload_n hx hb dX2_init_21 rfl (lv_at hl 0 rfl) ?_
  refine lv_bipush (v := nI 16) hx hb dX2_init_22 (by decide) ?_
  refine va_newX (a0 := (16, .inl (fun _ => 0))) (ty := .int) (atype := .int) hx hb 100 0 (hT tA_int) rfl hK rfl (fun _ => rfl) hP hD hS hA (fun _ => rfl) (by decide) (by decide) (by decide) (Nat.le_of_ble_eq_true rfl) (Nat.le_of_ble_eq_true rfl) dX2_init_24 (fun q2 H hP hD hS => ?_)
  have hP : va_P D vwCl [(h0, .inr (2, [.ref q0, .ref q1, .null, .null, .null, .int 0, .int 0])), (q0, .inl (aC 100, 600, .inl (fun _ => 0))), (q1, .inl (aC 100, 16, .inl (fun _ => 0))), (q2, .inl (aC 100, 16, .inl (fun _ => 0)))] H := hP
  have hD : va_D A [(h0, .inr (2, [.ref q0, .ref q1, .null, .null, .null, .int 0, .int 0])), (q0, .inl (aC 100, 600, .inl (fun _ => 0))), (q1, .inl (aC 100, 16, .inl (fun _ => 0))), (q2, .inl (aC 100, 16, .inl (fun _ => 0)))] := hD
  refine va_putF (D := D) (ci := 2) (v := .ref q2) (ty := tyX2 2) (C := RX2) (T := TX2) (N := 7) hx hb hts (fun w hw => (inT.good (y := nX2) (twX2 w hw)).1) tyX2 tyX2_ok nmX2 hown hK hP hD hS 0 rfl rfl 2 (by decide) (hT tf_X2_20) (fun _ h => h) rfl hin rfl (tyX2_ok 2 (by decide)) rfl rfl (Nat.le_of_ble_eq_true rfl) dX2_init_26 (fun H locs hP hD hS => ?_)
  have hP : va_P D vwCl [(h0, .inr (2, [.ref q0, .ref q1, .ref q2, .null, .null, .int 0, .int 0])), (q0, .inl (aC 100, 600, .inl (fun _ => 0))), (q1, .inl (aC 100, 16, .inl (fun _ => 0))), (q2, .inl (aC 100, 16, .inl (fun _ => 0)))] H := hP
  have hD : va_D A [(h0, .inr (2, [.ref q0, .ref q1, .ref q2, .null, .null, .int 0, .int 0])), (q0, .inl (aC 100, 600, .inl (fun _ => 0))), (q1, .inl (aC 100, 16, .inl (fun _ => 0))), (q2, .inl (aC 100, 16, .inl (fun _ => 0)))] := hD
  refine lv_aload_n hx hb dX2_init_29 rfl (lv_at hl 0 rfl) ?_
  refine lv_bipush (v := nI 16) hx hb dX2_init_30 (by decide) ?_
  refine va_newX (a0 := (16, .inl (fun _ => 0))) (ty := .int) (atype := .int) hx hb 100 0 (hT tA_int) rfl hK rfl (fun _ => rfl) hP hD hS hA (fun _ => rfl) (by decide) (by decide) (by decide) (Nat.le_of_ble_eq_true rfl) (Nat.le_of_ble_eq_true rfl) dX2_init_32 (fun q3 H hP hD hS => ?_)
  have hP : va_P D vwCl [(h0, .inr (2, [.ref q0, .ref q1, .ref q2, .null, .null, .int 0, .int 0])), (q0, .inl (aC 100, 600, .inl (fun _ => 0))), (q1, .inl (aC 100, 16, .inl (fun _ => 0))), (q2, .inl (aC 100, 16, .inl (fun _ => 0))), (q3, .inl (aC 100, 16, .inl (fun _ => 0)))] H := hP
  have hD : va_D A [(h0, .inr (2, [.ref q0, .ref q1, .ref q2, .null, .null, .int 0, .int 0])), (q0, .inl (aC 100, 600, .inl (fun _ => 0))), (q1, .inl (aC 100, 16, .inl (fun _ => 0))), (q2, .inl (aC 100, 16, .inl (fun _ => 0))), (q3, .inl (aC 100, 16, .inl (fun _ => 0)))] := hD
  refine va_putF (D := D) (ci := 2) (v := .ref q3) (ty := tyX2 3) (C := RX2) (T := TX2) (N := 7) hx hb hts (fun w hw => (inT.good (y := nX2) (twX2 w hw)).1) tyX2 tyX2_ok nmX2 hown hK hP hD hS 0 rfl rfl 3 (by decide) (hT tf_X2_23) (fun _ h => h) rfl hin rfl (tyX2_ok 3 (by decide)) rfl rfl (Nat.le_of_ble_eq_true rfl) dX2_init_34 (fun H locs hP hD hS => ?_)
  have hP : va_P D vwCl [(h0, .inr (2, [.ref q0, .ref q1, .ref q2, .ref q3, .null, .int 0, .int 0])), (q0, .inl (aC 100, 600, .inl (fun _ => 0))), (q1, .inl (aC 100, 16, .inl (fun _ => 0))), (q2, .inl (aC 100, 16, .inl (fun _ => 0))), (q3, .inl (aC 100, 16, .inl (fun _ => 0)))] H := hP
  have hD : va_D A [(h0, .inr (2, [.ref q0, .ref q1, .ref q2, .ref q3, .null, .int 0, .int 0])), (q0, .inl (aC 100, 600, .inl (fun _ => 0))), (q1, .inl (aC 100, 16, .inl (fun _ => 0))), (q2, .inl (aC 100, 16, .inl (fun _ => 0))), (q3, .inl (aC 100, 16, .inl (fun _ => 0)))] := hD
  refine lv_aload_n hx hb dX2_init_37 rfl (lv_at hl 0 rfl) ?_
  refine lv_bipush (v := nI 32) hx hb dX2_init_38 (by decide) ?_
  refine va_newX (a0 := (32, .inl (fun _ => 0))) (ty := .int) (atype := .int) hx hb 100 0 (hT tA_int) rfl hK rfl (fun _ => rfl) hP hD hS hA (fun _ => rfl) (by decide) (by decide) (by decide) (Nat.le_of_ble_eq_true rfl) (Nat.le_of_ble_eq_true rfl) dX2_init_40 (fun q4 H hP hD hS => ?_)
  have hP : va_P D vwCl [(h0, .inr (2, [.ref q0, .ref q1, .ref q2, .ref q3, .null, .int 0, .int 0])), (q0, .inl (aC 100, 600, .inl (fun _ => 0))), (q1, .inl (aC 100, 16, .inl (fun _ => 0))), (q2, .inl (aC 100, 16, .inl (fun _ => 0))), (q3, .inl (aC 100, 16, .inl (fun _ => 0))), (q4, .inl (aC 100, 32, .inl (fun _ => 0)))] H := hP
  have hD : va_D A [(h0, .inr (2, [.ref q0, .ref q1, .ref q2, .ref q3, .null, .int 0, .int 0])), (q0, .inl (aC 100, 600, .inl (fun _ => 0))), (q1, .inl (aC 100, 16, .inl (fun _ => 0))), (q2, .inl (aC 100, 16, .inl (fun _ => 0))), (q3, .inl (aC 100, 16, .inl (fun _ => 0))), (q4, .inl (aC 100, 32, .inl (fun _ => 0)))] := hD
  refine va_putF (D := D) (ci := 2) (v := .ref q4) (ty := tyX2 4) (C := RX2) (T := TX2) (N := 7) hx hb hts (fun w hw => (inT.good (y := nX2) (twX2 w hw)).1) tyX2 tyX2_ok nmX2 hown hK hP hD hS 0 rfl rfl 4 (by decide) (hT tf_X2_26) (fun _ h => h) rfl hin rfl (tyX2_ok 4 (by decide)) rfl rfl (Nat.le_of_ble_eq_true rfl) dX2_init_42 (fun H locs hP hD hS => ?_)
  have hP : va_P D vwCl [(h0, .inr (2, [.ref q0, .ref q1, .ref q2, .ref q3, .ref q4, .int 0, .int 0])), (q0, .inl (aC 100, 600, .inl (fun _ => 0))), (q1, .inl (aC 100, 16, .inl (fun _ => 0))), (q2, .inl (aC 100, 16, .inl (fun _ => 0))), (q3, .inl (aC 100, 16, .inl (fun _ => 0))), (q4, .inl (aC 100, 32, .inl (fun _ => 0)))] H := hP
  have hD : va_D A [(h0, .inr (2, [.ref q0, .ref q1, .ref q2, .ref q3, .ref q4, .int 0, .int 0])), (q0, .inl (aC 100, 600, .inl (fun _ => 0))), (q1, .inl (aC 100, 16, .inl (fun _ => 0))), (q2, .inl (aC 100, 16, .inl (fun _ => 0))), (q3, .inl (aC 100, 16, .inl (fun _ => 0))), (q4, .inl (aC 100, 32, .inl (fun _ => 0)))] := hD
  refine lv_aload_n hx hb dX2_init_45 rfl (lv_at hl 0 rfl) ?_
  refine lv_iconst (v := 0) hx hb dX2_init_46 (by decide) ?_
  refine va_put (D := D) (ci := 2) (v := .int 0) (ty := tyX2 5) (C := RX2) (T := TX2) (N := 7) hx hb hts (fun w hw => (inT.good (y := nX2) (twX2 w hw)).1) tyX2 tyX2_ok nmX2 hown hK hP hD hS 0 rfl rfl 5 (by decide) (hT tf_X2_29) (fun _ h => h) rfl (tyX2_ok 5 (by decide)) rfl rfl (Nat.le_of_ble_eq_true rfl) dX2_init_47 (fun H locs hP hD hS => ?_)
  have hP : va_P D vwCl [(h0, .inr (2, [.ref q0, .ref q1, .ref q2, .ref q3, .ref q4, .int 0, .int 0])), (q0, .inl (aC 100, 600, .inl (fun _ => 0))), (q1, .inl (aC 100, 16, .inl (fun _ => 0))), (q2, .inl (aC 100, 16, .inl (fun _ => 0))), (q3, .inl (aC 100, 16, .inl (fun _ => 0))), (q4, .inl (aC 100, 32, .inl (fun _ => 0)))] H := hP
  have hD : va_D A [(h0, .inr (2, [.ref q0, .ref q1, .ref q2, .ref q3, .ref q4, .int 0, .int 0])), (q0, .inl (aC 100, 600, .inl (fun _ => 0))), (q1, .inl (aC 100, 16, .inl (fun _ => 0))), (q2, .inl (aC 100, 16, .inl (fun _ => 0))), (q3, .inl (aC 100, 16, .inl (fun _ => 0))), (q4, .inl (aC 100, 32, .inl (fun _ => 0)))] := hD
  refine lv_aload_n hx hb dX2_init_50 rfl (lv_at hl 0 rfl) ?_
  refine lv_iconst (v := 0) hx hb dX2_init_51 (by decide) ?_
  refine va_put (D := D) (ci := 2) (v := .int 0) (ty := tyX2 6) (C := RX2) (T := TX2) (N := 7) hx hb hts (fun w hw => (inT.good (y := nX2) (twX2 w hw)).1) tyX2 tyX2_ok nmX2 hown hK hP hD hS 0 rfl rfl 6 (by decide) (hT tf_X2_33) (fun _ h => h) rfl (tyX2_ok 6 (by decide)) rfl rfl (Nat.le_of_ble_eq_true rfl) dX2_init_52 (fun H locs hP hD hS => ?_)
  have hP : va_P D vwCl [(h0, .inr (2, [.ref q0, .ref q1, .ref q2, .ref q3, .ref q4, .int 0, .int 0])), (q0, .inl (aC 100, 600, .inl (fun _ => 0))), (q1, .inl (aC 100, 16, .inl (fun _ => 0))), (q2, .inl (aC 100, 16, .inl (fun _ => 0))), (q3, .inl (aC 100, 16, .inl (fun _ => 0))), (q4, .inl (aC 100, 32, .inl (fun _ => 0)))] H := hP
  have hD : va_D A [(h0, .inr (2, [.ref q0, .ref q1, .ref q2, .ref q3, .ref q4, .int 0, .int 0])), (q0, .inl (aC 100, 600, .inl (fun _ => 0))), (q1, .inl (aC 100, 16, .inl (fun _ => 0))), (q2, .inl (aC 100, 16, .inl (fun _ => 0))), (q3, .inl (aC 100, 16, .inl (fun _ => 0))), (q4, .inl (aC 100, 32, .inl (fun _ => 0)))] := hD
  refine W.widen (k := 5) (n := 680) (Nat.le_of_ble_eq_true rfl) (Nat.le_of_ble_eq_true rfl) ?_
  exact W.vret hx hb hr (fun t ht hW => ⟨⟨fun j => ([q0, q1, q2, q3, q4] : List Nat).getD j 0, rfl, trivial, by rw [ht]; exact hP, va_K.moved hW.alike hK, hD⟩, hS.F ht⟩) hS.2.2 dX2_init_55
def iX7 (h0 : Nat) : va_W := [(h0, .inr (7, [.null, .null, .null, .int 0, .int 0, .int 0]))]
def oX7 (aC : Nat → ClassId) (h0 : Nat) (q : Nat → Nat) : va_W := [(h0, .inr (7, [.ref (q 0), .ref (q 1), .ref (q 2), .int 0, .int 0, .int 1])), (q 0, .inl (aC 100, 64, .inl (fun _ => 0))), (q 1, .inl (aC 100, 8, .inl (fun _ => 0))), (q 2, .inl (aC 100, 256, .inl (fun _ => 0)))]
theorem ct_X7_bl {D : va_G} {aC : Nat → ClassId} {h0 sz : Nat} : FrameBlind (va_Pc [.ref h0] (fun U => U.heap.size = sz ∧ va_P D vwCl (iX7 h0) U.heap ∧ va_K D vwCl (atys aC) U ∧ va_D (fun _ => True) (iX7 h0))) := by
  intro a U g mk q
  obtain ⟨q0, q1, qP, qK, qD⟩ := q
  exact ⟨q0, q1, qP, va_K.moved (u := U) (U := U.calling g mk a) (Vm.Alike.refl U.vm) qK, qD⟩
set_option maxHeartbeats 40000000 in
set_option maxRecDepth 100000 in
theorem ct_X7 (l : Launch) (D : va_G) (aC : Nat → ClassId) (h0 sz : Nat) : Met l yX7_init (wl nX7) (rmK 1 3 328) (va_Pc [.ref h0] (fun U => U.heap.size = sz ∧ va_P D vwCl (iX7 h0) U.heap ∧ va_K D vwCl (atys aC) U ∧ va_D (fun _ => True) (iX7 h0))) (va_Qv (fun _ : Nat → Nat => True) (fun q t => va_P D vwCl (oX7 aC h0 q) t.heap ∧ va_K D vwCl (atys aC) t ∧ va_D (va_A (iX7 h0) sz) (oX7 aC h0 q)) (va_A (iX7 h0) sz)) 3 328 (va_A (iX7 h0) sz) := by
  refine Met.ofW (cc := cX7_init) (maxL := 1) (ret := none) (by decide) rfl ?_
  intro p e s m args below meth c s₁ B hml hv
  obtain ⟨rfl, hsz, hP, hK, hD0⟩ := hv
  have hx := B.exec
  have hb := B.bytes
  have hr := B.returns
  have hts := atoms_spec (ws := wl nX7) B.pre
  have hT : ∀ {w : Cond}, inT w → w.before [.ref h0].toArray s = true := fun h => hts _ (inT.good (y := nX7) h).1
  have hown : s.vm.findClass RX7 = some m.cls := findClass_of_methodNamed B.named
  have hlocks := B.notSynchronized
  have hin : meth.name = "<init>" := (name_of_methodNamed B.named B.method).1
  subst hsz
  have hD := hD0.self (sz := s.heap.size)
  have hA : ∀ q : Nat, s.heap.size ≤ q → va_A (iX7 h0) s.heap.size q := fun q h => Or.inr h
  generalize va_A (iX7 h0) s.heap.size = A at hD hA ⊢
  have hS : va_S A s.heap s.heap [] := va_S.rf
  have hl := lv_entry [.ref h0] (n := 1) (Nat.le_of_ble_eq_true rfl)
  rw [lg_entry_eq]
  generalize (lg_sl [.ref h0] ++ List.replicate (1 - (lg_sl [.ref h0]).length) Slot.unset).toArray = ls at hl ⊢
  have hl : lv_has ls 1 [(0, .ref h0)] := hl
  have hP : va_P D vwCl [(h0, .inr (7, [.null, .null, .null, .int 0, .int 0, .int 0]))] s.heap := hP
  have hD : va_D A [(h0, .inr (7, [.null, .null, .null, .int 0, .int 0, .int 0]))] := hD
  refine lv_aload_n hx hb dX7_init_0 rfl (lv_at hl 0 rfl) ?_
  refine W.objInit hx hb hown (hT tOL_X7) (hT tOI) (hT tOC) rfl (by rw [hml]; exact hl.1) rfl dX7_init_1 (Nat.le_of_ble_eq_true rfl) (Nat.le_of_ble_eq_true rfl) ?_
  refine W.eq (g2 := F0 m 4 ls []) rfl ?_
  refine lv_aload_n hx hb dX7_init_4 rfl (lv_at hl 0 rfl) ?_
  refine lv_bipush (v := nI 64) hx hb dX7_init_5 (by decide) ?_
  refine va_newX (a0 := (64, .inl (fun _ => 0))) (ty := .int) (atype := .int) hx hb 100 0 (hT tA_int) rfl hK rfl (fun _ => rfl) hP hD hS hA (fun _ => rfl) (by decide) (by decide) (by decide) (Nat.le_of_ble_eq_true rfl) (Nat.le_of_ble_eq_true rfl) dX7_init_7 (fun q0 H hP hD hS => ?_)
  have hP : va_P D vwCl [(h0, .inr (7, [.null, .null, .null, .int 0, .int 0, .int 0])), (q0, .inl (aC 100, 64, .inl (fun _ => 0)))] H := hP
  have hD : va_D A [(h0, .inr (7, [.null, .null, .null, .int 0, .int 0, .int 0])), (q0, .inl (aC 100, 64, .inl (fun _ => 0)))] := hD
  refine va_putF (D := D) (ci := 7) (v := .ref q0) (ty := tyX7 0) (C := RX7) (T := TX7) (N := 6) hx hb hts (fun w hw => (inT.good (y := nX7) (twX7 w hw)).1) tyX7 tyX7_ok nmX7 hown hK hP hD hS 0 rfl rfl 0 (by decide) (hT tf_X7_11) (fun _ h => h) rfl hin rfl (tyX7_ok 0 (by decide)) rfl rfl (Nat.le_of_ble_eq_true rfl) dX7_init_9 (fun H locs hP hD hS => ?_)
  have hP : va_P D vwCl [(h0, .inr (7, [.ref q0, .null, .null, .int 0, .int 0, .int 0])), (q0, .inl (aC 100, 64, .inl (fun _ => 0)))] H := hP
  have hD : va_D A [(h0, .inr (7, [.ref q0, .null, .null, .int 0, .int 0, .int 0])), (q0, .inl (aC 100, 64, .inl (fun _ => 0)))] := hD
  refine lv_aload_n hx hb dX7_init_12 rfl (lv_at hl 0 rfl) ?_
  refine lv_bipush (v := nI 8) hx hb dX7_init_13 (by decide) ?_
  refine va_newX (a0 := (8, .inl (fun _ => 0))) (ty := .int) (atype := .int) hx hb 100 0 (hT tA_int) rfl hK rfl (fun _ => rfl) hP hD hS hA (fun _ => rfl) (by decide) (by decide) (by decide) (Nat.le_of_ble_eq_true rfl) (Nat.le_of_ble_eq_true rfl) dX7_init_15 (fun q1 H hP hD hS => ?_)
  have hP : va_P D vwCl [(h0, .inr (7, [.ref q0, .null, .null, .int 0, .int 0, .int 0])), (q0, .inl (aC 100, 64, .inl (fun _ => 0))), (q1, .inl (aC 100, 8, .inl (fun _ => 0)))] H := hP
  have hD : va_D A [(h0, .inr (7, [.ref q0, .null, .null, .int 0, .int 0, .int 0])), (q0, .inl (aC 100, 64, .inl (fun _ => 0))), (q1, .inl (aC 100, 8, .inl (fun _ => 0)))] := hD
  refine va_putF (D := D) (ci := 7) (v := .ref q1) (ty := tyX7 1) (C := RX7) (T := TX7) (N := 6) hx hb hts (fun w hw => (inT.good (y := nX7) (twX7 w hw)).1) tyX7 tyX7_ok nmX7 hown hK hP hD hS 0 rfl rfl 1 (by decide) (hT tf_X7_17) (fun _ h => h) rfl hin rfl (tyX7_ok 1 (by decide)) rfl rfl (Nat.le_of_ble_eq_true rfl) dX7_init_17 (fun H locs hP hD hS => ?_)
  have hP : va_P D vwCl [(h0, .inr (7, [.ref q0, .ref q1, .null, .int 0, .int 0, .int 0])), (q0, .inl (aC 100, 64, .inl (fun _ => 0))), (q1, .inl (aC 100, 8, .inl (fun _ => 0)))] H := hP
  have hD : va_D A [(h0, .inr (7, [.ref q0, .ref q1, .null, .int 0, .int 0, .int 0])), (q0, .inl (aC 100, 64, .inl (fun _ => 0))), (q1, .inl (aC 100, 8, .inl (fun _ => 0)))] := hD
  refine lv_aload_n hx hb dX7_init_20 rfl (lv_at hl 0 rfl) ?_
  refine lv_sipush (v := nI 256) hx hb dX7_init_21 (by decide) ?_
  refine va_newX (a0 := (256, .inl (fun _ => 0))) (ty := .int) (atype := .int) hx hb 100 0 (hT tA_int) rfl hK rfl (fun _ => rfl) hP hD hS hA (fun _ => rfl) (by decide) (by decide) (by decide) (Nat.le_of_ble_eq_true rfl) (Nat.le_of_ble_eq_true rfl) dX7_init_24 (fun q2 H hP hD hS => ?_)
  have hP : va_P D vwCl [(h0, .inr (7, [.ref q0, .ref q1, .null, .int 0, .int 0, .int 0])), (q0, .inl (aC 100, 64, .inl (fun _ => 0))), (q1, .inl (aC 100, 8, .inl (fun _ => 0))), (q2, .inl (aC 100, 256, .inl (fun _ => 0)))] H := hP
  have hD : va_D A [(h0, .inr (7, [.ref q0, .ref q1, .null, .int 0, .int 0, .int 0])), (q0, .inl (aC 100, 64, .inl (fun _ => 0))), (q1, .inl (aC 100, 8, .inl (fun _ => 0))), (q2, .inl (aC 100, 256, .inl (fun _ => 0)))] := hD
  refine va_putF (D := D) (ci := 7) (v := .ref q2) (ty := tyX7 2) (C := RX7) (T := TX7) (N := 6) hx hb hts (fun w hw => (inT.good (y := nX7) (twX7 w hw)).1) tyX7 tyX7_ok nmX7 hown hK hP hD hS 0 rfl rfl 2 (by decide) (hT tf_X7_20) (fun _ h => h) rfl hin rfl (tyX7_ok 2 (by decide)) rfl rfl (Nat.le_of_ble_eq_true rfl) dX7_init_26 (fun H locs hP hD hS => ?_)
  have hP : va_P D vwCl [(h0, .inr (7, [.ref q0, .ref q1, .ref q2, .int 0, .int 0, .int 0])), (q0, .inl (aC 100, 64, .inl (fun _ => 0))), (q1, .inl (aC 100, 8, .inl (fun _ => 0))), (q2, .inl (aC 100, 256, .inl (fun _ => 0)))] H := hP
  have hD : va_D A [(h0, .inr (7, [.ref q0, .ref q1, .ref q2, .int 0, .int 0, .int 0])), (q0, .inl (aC 100, 64, .inl (fun _ => 0))), (q1, .inl (aC 100, 8, .inl (fun _ => 0))), (q2, .inl (aC 100, 256, .inl (fun _ => 0)))] := hD
  refine lv_aload_n hx hb dX7_init_29 rfl (lv_at hl 0 rfl) ?_
  refine lv_iconst (v := 0) hx hb dX7_init_30 (by decide) ?_
  refine va_put (D := D) (ci := 7) (v := .int 0) (ty := tyX7 3) (C := RX7) (T := TX7) (N := 6) hx hb hts (fun w hw => (inT.good (y := nX7) (twX7 w hw)).1) tyX7 tyX7_ok nmX7 hown hK hP hD hS 0 rfl rfl 3 (by decide) (hT tf_X7_23) (fun _ h => h) rfl (tyX7_ok 3 (by decide)) rfl rfl (Nat.le_of_ble_eq_true rfl) dX7_init_31 (fun H locs hP hD hS => ?_)
  have hP : va_P D vwCl [(h0, .inr (7, [.ref q0, .ref q1, .ref q2, .int 0, .int 0, .int 0])), (q0, .inl (aC 100, 64, .inl (fun _ => 0))), (q1, .inl (aC 100, 8, .inl (fun _ => 0))), (q2, .inl (aC 100, 256, .inl (fun _ => 0)))] H := hP
  have hD : va_D A [(h0, .inr (7, [.ref q0, .ref q1, .ref q2, .int 0, .int 0, .int 0])), (q0, .inl (aC 100, 64, .inl (fun _ => 0))), (q1, .inl (aC 100, 8, .inl (fun _ => 0))), (q2, .inl (aC 100, 256, .inl (fun _ => 0)))] := hD
  refine lv_aload_n hx hb dX7_init_34 rfl (lv_at hl 0 rfl) ?_
  refine lv_iconst (v := 0) hx hb dX7_init_35 (by decide) ?_
  refine va_put (D := D) (ci := 7) (v := .int 0) (ty := tyX7 4) (C := RX7) (T := TX7) (N := 6) hx hb hts (fun w hw => (inT.good (y := nX7) (twX7 w hw)).1) tyX7 tyX7_ok nmX7 hown hK hP hD hS 0 rfl rfl 4 (by decide) (hT tf_X7_27) (fun _ h => h) rfl (tyX7_ok 4 (by decide)) rfl rfl (Nat.le_of_ble_eq_true rfl) dX7_init_36 (fun H locs hP hD hS => ?_)
  have hP : va_P D vwCl [(h0, .inr (7, [.ref q0, .ref q1, .ref q2, .int 0, .int 0, .int 0])), (q0, .inl (aC 100, 64, .inl (fun _ => 0))), (q1, .inl (aC 100, 8, .inl (fun _ => 0))), (q2, .inl (aC 100, 256, .inl (fun _ => 0)))] H := hP
  have hD : va_D A [(h0, .inr (7, [.ref q0, .ref q1, .ref q2, .int 0, .int 0, .int 0])), (q0, .inl (aC 100, 64, .inl (fun _ => 0))), (q1, .inl (aC 100, 8, .inl (fun _ => 0))), (q2, .inl (aC 100, 256, .inl (fun _ => 0)))] := hD
  refine lv_aload_n hx hb dX7_init_39 rfl (lv_at hl 0 rfl) ?_
  refine lv_iconst (v := 1) hx hb dX7_init_40 (by decide) ?_
  refine va_put (D := D) (ci := 7) (v := .int 1) (ty := tyX7 5) (C := RX7) (T := TX7) (N := 6) hx hb hts (fun w hw => (inT.good (y := nX7) (twX7 w hw)).1) tyX7 tyX7_ok nmX7 hown hK hP hD hS 0 rfl rfl 5 (by decide) (hT tf_X7_30) (fun _ h => h) rfl (tyX7_ok 5 (by decide)) rfl rfl (Nat.le_of_ble_eq_true rfl) dX7_init_41 (fun H locs hP hD hS => ?_)
  have hP : va_P D vwCl [(h0, .inr (7, [.ref q0, .ref q1, .ref q2, .int 0, .int 0, .int 1])), (q0, .inl (aC 100, 64, .inl (fun _ => 0))), (q1, .inl (aC 100, 8, .inl (fun _ => 0))), (q2, .inl (aC 100, 256, .inl (fun _ => 0)))] H := hP
  have hD : va_D A [(h0, .inr (7, [.ref q0, .ref q1, .ref q2, .int 0, .int 0, .int 1])), (q0, .inl (aC 100, 64, .inl (fun _ => 0))), (q1, .inl (aC 100, 8, .inl (fun _ => 0))), (q2, .inl (aC 100, 256, .inl (fun _ => 0)))] := hD
  refine W.widen (k := 3) (n := 328) (Nat.le_of_ble_eq_true rfl) (Nat.le_of_ble_eq_true rfl) ?_
  exact W.vret hx hb hr (fun t ht hW => ⟨⟨fun j => ([q0, q1, q2] : List Nat).getD j 0, rfl, trivial, by rw [ht]; exact hP, va_K.moved hW.alike hK, hD⟩, hS.F ht⟩) hS.2.2 dX7_init_44
def iX4 (h0 : Nat) : va_W := [(h0, .inr (4, [.null, .null, .int 0, .int 0, .int 0, .int 0, .int 0, .int 0]))]
def oX4 (aC : Nat → ClassId) (h0 p1 : Nat) (q : Nat → Nat) : va_W := [(h0, .inr (4, [.ref p1, .ref (q 0), .int 0, .int (-1), .int 0, .int 20, .int 0, .int 0])), (q 0, .inr (2, [.ref (q 1), .ref (q 2), .ref (q 3), .ref (q 4), .ref (q 5), .int 0, .int 0])), (q 1, .inl (aC 100, 600, .inl (fun _ => 0))), (q 2, .inl (aC 100, 16, .inl (fun _ => 0))), (q 3, .inl (aC 100, 16, .inl (fun _ => 0))), (q 4, .inl (aC 100, 16, .inl (fun _ => 0))), (q 5, .inl (aC 100, 32, .inl (fun _ => 0)))]
theorem ct_X4_bl {D : va_G} {aC : Nat → ClassId} {h0 p1 sz : Nat} : FrameBlind (va_Pc [.ref h0, .ref p1] (fun U => U.heap.size = sz ∧ va_P D vwCl (iX4 h0) U.heap ∧ va_K D vwCl (atys aC) U ∧ va_D (fun _ => True) (iX4 h0) ∧ NST U)) := by
  intro a U g mk q
  obtain ⟨q0, q1, qP, qK, qD, qN⟩ := q
  exact ⟨q0, q1, qP, va_K.moved (u := U) (U := U.calling g mk a) (Vm.Alike.refl U.vm) qK, qD, NST.same (u := U) (U := U.calling g mk a) rfl qN⟩
set_option maxHeartbeats 40000000 in
set_option maxRecDepth 100000 in
theorem ct_X4 (l : Launch) (D : va_G) (aC : Nat → ClassId) (h0 p1 sz : Nat) : Met l yX4_init (wl nX4) (rmK 2 6 687) (va_Pc [.ref h0, .ref p1] (fun U => U.heap.size = sz ∧ va_P D vwCl (iX4 h0) U.heap ∧ va_K D vwCl (atys aC) U ∧ va_D (fun _ => True) (iX4 h0) ∧ NST U)) (va_Qv (fun _ : Nat → Nat => True) (fun q t => va_P D vwCl (oX4 aC h0 p1 q) t.heap ∧ va_K D vwCl (atys aC) t ∧ va_D (va_A (iX4 h0) sz) (oX4 aC h0 p1 q)) (va_A (iX4 h0) sz)) 6 687 (va_A (iX4 h0) sz) := by
  refine Met.ofW (cc := cX4_init) (maxL := 2) (ret := none) (by decide) rfl ?_
  intro p e s m args below meth c s₁ B hml hv
  obtain ⟨rfl, hsz, hP, hK, hD0, hN⟩ := hv
  have hx := B.exec
  have hb := B.bytes
  have hr := B.returns
  have hts := atoms_spec (ws := wl nX4) B.pre
  have hT : ∀ {w : Cond}, inT w → w.before [.ref h0, .ref p1].toArray s = true := fun h => hts _ (inT.good (y := nX4) h).1
  have hown : s.vm.findClass RX4 = some m.cls := findClass_of_methodNamed B.named
  have hlocks := B.notSynchronized
  have hin : meth.name = "<init>" := (name_of_methodNamed B.named B.method).1
  subst hsz
  have hD := hD0.self (sz := s.heap.size)
  have hA : ∀ q : Nat, s.heap.size ≤ q → va_A (iX4 h0) s.heap.size q := fun q h => Or.inr h
  generalize va_A (iX4 h0) s.heap.size = A at hD hA ⊢
  have hS : va_S A s.heap s.heap [] := va_S.rf
  have hl := lv_entry [.ref h0, .ref p1] (n := 2) (Nat.le_of_ble_eq_true rfl)
  rw [lg_entry_eq]
  generalize (lg_sl [.ref h0, .ref p1] ++ List.replicate (2 - (lg_sl [.ref h0, .ref p1]).length) Slot.unset).toArray = ls at hl ⊢
  have hl : lv_has ls 2 [(0, .ref h0), (1, .ref p1)] := hl
  have hP : va_P D vwCl [(h0, .inr (4, [.null, .null, .int 0, .int 0, .int 0, .int 0, .int 0, .int 0]))] s.heap := hP
  have hD : va_D A [(h0, .inr (4, [.null, .null, .int 0, .int 0, .int 0, .int 0, .int 0, .int 0]))] := hD
  refine lv_aload_n hx hb dX4_init_0 rfl (lv_at hl 0 rfl) ?_
  refine W.objInit hx hb hown (hT tOL_X4) (hT tOI) (hT tOC) rfl (by rw [hml]; exact hl.1) rfl dX4_init_1 (Nat.le_of_ble_eq_true rfl) (Nat.le_of_ble_eq_true rfl) ?_
  refine W.eq (g2 := F0 m 4 ls []) rfl ?_
  refine lv_aload_n hx hb dX4_init_4 rfl (lv_at hl 0 rfl) ?_
  refine va_new (ci := 2) (fs := [.null, .null, .null, .null, .null, .int 0, .int 0]) (C := RX2) (T := TX2) (N := 7) hx hb hts (fun w hw => (inT.good (y := nX4) (twX2 w hw)).1) tyX2 tyX2_ok hown (hT tCL_X4_9) (hT tIS_X2) (hT tin_X2) hK hP hD hS hA rfl (fun j hj => by rcases (show j = 0 ∨ j = 1 ∨ j = 2 ∨ j = 3 ∨ j = 4 ∨ j = 5 ∨ j = 6 by omega) with rfl | rfl | rfl | rfl | rfl | rfl | rfl <;> rfl) (Nat.le_of_ble_eq_true rfl) (Nat.le_of_ble_eq_true rfl) dX4_init_5 (fun q0 H hP hD hS => ?_)
  have hP : va_P D vwCl [(h0, .inr (4, [.null, .null, .int 0, .int 0, .int 0, .int 0, .int 0, .int 0])), (q0, .inr (2, [.null, .null, .null, .null, .null, .int 0, .int 0]))] H := hP
  have hD : va_D A [(h0, .inr (4, [.null, .null, .int 0, .int 0, .int 0, .int 0, .int 0, .int 0])), (q0, .inr (2, [.null, .null, .null, .null, .null, .int 0, .int 0]))] := hD
  refine lv_dup hx hb dX4_init_8 rfl ?_
  have hPc := hP.sub (ws' := iX2 q0) [1] rfl
  have hDc := hD.sub (ws' := iX2 q0) [1] (by decide) rfl
  have hFc := va_free (wc := iX2 q0) hD hS hA [1] rfl
  refine va_callv (va_runIN (host := "HomeRoll") (As := []) (rest := [.ref q0, .ref h0]) ⟨hx, hb, hml, hown, hts⟩ (ct_X2 l D aC q0 H.size) ⟨va_cnB 0 hts (wl_good (y := nX4) (y' := nX2) tc_X2_init) rfl rfl rfl (hN _ (List.mem_of_getElem? (i := 6) rfl)) (hT tin_X2) (by decide +kernel) ⟨Nat.le_of_ble_eq_true rfl, Nat.le_of_ble_eq_true rfl⟩, rfl, hT ti_X2_init⟩ ⟨ct_X2_bl, fun U hU hW => ⟨rfl, by rw [hU], by rw [hU]; exact hPc, va_K.moved hW.alike hK, hDc.weaken (fun _ _ _ _ => trivial)⟩⟩ rfl rfl hl.1 rfl (lv_room (Nat.le_of_ble_eq_true rfl)) dX4_init_9 ⟨Nat.le_of_ble_eq_true rfl, Nat.le_of_ble_eq_true rfl⟩) hS (fun q _ h => hFc q h) hFc (fun u0 t H1 locs ht hvm hw hB hz1 hk1 hS => ?_)
  obtain ⟨hP1, hK1, hD1⟩ := hB
  rw [ht] at hP1
  obtain ⟨hP, hD⟩ := va_join (wr := [(h0, .inr (4, [.null, .null, .int 0, .int 0, .int 0, .int 0, .int 0, .int 0]))]) (w1 := [(q0, .inr (2, [.ref (u0 0), .ref (u0 1), .ref (u0 2), .ref (u0 3), .ref (u0 4), .int 0, .int 0])), (u0 0, .inl (aC 100, 600, .inl (fun _ => 0))), (u0 1, .inl (aC 100, 16, .inl (fun _ => 0))), (u0 2, .inl (aC 100, 16, .inl (fun _ => 0))), (u0 3, .inl (aC 100, 16, .inl (fun _ => 0))), (u0 4, .inl (aC 100, 32, .inl (fun _ => 0)))]) hP hD [1] [0] rfl rfl (by decide) (by decide) hk1 hFc hP1 hD1
  generalize H1 = H at hP hS ⊢
  have hP : va_P D vwCl [(h0, .inr (4, [.null, .null, .int 0, .int 0, .int 0, .int 0, .int 0, .int 0])), (q0, .inr (2, [.ref (u0 0), .ref (u0 1), .ref (u0 2), .ref (u0 3), .ref (u0 4), .int 0, .int 0])), (u0 0, .inl (aC 100, 600, .inl (fun _ => 0))), (u0 1, .inl (aC 100, 16, .inl (fun _ => 0))), (u0 2, .inl (aC 100, 16, .inl (fun _ => 0))), (u0 3, .inl (aC 100, 16, .inl (fun _ => 0))), (u0 4, .inl (aC 100, 32, .inl (fun _ => 0)))] H := hP
  have hD : va_D A [(h0, .inr (4, [.null, .null, .int 0, .int 0, .int 0, .int 0, .int 0, .int 0])), (q0, .inr (2, [.ref (u0 0), .ref (u0 1), .ref (u0 2), .ref (u0 3), .ref (u0 4), .int 0, .int 0])), (u0 0, .inl (aC 100, 600, .inl (fun _ => 0))), (u0 1, .inl (aC 100, 16, .inl (fun _ => 0))), (u0 2, .inl (aC 100, 16, .inl (fun _ => 0))), (u0 3, .inl (aC 100, 16, .inl (fun _ => 0))), (u0 4, .inl (aC 100, 32, .inl (fun _ => 0)))] := hD
  refine va_put (D := D) (ci := 4) (v := .ref q0) (ty := tyX4 1) (C := RX4) (T := TX4) (N := 8) hx hb hts (fun w hw => (inT.good (y := nX4) (twX4 w hw)).1) tyX4 tyX4_ok nmX4 hown hK hP hD hS 0 rfl rfl 1 (by decide) (hT tf_X4_12) (fun _ h => h) rfl (tyX4_ok 1 (by decide)) rfl rfl (Nat.le_of_ble_eq_true rfl) dX4_init_12 (fun H locs hP hD hS => ?_)
  have hP : va_P D vwCl [(h0, .inr (4, [.null, .ref q0, .int 0, .int 0, .int 0, .int 0, .int 0, .int 0])), (q0, .inr (2, [.ref (u0 0), .ref (u0 1), .ref (u0 2), .ref (u0 3), .ref (u0 4), .int 0, .int 0])), (u0 0, .inl (aC 100, 600, .inl (fun _ => 0))), (u0 1, .inl (aC 100, 16, .inl (fun _ => 0))), (u0 2, .inl (aC 100, 16, .inl (fun _ => 0))), (u0 3, .inl (aC 100, 16, .inl (fun _ => 0))), (u0 4, .inl (aC 100, 32, .inl (fun _ => 0)))] H := hP
  have hD : va_D A [(h0, .inr (4, [.null, .ref q0, .int 0, .int 0, .int 0, .int 0, .int 0, .int 0])), (q0, .inr (2, [.ref (u0 0), .ref (u0 1), .ref (u0 2), .ref (u0 3), .ref (u0 4), .int 0, .int 0])), (u0 0, .inl (aC 100, 600, .inl (fun _ => 0))), (u0 1, .inl (aC 100, 16, .inl (fun _ => 0))), (u0 2, .inl (aC 100, 16, .inl (fun _ => 0))), (u0 3, .inl (aC 100, 16, .inl (fun _ => 0))), (u0 4, .inl (aC 100, 32, .inl (fun _ => 0)))] := hD
  refine lv_aload_n hx hb dX4_init_15 rfl (lv_at hl 0 rfl) ?_
  refine lv_iconst (v := 0) hx hb dX4_init_16 (by decide) ?_
  refine va_put (D := D) (ci := 4) (v := .int 0) (ty := tyX4 2) (C := RX4) (T := TX4) (N := 8) hx hb hts (fun w hw => (inT.good (y := nX4) (twX4 w hw)).1) tyX4 tyX4_ok nmX4 hown hK hP hD hS 0 rfl rfl 2 (by decide) (hT tf_X4_18) (fun _ h => h) rfl (tyX4_ok 2 (by decide)) rfl rfl (Nat.le_of_ble_eq_true rfl) dX4_init_17 (fun H locs hP hD hS => ?_)
  have hP : va_P D vwCl [(h0, .inr (4, [.null, .ref q0, .int 0, .int 0, .int 0, .int 0, .int 0, .int 0])), (q0, .inr (2, [.ref (u0 0), .ref (u0 1), .ref (u0 2), .ref (u0 3), .ref (u0 4), .int 0, .int 0])), (u0 0, .inl (aC 100, 600, .inl (fun _ => 0))), (u0 1, .inl (aC 100, 16, .inl (fun _ => 0))), (u0 2, .inl (aC 100, 16, .inl (fun _ => 0))), (u0 3, .inl (aC 100, 16, .inl (fun _ => 0))), (u0 4, .inl (aC 100, 32, .inl (fun _ => 0)))] H := hP
  have hD : va_D A [(h0, .inr (4, [.null, .ref q0, .int 0, .int 0, .int 0, .int 0, .int 0, .int 0])), (q0, .inr (2, [.ref (u0 0), .ref (u0 1), .ref (u0 2), .ref (u0 3), .ref (u0 4), .int 0, .int 0])), (u0 0, .inl (aC 100, 600, .inl (fun _ => 0))), (u0 1, .inl (aC 100, 16, .inl (fun _ => 0))), (u0 2, .inl (aC 100, 16, .inl (fun _ => 0))), (u0 3, .inl (aC 100, 16, .inl (fun _ => 0))), (u0 4, .inl (aC 100, 32, .inl (fun _ => 0)))] := hD
  refine lv_aload_n hx hb dX4_init_20 rfl (lv_at hl 0 rfl) ?_
  refine lv_iconst (v := -1) hx hb dX4_init_21 (by decide) ?_
  refine va_put (D := D) (ci := 4) (v := .int (-1)) (ty := tyX4 3) (C := RX4) (T := TX4) (N := 8) hx hb hts (fun w hw => (inT.good (y := nX4) (twX4 w hw)).1) tyX4 tyX4_ok nmX4 hown hK hP hD hS 0 rfl rfl 3 (by decide) (hT tf_X4_22) (fun _ h => h) rfl (tyX4_ok 3 (by decide)) rfl rfl (Nat.le_of_ble_eq_true rfl) dX4_init_22 (fun H locs hP hD hS => ?_)
  have hP : va_P D vwCl [(h0, .inr (4, [.null, .ref q0, .int 0, .int (-1), .int 0, .int 0, .int 0, .int 0])), (q0, .inr (2, [.ref (u0 0), .ref (u0 1), .ref (u0 2), .ref (u0 3), .ref (u0 4), .int 0, .int 0])), (u0 0, .inl (aC 100, 600, .inl (fun _ => 0))), (u0 1, .inl (aC 100, 16, .inl (fun _ => 0))), (u0 2, .inl (aC 100, 16, .inl (fun _ => 0))), (u0 3, .inl (aC 100, 16, .inl (fun _ => 0))), (u0 4, .inl (aC 100, 32, .inl (fun _ => 0)))] H := hP
  have hD : va_D A [(h0, .inr (4, [.null, .ref q0, .int 0, .int (-1), .int 0, .int 0, .int 0, .int 0])), (q0, .inr (2, [.ref (u0 0), .ref (u0 1), .ref (u0 2), .ref (u0 3), .ref (u0 4), .int 0, .int 0])), (u0 0, .inl (aC 100, 600, .inl (fun _ => 0))), (u0 1, .inl (aC 100, 16, .inl (fun _ => 0))), (u0 2, .inl (aC 100, 16, .inl (fun _ => 0))), (u0 3, .inl (aC 100, 16, .inl (fun _ => 0))), (u0 4, .inl (aC 100, 32, .inl (fun _ => 0)))] := hD
  refine lv_aload_n hx hb dX4_init_25 rfl (lv_at hl 0 rfl) ?_
  refine lv_iconst (v := 0) hx hb dX4_init_26 (by decide) ?_
  refine va_put (D := D) (ci := 4) (v := .int 0) (ty := tyX4 4) (C := RX4) (T := TX4) (N := 8) hx hb hts (fun w hw => (inT.good (y := nX4) (twX4 w hw)).1) tyX4 tyX4_ok nmX4 hown hK hP hD hS 0 rfl rfl 4 (by decide) (hT tf_X4_25) (fun _ h => h) rfl (tyX4_ok 4 (by decide)) rfl rfl (Nat.le_of_ble_eq_true rfl) dX4_init_27 (fun H locs hP hD hS => ?_)
  have hP : va_P D vwCl [(h0, .inr (4, [.null, .ref q0, .int 0, .int (-1), .int 0, .int 0, .int 0, .int 0])), (q0, .inr (2, [.ref (u0 0), .ref (u0 1), .ref (u0 2), .ref (u0 3), .ref (u0 4), .int 0, .int 0])), (u0 0, .inl (aC 100, 600, .inl (fun _ => 0))), (u0 1, .inl (aC 100, 16, .inl (fun _ => 0))), (u0 2, .inl (aC 100, 16, .inl (fun _ => 0))), (u0 3, .inl (aC 100, 16, .inl (fun _ => 0))), (u0 4, .inl (aC 100, 32, .inl (fun _ => 0)))] H := hP
  have hD : va_D A [(h0, .inr (4, [.null, .ref q0, .int 0, .int (-1), .int 0, .int 0, .int 0, .int 0])), (q0, .inr (2, [.ref (u0 0), .ref (u0 1), .ref (u0 2), .ref (u0 3), .ref (u0 4), .int 0, .int 0])), (u0 0, .inl (aC 100, 600, .inl (fun _ => 0))), (u0 1, .inl (aC 100, 16, .inl (fun _ => 0))), (u0 2, .inl (aC 100, 16, .inl (fun _ => 0))), (u0 3, .inl (aC 100, 16, .inl (fun _ => 0))), (u0 4, .inl (aC 100, 32, .inl (fun _ => 0)))] := hD
  refine lv_aload_n hx hb dX4_init_30 rfl (lv_at hl 0 rfl) ?_
  refine lv_bipush (v := 20) hx hb dX4_init_31 (by decide) ?_
  refine va_put (D := D) (ci := 4) (v := .int 20) (ty := tyX4 5) (C := RX4) (T := TX4) (N := 8) hx hb hts (fun w hw => (inT.good (y := nX4) (twX4 w hw)).1) tyX4 tyX4_ok nmX4 hown hK hP hD hS 0 rfl rfl 5 (by decide) (hT tf_X4_30) (fun _ h => h) rfl (tyX4_ok 5 (by decide)) rfl rfl (Nat.le_of_ble_eq_true rfl) dX4_init_33 (fun H locs hP hD hS => ?_)
  have hP : va_P D vwCl [(h0, .inr (4, [.null, .ref q0, .int 0, .int (-1), .int 0, .int 20, .int 0, .int 0])), (q0, .inr (2, [.ref (u0 0), .ref (u0 1), .ref (u0 2), .ref (u0 3), .ref (u0 4), .int 0, .int 0])), (u0 0, .inl (aC 100, 600, .inl (fun _ => 0))), (u0 1, .inl (aC 100, 16, .inl (fun _ => 0))), (u0 2, .inl (aC 100, 16, .inl (fun _ => 0))), (u0 3, .inl (aC 100, 16, .inl (fun _ => 0))), (u0 4, .inl (aC 100, 32, .inl (fun _ => 0)))] H := hP
  have hD : va_D A [(h0, .inr (4, [.null, .ref q0, .int 0, .int (-1), .int 0, .int 20, .int 0, .int 0])), (q0, .inr (2, [.ref (u0 0), .ref (u0 1), .ref (u0 2), .ref (u0 3), .ref (u0 4), .int 0, .int 0])), (u0 0, .inl (aC 100, 600, .inl (fun _ => 0))), (u0 1, .inl (aC 100, 16, .inl (fun _ => 0))), (u0 2, .inl (aC 100, 16, .inl (fun _ => 0))), (u0 3, .inl (aC 100, 16, .inl (fun _ => 0))), (u0 4, .inl (aC 100, 32, .inl (fun _ => 0)))] := hD
  refine lv_aload_n hx hb dX4_init_36 rfl (lv_at hl 0 rfl) ?_
  refine lv_iconst (v := 0) hx hb dX4_init_37 (by decide) ?_
  refine va_put (D := D) (ci := 4) (v := .int 0) (ty := tyX4 6) (C := RX4) (T := TX4) (N := 8) hx hb hts (fun w hw => (inT.good (y := nX4) (twX4 w hw)).1) tyX4 tyX4_ok nmX4 hown hK hP hD hS 0 rfl rfl 6 (by decide) (hT tf_X4_33) (fun _ h => h) rfl (tyX4_ok 6 (by decide)) rfl rfl (Nat.le_of_ble_eq_true rfl) dX4_init_38 (fun H locs hP hD hS => ?_)
  have hP : va_P D vwCl [(h0, .inr (4, [.null, .ref q0, .int 0, .int (-1), .int 0, .int 20, .int 0, .int 0])), (q0, .inr (2, [.ref (u0 0), .ref (u0 1), .ref (u0 2), .ref (u0 3), .ref (u0 4), .int 0, .int 0])), (u0 0, .inl (aC 100, 600, .inl (fun _ => 0))), (u0 1, .inl (aC 100, 16, .inl (fun _ => 0))), (u0 2, .inl (aC 100, 16, .inl (fun _ => 0))), (u0 3, .inl (aC 100, 16, .inl (fun _ => 0))), (u0 4, .inl (aC 100, 32, .inl (fun _ => 0)))] H := hP
  have hD : va_D A [(h0, .inr (4, [.null, .ref q0, .int 0, .int (-1), .int 0, .int 20, .int 0, .int 0])), (q0, .inr (2, [.ref (u0 0), .ref (u0 1), .ref (u0 2), .ref (u0 3), .ref (u0 4), .int 0, .int 0])), (u0 0, .inl (aC 100, 600, .inl (fun _ => 0))), (u0 1, .inl (aC 100, 16, .inl (fun _ => 0))), (u0 2, .inl (aC 100, 16, .inl (fun _ => 0))), (u0 3, .inl (aC 100, 16, .inl (fun _ => 0))), (u0 4, .inl (aC 100, 32, .inl (fun _ => 0)))] := hD
  refine lv_aload_n hx hb dX4_init_41 rfl (lv_at hl 0 rfl) ?_
  refine lv_iconst (v := 0) hx hb dX4_init_42 (by decide) ?_
  refine va_put (D := D) (ci := 4) (v := .int 0) (ty := tyX4 7) (C := RX4) (T := TX4) (N := 8) hx hb hts (fun w hw => (inT.good (y := nX4) (twX4 w hw)).1) tyX4 tyX4_ok nmX4 hown hK hP hD hS 0 rfl rfl 7 (by decide) (hT tf_X4_36) (fun _ h => h) rfl (tyX4_ok 7 (by decide)) rfl rfl (Nat.le_of_ble_eq_true rfl) dX4_init_43 (fun H locs hP hD hS => ?_)
  have hP : va_P D vwCl [(h0, .inr (4, [.null, .ref q0, .int 0, .int (-1), .int 0, .int 20, .int 0, .int 0])), (q0, .inr (2, [.ref (u0 0), .ref (u0 1), .ref (u0 2), .ref (u0 3), .ref (u0 4), .int 0, .int 0])), (u0 0, .inl (aC 100, 600, .inl (fun _ => 0))), (u0 1, .inl (aC 100, 16, .inl (fun _ => 0))), (u0 2, .inl (aC 100, 16, .inl (fun _ => 0))), (u0 3, .inl (aC 100, 16, .inl (fun _ => 0))), (u0 4, .inl (aC 100, 32, .inl (fun _ => 0)))] H := hP
  have hD : va_D A [(h0, .inr (4, [.null, .ref q0, .int 0, .int (-1), .int 0, .int 20, .int 0, .int 0])), (q0, .inr (2, [.ref (u0 0), .ref (u0 1), .ref (u0 2), .ref (u0 3), .ref (u0 4), .int 0, .int 0])), (u0 0, .inl (aC 100, 600, .inl (fun _ => 0))), (u0 1, .inl (aC 100, 16, .inl (fun _ => 0))), (u0 2, .inl (aC 100, 16, .inl (fun _ => 0))), (u0 3, .inl (aC 100, 16, .inl (fun _ => 0))), (u0 4, .inl (aC 100, 32, .inl (fun _ => 0)))] := hD
  refine lv_aload_n hx hb dX4_init_46 rfl (lv_at hl 0 rfl) ?_
  refine lv_aload_n hx hb dX4_init_47 rfl (lv_at hl 1 rfl) ?_
  refine va_putF (D := D) (ci := 4) (v := .ref p1) (ty := tyX4 0) (C := RX4) (T := TX4) (N := 8) hx hb hts (fun w hw => (inT.good (y := nX4) (twX4 w hw)).1) tyX4 tyX4_ok nmX4 hown hK hP hD hS 0 rfl rfl 0 (by decide) (hT tf_X4_39) (fun _ h => h) rfl hin rfl (tyX4_ok 0 (by decide)) rfl rfl (Nat.le_of_ble_eq_true rfl) dX4_init_48 (fun H locs hP hD hS => ?_)
  have hP : va_P D vwCl [(h0, .inr (4, [.ref p1, .ref q0, .int 0, .int (-1), .int 0, .int 20, .int 0, .int 0])), (q0, .inr (2, [.ref (u0 0), .ref (u0 1), .ref (u0 2), .ref (u0 3), .ref (u0 4), .int 0, .int 0])), (u0 0, .inl (aC 100, 600, .inl (fun _ => 0))), (u0 1, .inl (aC 100, 16, .inl (fun _ => 0))), (u0 2, .inl (aC 100, 16, .inl (fun _ => 0))), (u0 3, .inl (aC 100, 16, .inl (fun _ => 0))), (u0 4, .inl (aC 100, 32, .inl (fun _ => 0)))] H := hP
  have hD : va_D A [(h0, .inr (4, [.ref p1, .ref q0, .int 0, .int (-1), .int 0, .int 20, .int 0, .int 0])), (q0, .inr (2, [.ref (u0 0), .ref (u0 1), .ref (u0 2), .ref (u0 3), .ref (u0 4), .int 0, .int 0])), (u0 0, .inl (aC 100, 600, .inl (fun _ => 0))), (u0 1, .inl (aC 100, 16, .inl (fun _ => 0))), (u0 2, .inl (aC 100, 16, .inl (fun _ => 0))), (u0 3, .inl (aC 100, 16, .inl (fun _ => 0))), (u0 4, .inl (aC 100, 32, .inl (fun _ => 0)))] := hD
  refine W.widen (k := 6) (n := 687) (Nat.le_of_ble_eq_true rfl) (Nat.le_of_ble_eq_true rfl) ?_
  exact W.vret hx hb hr (fun t ht hW => ⟨⟨fun j => ([q0, u0 0, u0 1, u0 2, u0 3, u0 4] : List Nat).getD j 0, rfl, trivial, by rw [ht]; exact hP, va_K.moved hW.alike hK, hD⟩, hS.F ht⟩) hS.2.2 dX4_init_51
end C0
