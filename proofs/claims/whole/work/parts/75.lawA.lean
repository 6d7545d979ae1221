/-! THE CLAIM OUT OF ONE WALK OF THE LAW'S BODY. Your part is whole_start (and what it stands on); all else here is the same for every law, but numbers. -/
def R_law : String := "HomeRollLaw"
def lw_P (b : Addr) (xs : List Int32) (args : Array Value) (s : State) : Prop := args = #[.ref b] ∧ s.IntsAt b xs ∧ xs.length ≤ 3584 ∧ (Jvm.Cond.and given_1 narrow_1).before args s = true
def lw_Q (_ : Array Value) (s : State) (o : Outcome) (t : State) : Prop := o = .returned (some (.int 1)) ∧ Framed s o t [] 600000 7302250
def lw_Z (below : List Frame) (a : Array Value) (s : State) : State → Prop := fun t => ∃ o, t.status = .running ∧ Ended t below o ∧ lw_Q a s o t
/-- the law's own end, with 1 on the stack, nothing written that was there before, its room as the claim has it -/
theorem lw_ret {p : Program} {l : Launch} {e : Env} {s : State} {m : MethodId} {below : List Frame} {meth : Method} {c : Code} {b : Nat} (hx : p.tables.exec = Jvm.exec) (hb : c.code = code) (hr : meth.sig.returnType = ret) (hlocks : meth.locks = false) {pc : Nat} {H : Heap} {ls : Array Slot} (hdg : decode code pc = .ok (.ireturn, 1)) : W p l e room_1 s m #[Value.ref b] below meth c H [] 600000 7302250 (lw_Z below #[Value.ref b] s) (F0 m pc ls [.int 1]) := by
  intro T hT X
  obtain ⟨fs, hret, hrun, hended, hW, hframe⟩ := X.leave (v := some (.int 1)) (hlocks := hlocks) (fun h => by rw [hr] at h; cases h)
  have hmeth' : T.vm.method? m = some meth := X.method'
  refine ⟨T.setFrames fs, ?_, .returned (some (.int 1)), hrun, hended, rfl, ⟨_, rfl⟩, hW, hframe⟩
  jvm_step X.here [X.here.top, hx, hb, hdg, hmeth', hr, ret, narrow_b1]
  (try refine ⟨rfl, ?_⟩); (try refine ⟨rfl, ?_⟩)
  first | (intro acts; rw [hret _ acts rfl rfl rfl]) | rw [hret _ _ rfl rfl rfl]
  exact Steps.refl _
/-- what holds at the law's entry: the machine, the code, the tables' words (any of lw_tbl by 'hts w (by decide +kernel)'), the script of L ints xs at the cell b, what the Statement gives of the start (any of its parts by flat_of_before) -/
def lw_At (p : Program) (s : State) (m : MethodId) (meth : Method) (c : Code) (b L : Nat) (xs : Nat → Int32) : Prop :=
  p.tables.exec = Jvm.exec ∧ c.code = code ∧ meth.sig.returnType = ret ∧ c.maxLocals = 4 ∧ s.vm.findClass R_law = some m.cls ∧ (∀ w ∈ lw_tbl, w.before #[Value.ref b] s = true) ∧ va_X b L xs s s.heap ∧ b < s.heap.size ∧ meth.locks = false ∧ (Jvm.Cond.and given_1 narrow_1).before #[Value.ref b] s = true
section LA
variable {p : Program} {l : Launch} {e : Env} {s : State} {m : MethodId} {below : List Frame} {meth : Method} {c : Code} {b L : Nat} {xs : Nat → Int32} {D : va_G} {aC : Nat → ClassId} {ad : Nat → Nat} {Q : State → Prop}
/-- what stands from the loop on -/
def LC (p : Program) (s : State) (m : MethodId) (meth : Method) (c : Code) (b L : Nat) (xs : Nat → Int32) (D : va_G) (aC : Nat → ClassId) (ad : Nat → Nat) : Prop := lw_At p s m meth c b L xs ∧ va_K D vwCl (atys aC) s ∧ inj85 ad ∧ Ext ad s s.heap ∧ (∀ i, i < 85 → s.heap.size ≤ ad i)
theorem gdL {y' : Yt} {idx : Nat} {own : String} (h3 : inT (.methodLink own idx y'.1)) (h4 : inT (.instanceMethod y'.1)) (h5 : inT (.selects y'.1.cls y'.1 y'.1)) (h6 : inT (.initialized y'.1.cls)) (h7 : inT (.code y'.1 y'.2.1 y'.2.2.1 y'.2.2.2.1)) : GoodIn lw_tbl (wsV own idx y'.1.cls y'.1 (wl y')) := by
  intro w hw
  have h := gdV (y := y') (y' := y') h3 h4 h5 h6 h7 w hw
  refine ⟨?_, h.2⟩
  unfold wsV at hw
  rcases List.mem_append.mp hw with hw | hw
  · simp only [List.mem_cons, List.not_mem_nil, or_false] at hw
    rcases hw with rfl | rfl | rfl | rfl
    · exact h3.tbl
    · exact h4.tbl
    · exact h5.tbl
    · exact h6.tbl
  · rcases List.mem_cons.mp hw with rfl | hw
    · exact h7.tbl
    · exact inT.tbl hw
set_option maxHeartbeats 4000000 in
theorem lawCall (h : LC p s m meth c b L xs D aC ad) {y : Yt} {idx r pc : Nat} {As : List Value} {M : Mt} {N : Nt} {P : Pt'} {k : Qt} {H : Heap} {locs : List Loc} {ls : Array Slot} {rest : List Value} {CC SS : Nat} (hCC : CC ≤ 600000 ∧ SS ≤ 7302250) (hX : Wp y 60 0 (padL y.2.2.1 (entL (.ref r :: As))) [] M N P k) (ha : argsOk y (.ref r :: As)) (hn : nargs y As.length) (hr : recvOk r y.1.cls) (hr2 : ∃ c T n, shk r = (c, 0) ∧ vwCl[c]? = some (y.1.cls, T, n))
    (h3 : inT (.methodLink RL idx y.1)) (h4 : inT (.instanceMethod y.1)) (h5 : inT (.selects y.1.cls y.1 y.1)) (h6 : inT (.initialized y.1.cls)) (h7 : inT (.code y.1 y.2.1 y.2.2.1 y.2.2.2.1)) (h8 : notH y) (hls : ls.size = 4) (hdec : decode code pc = .ok (.invokevirtual idx, 3)) (hrest : (rest.map fun v => v.category).sum ≤ 8) (hP : va_P D vwCl (rws aC ad M N P) H) (hS : va_S (Aad ad) s.heap H locs)
    (kk : ∀ (v : Option Value) (M' : Mt) (N' : Nt) (P' : Pt') (H1 : Heap) (locs1 : List Loc), k v M' N' P' → va_P D vwCl (rws aC ad M' N' P') H1 → va_S (Aad ad) s.heap H1 locs1 → W p l e room_1 s m #[Value.ref b] below meth c H1 locs1 CC SS Q (F0 m (pc + 3) ls ((v.map (cvv ad)).toList ++ rest))) :
    W p l e room_1 s m #[Value.ref b] below meth c H locs CC SS Q (F0 m pc ls ((As.map (cvv ad)).reverse ++ .ref (ad r) :: rest)) := by
  obtain ⟨⟨hx, hb, hrt, hml, hown, hts, hXx, hbl, hlocks, hgv⟩, hK, hinj, hE, hge⟩ := h
  have hM := (Wp.snd hprim hX).met ha h8 l D aC ad
  obtain ⟨c0, T0, n0, g1, g2⟩ := hr2
  have hrecv : ∃ cellB : Cell, H[ad r]? = some cellB ∧ cellB.vm.isStatics = false ∧ s.vm.findClass y.1.cls = some cellB.cls := va_recv hK hP g2 (rws_obj g1 (cls_lt g2))
  refine run_W (va_runV (As := As.map (cvv ad)) (rest := rest) (b := ad r) (nL := 4) ⟨hx, hb, hml, hown, hts⟩ hM (cwV As.length hts (gdL h3 h4 h5 h6 h7) rfl rfl rfl ⟨rfl, h8.1.1, h8.1.2, hn⟩ ⟨Nat.le_of_ble_eq_true rfl, ?_⟩) ⟨PcX.blind, hrecv, fun U hU hW => ⟨rfl, by rw [hU]; exact hP, va_K.moved hW.alike hK, hinj, by rw [hU]; exact hE.warm hW hS.2.1⟩⟩ rfl (by rw [List.length_map]) hls rfl (lv_room hrest) hdec hCC) hS (fun v M' N' P' H1 locs1 hk hP1 hS1 => kk v M' N' P' H1 locs1 hk hP1 hS1)
  have := ha.2.2
  show 8 + (y.2.2.1 + 11) + 64 * 60 ≤ 84000
  omega
theorem optcat {ad : Nat → Nat} (v : Option Value) : (((v.map (cvv ad)).toList).map fun v => v.category).sum ≤ 8 := by
  cases v with
  | none => exact Nat.zero_le _
  | some v =>
    have := lv_cat (cvv ad v)
    show (cvv ad v).category + 0 ≤ 8
    omega
theorem b_out (h : LC p s m meth c b L xs D aC ad) : ¬ Aad ad b := by
  intro ⟨i, hi, e⟩
  have h1 := h.2.2.2.2 i hi
  have h2 := h.1.2.2.2.2.2.2.2.1
  omega
end LA
