section LE
def M00 (f g : Nat → Int32) : Mt := fun o => match o with
  | 13 => f
  | 56 => g
  | 5 => fun k => if k = 2 then -1 else 0
  | 9 => fun k => if k = 3 then -1 else if k = 5 then 20 else 0
  | 10 => fun k => if k = 5 then 1 else 0
  | 50 => fun k => if k = 26 then -1 else 0
  | _ => fun _ => 0
def N00 : Nt := fun o => match o with
  | 2 => fun k => if k = 4 then 1 else 0
  | _ => fun _ => 0
theorem rel0 {f g : Nat → Int32} (hf : ∀ j, j < 100 → f j = 100) (hg : ∀ j, j < 100 → g j = 100) : Rel false (M00 f g) := by
  refine ⟨0, 0, 0, 0, 0, 0, 0, ⟨by decide, rfl, rfl, fun i hi => by omega⟩, ⟨by decide, rfl, rfl, rfl, fun i hi => by omega⟩, fun i hi => ?_, ⟨by decide, rfl, rfl⟩, ⟨by decide, rfl, rfl, fun i hi => by omega, ⟨[], rfl, List.nodup_nil, fun x hx => absurd hx List.not_mem_nil, List.Pairwise.nil, fun i hi => by omega⟩⟩, ⟨by decide, rfl, rfl, fun i hi => by omega⟩, ⟨by decide, rfl, rfl, fun i hi => by omega⟩, ⟨rfl, rfl⟩, ⟨by decide, rfl, rfl, fun i hi => ⟨rfl, ?_, ?_⟩, fun i hi => rfl⟩, ⟨bit1, fun _ => ⟨rfl, fun i hi => by omega⟩⟩, ⟨[], 0, ⟨by decide, by decide, fun q hq => absurd hq List.not_mem_nil⟩, by decide, rfl, ?_, ?_⟩⟩
  · show g i = f i ∧ 1 ≤ (f i).toInt ∧ (f i).toInt ≤ 10000
    rw [hf i hi, hg i hi]
    decide
  · show (0 : Int) ≤ (0 : Int32).toInt
    decide
  · show (0 : Int32).toInt ≤ 1000
    decide
  · show lawC 11 40 41 42 43 [] (M00 f g)
    exact ⟨rfl, fun j hj => absurd hj (Nat.not_lt_zero j), fun i hi => absurd hi (Nat.not_lt_zero i)⟩
  · exact ⟨rfl, fun j hj => absurd hj (Nat.not_lt_zero j), fun i hi => absurd hi (Nat.not_lt_zero i)⟩
def f110 : List Value := [.null, .null, .null, .null, .null, .null, .null, .null, .null, .null, .null, .null, .int 0]
def f120 : List Value := [.null, .null, .null, .null, .null, .null, .int 0, .int 0, .int 0, .null, .null, .null, .null, .null, .null, .null, .null, .null, .null, .int 0, .int 0, .null, .null, .int 0, .int 0, .int 0, .int 0, .int 0, .int 0, .int 0, .int 0, .long 0, .null, .null, .null, .null, .null, .null, .null, .int 0, .int 0, .int 0, .int 0, .null, .int 0, .int 0, .null, .null, .null, .int 0, .null, .null, .null, .null, .null, .int 0]
theorem f110_ok : ∀ j, j < 13 → defaultValue (tyX11 j) = vp_V f110 j := (fun j hj => by rcases (show j = 0 ∨ j = 1 ∨ j = 2 ∨ j = 3 ∨ j = 4 ∨ j = 5 ∨ j = 6 ∨ j = 7 ∨ j = 8 ∨ j = 9 ∨ j = 10 ∨ j = 11 ∨ j = 12 by omega) with rfl | rfl | rfl | rfl | rfl | rfl | rfl | rfl | rfl | rfl | rfl | rfl | rfl <;> rfl)
theorem f120_ok : ∀ j, j < 56 → defaultValue (tyX12 j) = vp_V f120 j := (fun j hj => by rcases (show j = 0 ∨ j = 1 ∨ j = 2 ∨ j = 3 ∨ j = 4 ∨ j = 5 ∨ j = 6 ∨ j = 7 ∨ j = 8 ∨ j = 9 ∨ j = 10 ∨ j = 11 ∨ j = 12 ∨ j = 13 ∨ j = 14 ∨ j = 15 ∨ j = 16 ∨ j = 17 ∨ j = 18 ∨ j = 19 ∨ j = 20 ∨ j = 21 ∨ j = 22 ∨ j = 23 ∨ j = 24 ∨ j = 25 ∨ j = 26 ∨ j = 27 ∨ j = 28 ∨ j = 29 ∨ j = 30 ∨ j = 31 ∨ j = 32 ∨ j = 33 ∨ j = 34 ∨ j = 35 ∨ j = 36 ∨ j = 37 ∨ j = 38 ∨ j = 39 ∨ j = 40 ∨ j = 41 ∨ j = 42 ∨ j = 43 ∨ j = 44 ∨ j = 45 ∨ j = 46 ∨ j = 47 ∨ j = 48 ∨ j = 49 ∨ j = 50 ∨ j = 51 ∨ j = 52 ∨ j = 53 ∨ j = 54 ∨ j = 55 by omega) with rfl | rfl | rfl | rfl | rfl | rfl | rfl | rfl | rfl | rfl | rfl | rfl | rfl | rfl | rfl | rfl | rfl | rfl | rfl | rfl | rfl | rfl | rfl | rfl | rfl | rfl | rfl | rfl | rfl | rfl | rfl | rfl | rfl | rfl | rfl | rfl | rfl | rfl | rfl | rfl | rfl | rfl | rfl | rfl | rfl | rfl | rfl | rfl | rfl | rfl | rfl | rfl | rfl | rfl | rfl | rfl <;> rfl)
theorem gdI {y' : Yt} (h7 : inT (.code y'.1 y'.2.1 y'.2.2.1 y'.2.2.2.1)) : GoodIn lw_tbl (wl y') := by
  intro w hw
  have h := wl_good (y := y') (y' := y') h7 w hw
  refine ⟨?_, h.2⟩
  rcases List.mem_cons.mp hw with rfl | hw
  · exact h7.tbl
  · exact inT.tbl hw
def adL (q0 q1 : Nat) (u w : Nat → Nat) : List Nat := [q0, (u 0), (u 4), (u 8), (u 12), (u 22), (u 23), (u 26), (u 28), (u 32), (u 39), (u 43), (u 33), (u 11), (u 1), (u 2), (u 3), (u 5), (u 6), (u 7), (u 9), (u 10), (u 13), (u 14), (u 15), (u 16), (u 17), (u 18), (u 19), (u 20), (u 21), (u 24), (u 25), (u 27), (u 29), (u 30), (u 31), (u 40), (u 41), (u 42), (u 44), (u 45), (u 46), (u 47), (u 48), (u 34), (u 35), (u 36), (u 37), (u 38), q1, (w 0), (w 1), (w 2), (w 3), (w 4), (w 5), (w 6), (w 7), (w 8), (w 9), (w 10), (w 11), (w 12), (w 13), (w 14), (w 15), (w 16), (w 17), (w 18), (w 19), (w 20), (w 21), (w 22), (w 23), (w 24), (w 25), (w 26), (w 27), (w 28), (w 29), (w 30), (w 31), (w 32), (w 33)]
def adF (q0 q1 : Nat) (u w adK : Nat → Nat) : Nat → Nat := fun i => if i < 85 then (adL q0 q1 u w).getD i 0 else adK (i - 200)
def prm : List Nat := [0, 1, 5, 9, 13, 23, 24, 27, 29, 33, 40, 44, 34, 12, 2, 3, 4, 6, 7, 8, 10, 11, 14, 15, 16, 17, 18, 19, 20, 21, 22, 25, 26, 28, 30, 31, 32, 41, 42, 43, 45, 46, 47, 48, 49, 35, 36, 37, 38, 39, 50, 51, 52, 53, 54, 55, 56, 57, 58, 59, 60, 61, 62, 63, 64, 65, 66, 67, 68, 69, 70, 71, 72, 73, 74, 75, 76, 77, 78, 79, 80, 81, 82, 83, 84]
set_option maxHeartbeats 40000000 in
set_option maxRecDepth 100000 in
theorem prm_ok {aC : Nat → ClassId} {q0 q1 : Nat} {u w adK : Nat → Nat} {f g : Nat → Int32} : ∀ k, k < 85 → (oX11 aC q0 f u ++ oX12 aC q1 g w)[prm.getD k 0]? = (rws aC (adF q0 q1 u w adK) (M00 f g) N00 (pr false))[k]? := by
  intro k hk
  rw [rws_get hk]
  rcases (show k = 0 ∨ k = 1 ∨ k = 2 ∨ k = 3 ∨ k = 4 ∨ k = 5 ∨ k = 6 ∨ k = 7 ∨ k = 8 ∨ k = 9 ∨ k = 10 ∨ k = 11 ∨ k = 12 ∨ k = 13 ∨ k = 14 ∨ k = 15 ∨ k = 16 ∨ k = 17 ∨ k = 18 ∨ k = 19 ∨ k = 20 ∨ k = 21 ∨ k = 22 ∨ k = 23 ∨ k = 24 ∨ k = 25 ∨ k = 26 ∨ k = 27 ∨ k = 28 ∨ k = 29 ∨ k = 30 ∨ k = 31 ∨ k = 32 ∨ k = 33 ∨ k = 34 ∨ k = 35 ∨ k = 36 ∨ k = 37 ∨ k = 38 ∨ k = 39 ∨ k = 40 ∨ k = 41 ∨ k = 42 ∨ k = 43 ∨ k = 44 ∨ k = 45 ∨ k = 46 ∨ k = 47 ∨ k = 48 ∨ k = 49 ∨ k = 50 ∨ k = 51 ∨ k = 52 ∨ k = 53 ∨ k = 54 ∨ k = 55 ∨ k = 56 ∨ k = 57 ∨ k = 58 ∨ k = 59 ∨ k = 60 ∨ k = 61 ∨ k = 62 ∨ k = 63 ∨ k = 64 ∨ k = 65 ∨ k = 66 ∨ k = 67 ∨ k = 68 ∨ k = 69 ∨ k = 70 ∨ k = 71 ∨ k = 72 ∨ k = 73 ∨ k = 74 ∨ k = 75 ∨ k = 76 ∨ k = 77 ∨ k = 78 ∨ k = 79 ∨ k = 80 ∨ k = 81 ∨ k = 82 ∨ k = 83 ∨ k = 84 by omega) with rfl | rfl | rfl | rfl | rfl | rfl | rfl | rfl | rfl | rfl | rfl | rfl | rfl | rfl | rfl | rfl | rfl | rfl | rfl | rfl | rfl | rfl | rfl | rfl | rfl | rfl | rfl | rfl | rfl | rfl | rfl | rfl | rfl | rfl | rfl | rfl | rfl | rfl | rfl | rfl | rfl | rfl | rfl | rfl | rfl | rfl | rfl | rfl | rfl | rfl | rfl | rfl | rfl | rfl | rfl | rfl | rfl | rfl | rfl | rfl | rfl | rfl | rfl | rfl | rfl | rfl | rfl | rfl | rfl | rfl | rfl | rfl | rfl | rfl | rfl | rfl | rfl | rfl | rfl | rfl | rfl | rfl | rfl | rfl | rfl
  · rfl
  · rfl
  · rfl
  · rfl
  · rfl
  · rfl
  · rfl
  · rfl
  · rfl
  · rfl
  · rfl
  · rfl
  · rfl
  · rfl
  · rfl
  · rfl
  · rfl
  · rfl
  · rfl
  · rfl
  · rfl
  · rfl
  · rfl
  · rfl
  · rfl
  · rfl
  · rfl
  · rfl
  · rfl
  · rfl
  · rfl
  · rfl
  · rfl
  · rfl
  · rfl
  · rfl
  · rfl
  · rfl
  · rfl
  · rfl
  · rfl
  · rfl
  · rfl
  · rfl
  · rfl
  · rfl
  · rfl
  · rfl
  · rfl
  · rfl
  · rfl
  · rfl
  · rfl
  · rfl
  · rfl
  · rfl
  · rfl
  · rfl
  · rfl
  · rfl
  · rfl
  · rfl
  · rfl
  · rfl
  · rfl
  · rfl
  · rfl
  · rfl
  · rfl
  · rfl
  · rfl
  · rfl
  · rfl
  · rfl
  · rfl
  · rfl
  · rfl
  · rfl
  · rfl
  · rfl
  · rfl
  · rfl
  · rfl
  · rfl
  · rfl
theorem prm_nd : va_nd prm = true := by decide
theorem prm_map {aC : Nat → ClassId} {q0 q1 : Nat} {u w adK : Nat → Nat} {f g : Nat → Int32} : prm.map (fun i => (oX11 aC q0 f u ++ oX12 aC q1 g w)[i]?) = (rws aC (adF q0 q1 u w adK) (M00 f g) N00 (pr false)).map some := by
  apply List.ext_getElem?
  intro k
  by_cases hk : k < 85
  · have h := prm_ok (aC := aC) (q0 := q0) (q1 := q1) (u := u) (w := w) (adK := adK) (f := f) (g := g) k hk
    rw [List.getElem?_map, List.getElem?_map]
    have hp : prm[k]? = some (prm.getD k 0) := by
      rw [List.getD_eq_getElem?_getD, List.getElem?_eq_getElem (show k < prm.length from hk)]
      rfl
    rw [hp, rws_get hk]
    rw [rws_get hk] at h
    exact congrArg some h
  · rw [List.getElem?_eq_none (by rw [List.length_map]; show 85 ≤ k; omega), List.getElem?_eq_none (by rw [List.length_map]; simp [rws]; omega)]
theorem adF_ge {q0 q1 : Nat} {u w adK : Nat → Nat} {aC : Nat → ClassId} {f g : Nat → Int32} {A : Nat → Prop} (hD : va_D A (rws aC (adF q0 q1 u w adK) (M00 f g) N00 (pr false))) : ∀ i, i < 85 → A (adF q0 q1 u w adK i) := fun i hi => hD.2 i _ (rws_get hi)
set_option maxHeartbeats 40000000 in
set_option maxRecDepth 100000 in
theorem whole_start {p : Program} {e : Env} {s : State} {m : MethodId} {below : List Frame} {meth : Method} {c : Code} (l : Launch) {b L : Nat} {xs : Nat → Int32} (hL : L ≤ 3584) (C0 : lw_At p s m meth c b L xs) : W p l e room_1 s m #[Value.ref b] below meth c s.heap [] 0 0 (lw_Z below #[Value.ref b] s) (entryFrame m ([Value.ref b] : List Value).toArray 4) := by
  obtain ⟨hx, hb, hrt, hml, hown, hts, hX, hbl, hlocks, hgv⟩ := id C0
  have hT : ∀ {w : Cond}, inT w → w.before #[Value.ref b] s = true := fun h => hts _ h.tbl
  have hA : ∀ q : Nat, s.heap.size ≤ q → (fun q : Nat => s.heap.size ≤ q) q := fun _ h => h
  obtain ⟨D, aC, hK⟩ := law_K hts
  obtain ⟨adK, ⟨adV, hV⟩, hZ, hR1, hR2, hR3, hNw, hN⟩ := law_str hts hgv
  have hS : va_S (fun q : Nat => s.heap.size ≤ q) s.heap s.heap [] := va_S.rf
  have hP : va_P D vwCl [] s.heap := fun k q h => by simp at h
  have hD : va_D (fun q : Nat => s.heap.size ≤ q) [] := ⟨fun i j p q h => by simp at h, fun k q h => by simp at h⟩
  have hl := lv_entry [.ref b] (n := 4) (Nat.le_of_ble_eq_true rfl)
  rw [lg_entry_eq]
  generalize (lg_sl [.ref b] ++ List.replicate (4 - (lg_sl [.ref b]).length) Slot.unset).toArray = ls at hl ⊢
  have hl : lv_has ls 4 [(0, .ref b)] := hl
  refine va_new (ci := 11) (fs := f110) (C := RX11) (T := TX11) (N := 13) hx hb hts (fun w hw => (twX11 w hw).tbl) tyX11 tyX11_ok hown (hts _ (mem_1 (i := 21) rfl)) (hT tIS_X11) (hT tin_X11) hK hP hD hS hA rfl f110_ok (Nat.le_of_ble_eq_true rfl) (Nat.le_of_ble_eq_true rfl) dL_law_0 (fun q0 H hP hD hS => ?_)
  have hP : va_P D vwCl (iX11 q0) H := hP
  have hD : va_D (fun q : Nat => s.heap.size ≤ q) (iX11 q0) := hD
  refine lv_dup hx hb dL_law_3 rfl ?_
  have hPc := hP.sub (ws' := iX11 q0) [0] rfl
  have hDc := hD.sub (ws' := iX11 q0) [0] (by decide) rfl
  have hFc := va_free (wc := iX11 q0) hD hS hA [0] rfl
  refine va_callv (va_runI (As := []) (rest := [.ref q0]) ⟨hx, hb, hml, hown, hts⟩ (ct_X11 l D aC q0 H.size) (cwI 0 hts (gdI (y' := nX11) tc_X11_init) rfl rfl rfl (hT tin_X11) (hT tm_L_9) (hT ti_X11_init) rfl (by decide +kernel) ⟨Nat.le_of_ble_eq_true rfl, Nat.le_of_ble_eq_true rfl⟩) ⟨ct_X11_bl, fun U hU hW => ⟨rfl, by rw [hU], by rw [hU]; exact hPc, va_K.moved hW.alike hK, hDc.weaken (fun _ _ _ _ => trivial), hN.warm hW⟩⟩ rfl rfl hl.1 rfl (lv_room (Nat.le_of_ble_eq_true rfl)) dL_law_4 ⟨Nat.le_of_ble_eq_true rfl, Nat.le_of_ble_eq_true rfl⟩) hS (fun q _ h => hFc q h) hFc (fun u t H1 locs ht hvm hwu hB hz1 hk1 hS => ?_)
  obtain ⟨hP1, hK1, hD1⟩ := hB
  rw [ht] at hP1
  obtain ⟨hP, hD⟩ := va_join (wr := []) (w1 := oX11 aC q0 u.2 u.1) hP hD [0] [] rfl rfl (by decide) (by decide) hk1 hFc hP1 hD1
  generalize H1 = H at hP hS ⊢
  have hP : va_P D vwCl (oX11 aC q0 u.2 u.1) H := hP
  have hD : va_D (fun q : Nat => s.heap.size ≤ q) (oX11 aC q0 u.2 u.1) := hD
  refine lv_astore_n (lv' := [(1, .ref q0), (0, .ref b)]) hx hb dL_law_7 rfl hl (by decide) rfl (fun ls hl => ?_)
  refine va_new (ci := 12) (fs := f120) (C := RX12) (T := TX12) (N := 56) hx hb hts (fun w hw => (twX12 w hw).tbl) tyX12 tyX12_ok hown (hts _ (mem_4 (i := 131) rfl)) (hT tIS_X12) (hT tin_X12) hK hP hD hS hA rfl f120_ok (Nat.le_of_ble_eq_true rfl) (Nat.le_of_ble_eq_true rfl) dL_law_8 (fun q1 H hP hD hS => ?_)
  refine lv_dup hx hb dL_law_11 rfl ?_
  have hPc := hP.sub (ws' := iX12 q1) [50] rfl
  have hDc := hD.sub (ws' := iX12 q1) [50] (by decide) rfl
  have hFc := va_free (wc := iX12 q1) hD hS hA [50] rfl
  refine va_callv (va_runI (As := []) (rest := [.ref q1]) ⟨hx, hb, hml, hown, hts⟩ (ct_X12 l D aC q1 H.size) (cwI 0 hts (gdI (y' := nX12) tc_X12_init) rfl rfl rfl (hT tin_X12) (hT tm_L_12) (hT ti_X12_init) rfl (by decide +kernel) ⟨Nat.le_of_ble_eq_true rfl, Nat.le_of_ble_eq_true rfl⟩) ⟨ct_X12_bl, fun U hU hW => ⟨rfl, by rw [hU], by rw [hU]; exact hPc, va_K.moved hW.alike hK, hDc.weaken (fun _ _ _ _ => trivial)⟩⟩ rfl rfl hl.1 rfl (lv_room (Nat.le_of_ble_eq_true rfl)) dL_law_12 ⟨Nat.le_of_ble_eq_true rfl, Nat.le_of_ble_eq_true rfl⟩) hS (fun q _ h => hFc q h) hFc (fun w t H1 locs ht hvm hww hB hz1 hk1 hS => ?_)
  obtain ⟨hP1, hK1, hD1⟩ := hB
  rw [ht] at hP1
  obtain ⟨hP, hD⟩ := va_join (wr := oX11 aC q0 u.2 u.1) (w1 := oX12 aC q1 w.2 w.1) hP hD [50] [0, 1, 2, 3, 4, 5, 6, 7, 8, 9, 10, 11, 12, 13, 14, 15, 16, 17, 18, 19, 20, 21, 22, 23, 24, 25, 26, 27, 28, 29, 30, 31, 32, 33, 34, 35, 36, 37, 38, 39, 40, 41, 42, 43, 44, 45, 46, 47, 48, 49] rfl rfl (by decide) (by decide) hk1 hFc hP1 hD1
  generalize H1 = H at hP hS ⊢
  refine lv_astore_n (lv' := [(2, .ref q1), (1, .ref q0), (0, .ref b)]) hx hb dL_law_15 rfl hl (by decide) rfl (fun ls hl => ?_)
  refine lv_iconst (v := nI 0) hx hb dL_law_16 (by decide) ?_
  refine lv_istore_n (lv' := [(3, .int (nI 0)), (2, .ref q1), (1, .ref q0), (0, .ref b)]) hx hb dL_law_17 rfl hl (by decide) rfl (fun ls hl => ?_)
  have hP2 : va_P D vwCl (rws aC (adF q0 q1 u.1 w.1 adK) (M00 u.2 w.2) N00 (pr false)) H := fun k q hk => by
    have hk8 : k < 85 := by
      have := (List.getElem?_eq_some_iff.mp hk).1
      simpa [rws] using this
    exact hP _ q ((prm_ok (adK := adK) k hk8).trans hk)
  have hD2 := hD.sub (ws' := rws aC (adF q0 q1 u.1 w.1 adK) (M00 u.2 w.2) N00 (pr false)) prm prm_nd prm_map
  have hge : ∀ i, i < 85 → s.heap.size ≤ adF q0 q1 u.1 w.1 adK i := adF_ge hD2
  have hinj : inj85 (adF q0 q1 u.1 w.1 adK) := fun i j hi hj e => hD2.1 i j _ _ (rws_get hi) (rws_get hj) e
  have hAd : ∀ q, Aad (adF q0 q1 u.1 w.1 adK) q → s.heap.size ≤ q := fun q ⟨i, hi, e⟩ => by rw [e]; exact hge i hi
  have eK : (fun i => adF q0 q1 u.1 w.1 adK (200 + i)) = adK := by
    funext i
    unfold adF
    rw [if_neg (by omega), Nat.add_sub_cancel_left]
  have hE : Ext (adF q0 q1 u.1 w.1 adK) s s.heap := ⟨hNw, ⟨adV, by rw [eK]; exact hV.narrow hAd⟩, hZ.narrow hAd, hR1, hR2, hR3⟩
  refine va_forget (fun q hq => hS.2.2 q hq) ?_
  refine W.widen (k := 85) (n := 12241) (Nat.le_of_ble_eq_true rfl) (Nat.le_of_ble_eq_true rfl) ?_
  refine lawLoop (D := D) (aC := aC) (ad := adF q0 q1 u.1 w.1 adK) ⟨C0, hK, hinj, hE, hge⟩ hL (CC := 85) (SS := 12241) (by decide) (L + 8) 0 false _ _ H [] ls (by omega) (by omega) (rel0 hwu hww) hP2 ⟨hS.1, fun q h1 h2 => hS.2.1 q h1 (Nat.not_le.mpr h1), fun q hq => by cases hq⟩ (lv_sub hl [0, 3, 2, 1] rfl)
end LE
