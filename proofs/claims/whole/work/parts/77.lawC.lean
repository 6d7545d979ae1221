section LD
variable {p : Program} {l : Launch} {e : Env} {s : State} {m : MethodId} {below : List Frame} {meth : Method} {c : Code} {b L : Nat} {xs : Nat → Int32} {D : va_G} {aC : Nat → ClassId} {ad : Nat → Nat}
theorem sub7 {L i : Nat} (hL : L ≤ 3584) (hi : i ≤ 3600) : nI L - nI 7 < nI i ↔ L < i + 7 := by
  by_cases h : 7 ≤ L
  · rw [pk_sub h, nI_ltI (by omega) (by omega)]
    omega
  · have h1 : nI L - nI 7 < 0 := pk_sneg (by decide) (by omega)
    have h2 : (0 : Int32) ≤ nI i := nI_pos' (by omega)
    exact ⟨fun _ => by omega, fun _ => Int32.lt_of_lt_of_le h1 h2⟩
set_option maxHeartbeats 8000000 in
theorem lawLoop (h : LC p s m meth c b L xs D aC ad) (hL : L ≤ 3584) {CC SS : Nat} (hCC : CC ≤ 600000 ∧ SS ≤ 7302250) : ∀ (n i : Nat) (bb : Bool) (M : Mt) (N : Nt) (H : Heap) (locs : List Loc) (ls : Array Slot), i ≤ L + 7 → L + 8 ≤ i + n → Rel bb M → va_P D vwCl (rws aC ad M N (pr bb)) H → va_S (Aad ad) s.heap H locs → lv_has ls 4 (LV b i ad) → W p l e room_1 s m #[Value.ref b] below meth c H locs CC SS (lw_Z below #[Value.ref b] s) (F0 m 18 ls []) := by
  obtain ⟨hx, hb, hrt, hml, hown, hts, hX, hbl, hlocks, hgv⟩ := id h.1
  have hbA := b_out h
  intro n
  induction n with
  | zero => intro i bb M N H locs ls h1 h2; omega
  | succ n ih =>
    intro i bb M N H locs ls hiL hin hR hP hS hl
    refine lv_iload_n hx hb dL_law_18 rfl (lv_at hl 0 rfl) ?_
    refine lv_aload_n hx hb dL_law_19 rfl (lv_at hl 1 rfl) ?_
    refine va_slen hx hb hX hbl hbA hS dL_law_20 ?_
    refine lv_bipush (v := nI 7) hx hb dL_law_21 (by decide) ?_
    refine lv_isub hx hb dL_law_23 ?_
    refine lv_icmp_gt (tgt := 929) hx hb dL_law_24 (by decide) (fun _ => ?_) (fun hlt => ?_)
    · refine lv_iconst (v := 1) hx hb dL_law_929 (by decide) ?_
      refine va_forget (fun q hq => ?_) ?_
      · obtain ⟨j, hj, e⟩ := hS.2.2 q hq
        rw [e]
        exact h.2.2.2.2 j hj
      · refine W.widen (k := 600000) (n := 7302250) hCC.1 hCC.2 ?_
        exact lw_ret hx hb hrt hlocks dL_law_930
    · have hi7 : i + 7 ≤ L := by
        have : ¬ (nI L - nI 7 < nI i) := hlt
        rw [sub7 hL (by omega)] at this
        omega
      have k923 : ∀ (bb : Bool) (M : Mt) (N : Nt) (H : Heap) (locs : List Loc), Rel bb M → va_P D vwCl (rws aC ad M N (pr bb)) H → va_S (Aad ad) s.heap H locs → W p l e room_1 s m #[Value.ref b] below meth c H locs CC SS (lw_Z below #[Value.ref b] s) (F0 m 923 ls []) := by
        intro bb M N H locs hR hP hS
        refine lv_iinc (v := nI (i + 7)) (lv' := LV b (i + 7) ad) hx hb dL_law_923 hl (k := 0) rfl (nI_add i 7) (by decide) rfl (fun ls hl => ?_)
        refine lv_goto (tgt := 18) hx hb dL_law_926 (by decide) ?_
        exact ih (i + 7) bb M N H locs ls (by omega) (by omega) hR hP hS hl
      refine lv_aload_n hx hb dL_law_27 rfl (lv_at hl 1 rfl) ?_
      refine lv_iload_n hx hb dL_law_28 rfl (lv_at hl 0 rfl) ?_
      refine va_sld hx hb hX hbl hbA hS (vp_in_nI (by omega) (by omega)) dL_law_29 ?_
      refine lv_bipush (v := 31) hx hb dL_law_30 (by decide) ?_
      refine lv_iand hx hb dL_law_32 ?_
      obtain ⟨w, hw, ew⟩ : ∃ w : Nat, w < 32 ∧ xs (nI i).toNatClampNeg &&& 31 = nI w := ⟨_, Nat.mod_lt _ (by decide), pk_and _ 5 (by decide)⟩
      rw [ew]
      by_cases q22 : 22 < w
      · refine lv_tableOut (tgt := 923) hx hb dL_law_33 (Or.inr (by rw [nI_toInt (by omega)]; omega)) (by decide) ?_
        exact k923 bb M N H locs hR hP hS
      · rcases (show w = 0 ∨ w = 1 ∨ w = 2 ∨ w = 3 ∨ w = 4 ∨ w = 5 ∨ w = 6 ∨ w = 7 ∨ w = 8 ∨ w = 9 ∨ w = 10 ∨ w = 11 ∨ w = 12 ∨ w = 13 ∨ w = 14 ∨ w = 15 ∨ w = 16 ∨ w = 17 ∨ w = 18 ∨ w = 19 ∨ w = 20 ∨ w = 21 ∨ w = 22 by omega) with rfl | rfl | rfl | rfl | rfl | rfl | rfl | rfl | rfl | rfl | rfl | rfl | rfl | rfl | rfl | rfl | rfl | rfl | rfl | rfl | rfl | rfl | rfl
        · refine lv_tableIn (off := 107) (tgt := 140) hx hb dL_law_33 (by decide) (by decide) (by decide) (by decide) ?_
          exact lb_person h hCC hL hi7 hR hP hS hl k923
        · refine lv_tableIn (off := 140) (tgt := 173) hx hb dL_law_33 (by decide) (by decide) (by decide) (by decide) ?_
          exact lb_dead h hCC hL hi7 hR hP hS hl k923
        · refine lv_tableIn (off := 173) (tgt := 206) hx hb dL_law_33 (by decide) (by decide) (by decide) (by decide) ?_
          exact lb_house h hCC hL hi7 hR hP hS hl k923
        · refine lv_tableIn (off := 206) (tgt := 239) hx hb dL_law_33 (by decide) (by decide) (by decide) (by decide) ?_
          exact lb_level h hCC hL hi7 hR hP hS hl k923
        · refine lv_tableIn (off := 239) (tgt := 272) hx hb dL_law_33 (by decide) (by decide) (by decide) (by decide) ?_
          exact lb_money h hCC hL hi7 hR hP hS hl k923
        · refine lv_tableIn (off := 283) (tgt := 316) hx hb dL_law_33 (by decide) (by decide) (by decide) (by decide) ?_
          exact lb_paper h hCC hL hi7 hR hP hS hl k923
        · refine lv_tableIn (off := 358) (tgt := 391) hx hb dL_law_33 (by decide) (by decide) (by decide) (by decide) ?_
          exact lb_isFalse h hCC hL hi7 hR hP hS hl k923
        · refine lv_tableIn (off := 381) (tgt := 414) hx hb dL_law_33 (by decide) (by decide) (by decide) (by decide) ?_
          exact lb_later h hCC hL hi7 hR hP hS hl k923
        · refine lv_tableIn (off := 404) (tgt := 437) hx hb dL_law_33 (by decide) (by decide) (by decide) (by decide) ?_
          exact lb_holder h hCC hL hi7 hR hP hS hl k923
        · refine lv_tableIn (off := 447) (tgt := 480) hx hb dL_law_33 (by decide) (by decide) (by decide) (by decide) ?_
          exact lb_loose h hCC hL hi7 hR hP hS hl k923
        · refine lv_tableIn (off := 480) (tgt := 513) hx hb dL_law_33 (by decide) (by decide) (by decide) (by decide) ?_
          exact lb_feed h hCC hL hi7 hR hP hS hl k923
        · refine lv_tableIn (off := 543) (tgt := 576) hx hb dL_law_33 (by decide) (by decide) (by decide) (by decide) ?_
          exact lb_end h hCC hL hi7 hR hP hS hl k923
        · refine lv_tableIn (off := 566) (tgt := 599) hx hb dL_law_33 (by decide) (by decide) (by decide) (by decide) ?_
          exact lb_law h hCC hL hi7 hR hP hS hl k923
        · refine lv_tableIn (off := 579) (tgt := 612) hx hb dL_law_33 (by decide) (by decide) (by decide) (by decide) ?_
          exact lb_fault h hCC hL hi7 hR hP hS hl k923
        · refine lv_tableIn (off := 602) (tgt := 635) hx hb dL_law_33 (by decide) (by decide) (by decide) (by decide) ?_
          exact lb_claim h hCC hL hi7 hR hP hS hl k923
        · refine lv_tableIn (off := 625) (tgt := 658) hx hb dL_law_33 (by decide) (by decide) (by decide) (by decide) ?_
          exact lb_ruling h hCC hL hi7 hR hP hS hl k923
        · refine lv_tableIn (off := 658) (tgt := 691) hx hb dL_law_33 (by decide) (by decide) (by decide) (by decide) ?_
          exact lb_sum h hCC hL hi7 hR hP hS hl k923
        · refine lv_tableIn (off := 691) (tgt := 724) hx hb dL_law_33 (by decide) (by decide) (by decide) (by decide) ?_
          exact lb_term h hCC hL hi7 hR hP hS hl k923
        · refine lv_tableIn (off := 734) (tgt := 767) hx hb dL_law_33 (by decide) (by decide) (by decide) (by decide) ?_
          exact lb_share h hCC hL hi7 hR hP hS hl k923
        · refine lv_tableIn (off := 788) (tgt := 821) hx hb dL_law_33 (by decide) (by decide) (by decide) (by decide) ?_
          exact lb_want h hCC hL hi7 hR hP hS hl k923
        · refine lv_tableIn (off := 831) (tgt := 864) hx hb dL_law_33 (by decide) (by decide) (by decide) (by decide) ?_
          exact lb_joy h hCC hL hi7 hR hP hS hl k923
        · refine lv_tableIn (off := 844) (tgt := 877) hx hb dL_law_33 (by decide) (by decide) (by decide) (by decide) ?_
          exact lb_swap h hCC hL hi7 hR hP hS hl k923
        · refine lv_tableIn (off := 867) (tgt := 900) hx hb dL_law_33 (by decide) (by decide) (by decide) (by decide) ?_
          exact lb_about h hCC hL hi7 hR hP hS hl k923
end LD
