theorem rws_obj {aC : Nat → ClassId} {ad : Nat → Nat} {M : Mt} {N : Nt} {P : Pt'} {o c n : Nat} (h : shk o = (c, n)) (hc : c < 13) : (rws aC ad M N P)[o]? = some (ad o, .inr (c, (List.range (kt0.getD c []).length).map (fun k => cvv ad (if fknd c k = 2 then .long (N o k) else if fknd c k = 1 then .ref (P o k) else .int (M o k))))) := by
  rw [rws_get (shk_lt h (by omega)), h]
  unfold rc
  dsimp only
  rw [if_pos (by omega)]
theorem rws_arr {aC : Nat → ClassId} {ad : Nat → Nat} {M : Mt} {N : Nt} {P : Pt'} {o c n : Nat} (h : shk o = (c, n)) (hc : ¬ c < 100) (hc2 : ¬ c = 104) (hc3 : ¬ c = 999) : (rws aC ad M N P)[o]? = some (ad o, .inl (aC c, n, .inl (M o))) := by
  rw [rws_get (shk_lt h hc3), h]
  unfold rc
  dsimp only
  rw [if_neg hc, if_neg hc2]
theorem rws_arrL {aC : Nat → ClassId} {ad : Nat → Nat} {M : Mt} {N : Nt} {P : Pt'} {o n : Nat} (h : shk o = (104, n)) : (rws aC ad M N P)[o]? = some (ad o, .inl (aC 104, n, .inr (.inl (N o)))) := by
  rw [rws_get (shk_lt h (by omega)), h]
  rfl
theorem rws_upd {aC : Nat → ClassId} {ad : Nat → Nat} {M : Mt} {N : Nt} {P : Pt'} {o c n k : Nat} {x : Int32} (h : shk o = (c, n)) (hc : ¬ c < 100) (hc2 : ¬ c = 104) (hc3 : ¬ c = 999) : (rws aC ad M N P).set o (ad o, .inl (aC c, n, .inl (upd (M o) k x))) = rws aC ad (up2 M o k x) N P := by
  refine rws_set (shk_lt h hc3) up2_ne (fun _ _ => rfl) (fun _ _ => rfl) ?_
  rw [h, up2_self]
  unfold rc
  dsimp only
  rw [if_neg hc, if_neg hc2]
  rfl
theorem rws_updL {aC : Nat → ClassId} {ad : Nat → Nat} {M : Mt} {N : Nt} {P : Pt'} {o n k : Nat} {x : Int64} (h : shk o = (104, n)) : (rws aC ad M N P).set o (ad o, .inl (aC 104, n, .inr (.inl (vp_updL (N o) k x)))) = rws aC ad M (up2 N o k x) P := by
  refine rws_set (shk_lt h (by omega)) (fun _ _ => rfl) up2_ne (fun _ _ => rfl) ?_
  rw [h, up2_self]
  rfl
theorem rws_put {aC : Nat → ClassId} {ad : Nat → Nat} {M M' : Mt} {N N' : Nt} {P P' : Pt'} {o c n k : Nat} {v : Value} (h : shk o = (c, n)) (hc : c < 13) (ho : o < 85) (hk : k < (kt0.getD c []).length) (hp : putv (fknd c k) o k v M N P M' N' P') :
    (rws aC ad M N P).set o (ad o, .inr (c, ((List.range (kt0.getD c []).length).map (fun k => cvv ad (if fknd c k = 2 then .long (N o k) else if fknd c k = 1 then .ref (P o k) else .int (M o k)))).set k (cvv ad v))) = rws aC ad M' N' P' := by
  have go : ∀ (m' : Nat → Int32) (n' : Nat → Int64) (p' : Nat → Nat), (∀ j, j < (kt0.getD c []).length → ¬ j = k → (m' j = M o j ∧ n' j = N o j ∧ p' j = P o j)) → cvv ad (if fknd c k = 2 then .long (n' k) else if fknd c k = 1 then .ref (p' k) else .int (m' k)) = cvv ad v → rc aC ad (c, n) m' n' p' = .inr (c, ((List.range (kt0.getD c []).length).map (fun k => cvv ad (if fknd c k = 2 then .long (N o k) else if fknd c k = 1 then .ref (P o k) else .int (M o k)))).set k (cvv ad v)) := by
    intro m' n' p' h1 h2
    unfold rc
    dsimp only
    rw [if_pos (by omega)]
    congr 2
    apply List.ext_getElem?
    intro j
    by_cases hj : j < (kt0.getD c []).length
    · by_cases e : k = j
      · subst e
        rw [List.getElem?_set_self (by simpa using hk), List.getElem?_map, List.getElem?_range hk, ← h2]
        rfl
      · rw [List.getElem?_set_ne e, List.getElem?_map, List.getElem?_map, List.getElem?_range hj]
        obtain ⟨g1, g2, g3⟩ := h1 j hj (Ne.symm e)
        simp only [Option.map_some, g1, g2, g3]
    · rw [List.getElem?_eq_none (by simpa using hj), List.getElem?_eq_none (by simpa using hj)]
  rcases hp with ⟨hq, x, rfl, rfl, rfl, rfl⟩ | ⟨hq, x, rfl, rfl, rfl, rfl⟩ | ⟨hq, x, rfl, rfl, rfl, rfl⟩
  · refine rws_set ho up2_ne (fun _ _ => rfl) (fun _ _ => rfl) ?_
    rw [h, up2_self]
    refine go _ _ _ (fun j _ hj => ⟨if_neg hj, rfl, rfl⟩) ?_
    rw [hq]; simp
  · refine rws_set ho (fun _ _ => rfl) (fun _ _ => rfl) up2_ne ?_
    rw [h, up2_self]
    refine go _ _ _ (fun j _ hj => ⟨rfl, rfl, if_neg hj⟩) ?_
    rw [hq]; simp
  · refine rws_set ho (fun _ _ => rfl) up2_ne (fun _ _ => rfl) ?_
    rw [h, up2_self]
    refine go _ _ _ (fun j _ hj => ⟨rfl, if_neg hj, rfl⟩) ?_
    rw [hq]; simp
theorem cls_ty {c : Nat} {C : String} {T : u_T} {n : Nat} (h : vwCl[c]? = some (C, T, n)) : ∃ ty0 : Nat → FieldType, (∀ k, k < n → parseFieldDescriptor (T k).2.2.1 = some (ty0 k)) ∧ (∀ a, a < n → ∀ b, b < n → a ≠ b → (T a).2.1 ≠ (T b).2.1) := by
  have hc := cls_lt h
  rcases (show c = 0 ∨ c = 1 ∨ c = 2 ∨ c = 3 ∨ c = 4 ∨ c = 5 ∨ c = 6 ∨ c = 7 ∨ c = 8 ∨ c = 9 ∨ c = 10 ∨ c = 11 ∨ c = 12 by omega) with rfl | rfl | rfl | rfl | rfl | rfl | rfl | rfl | rfl | rfl | rfl | rfl | rfl
  · cases h; exact ⟨tyX0, tyX0_ok, nmX0⟩
  · cases h; exact ⟨tyX1, tyX1_ok, nmX1⟩
  · cases h; exact ⟨tyX2, tyX2_ok, nmX2⟩
  · cases h; exact ⟨tyX3, tyX3_ok, nmX3⟩
  · cases h; exact ⟨tyX4, tyX4_ok, nmX4⟩
  · cases h; exact ⟨tyX5, tyX5_ok, nmX5⟩
  · cases h; exact ⟨tyX6, tyX6_ok, nmX6⟩
  · cases h; exact ⟨tyX7, tyX7_ok, nmX7⟩
  · cases h; exact ⟨tyX8, tyX8_ok, nmX8⟩
  · cases h; exact ⟨tyX9, tyX9_ok, nmX9⟩
  · cases h; exact ⟨tyX10, tyX10_ok, nmX10⟩
  · cases h; exact ⟨tyX11, tyX11_ok, nmX11⟩
  · cases h; exact ⟨tyX12, tyX12_ok, nmX12⟩
theorem cls_ws {c : Nat} {C : String} {T : u_T} {n : Nat} (h : vwCl[c]? = some (C, T, n)) : ∀ w ∈ u_ws C T n, inT w := by
  have hc := cls_lt h
  rcases (show c = 0 ∨ c = 1 ∨ c = 2 ∨ c = 3 ∨ c = 4 ∨ c = 5 ∨ c = 6 ∨ c = 7 ∨ c = 8 ∨ c = 9 ∨ c = 10 ∨ c = 11 ∨ c = 12 by omega) with rfl | rfl | rfl | rfl | rfl | rfl | rfl | rfl | rfl | rfl | rfl | rfl | rfl
  · cases h; exact twX0
  · cases h; exact twX1
  · cases h; exact twX2
  · cases h; exact twX3
  · cases h; exact twX4
  · cases h; exact twX5
  · cases h; exact twX6
  · cases h; exact twX7
  · cases h; exact twX8
  · cases h; exact twX9
  · cases h; exact twX10
  · cases h; exact twX11
  · cases h; exact twX12
theorem cvv_nar {ad : Nat → Nat} (ty : FieldType) (v : Value) (h : narrow ty v = v) : narrow ty (cvv ad v) = cvv ad v := by
  cases v <;> first | exact h | (cases ty <;> rfl)
theorem cvv_fit {ad : Nat → Nat} (ty : FieldType) (v : Value) : fits ty (cvv ad v) = fits ty v := by
  cases v <;> first | rfl | (cases ty <;> rfl)
theorem map_toList {ad : Nat → Nat} (v : Option Value) : v.toList.map (cvv ad) = (v.map (cvv ad)).toList := by cases v <;> rfl
theorem so_iconst {y : Yt} {d len pc : Nat} {L S : List Value} {M : Mt} {N : Nt} {P : Pt'} {Q : Qt} {n : Int} (hd : decode y.2.1 pc = .ok (.iconst n, len)) (h : onei (.iconst n) len d y pc L S M N P (KX y d Q) (CX d M N P) (fun v => Q v M N P)) : Xs y d pc L S M N P Q := by
  obtain ⟨rfl, h⟩ := h
  intro l p e s m args below meth c D aC ad H locs ls hC hP hS hl hn
  exact lv_iconst hC.1 hC.2.1 hd rfl (h l p e s m args below meth c D aC ad H locs ls hC hP hS hl hn)

theorem so_bipush {y : Yt} {d len pc : Nat} {L S : List Value} {M : Mt} {N : Nt} {P : Pt'} {Q : Qt} {n : Int} (hd : decode y.2.1 pc = .ok (.bipush n, len)) (h : onei (.bipush n) len d y pc L S M N P (KX y d Q) (CX d M N P) (fun v => Q v M N P)) : Xs y d pc L S M N P Q := by
  obtain ⟨rfl, h⟩ := h
  intro l p e s m args below meth c D aC ad H locs ls hC hP hS hl hn
  exact lv_bipush hC.1 hC.2.1 hd rfl (h l p e s m args below meth c D aC ad H locs ls hC hP hS hl hn)

theorem so_sipush {y : Yt} {d len pc : Nat} {L S : List Value} {M : Mt} {N : Nt} {P : Pt'} {Q : Qt} {n : Int} (hd : decode y.2.1 pc = .ok (.sipush n, len)) (h : onei (.sipush n) len d y pc L S M N P (KX y d Q) (CX d M N P) (fun v => Q v M N P)) : Xs y d pc L S M N P Q := by
  obtain ⟨rfl, h⟩ := h
  intro l p e s m args below meth c D aC ad H locs ls hC hP hS hl hn
  exact lv_sipush hC.1 hC.2.1 hd rfl (h l p e s m args below meth c D aC ad H locs ls hC hP hS hl hn)

theorem so_lconst {y : Yt} {d len pc : Nat} {L S : List Value} {M : Mt} {N : Nt} {P : Pt'} {Q : Qt} {n : Fin 2} (hd : decode y.2.1 pc = .ok (.lconst n, len)) (h : onei (.lconst n) len d y pc L S M N P (KX y d Q) (CX d M N P) (fun v => Q v M N P)) : Xs y d pc L S M N P Q := by
  obtain ⟨rfl, h⟩ := h
  intro l p e s m args below meth c D aC ad H locs ls hC hP hS hl hn
  exact lv_lconst hC.1 hC.2.1 hd rfl (h l p e s m args below meth c D aC ad H locs ls hC hP hS hl hn)

theorem so_iload_n {y : Yt} {d len pc : Nat} {L S : List Value} {M : Mt} {N : Nt} {P : Pt'} {Q : Qt} {k : Fin 4} (hd : decode y.2.1 pc = .ok (.iload_n k, len)) (h : onei (.iload_n k) len d y pc L S M N P (KX y d Q) (CX d M N P) (fun v => Q v M N P)) : Xs y d pc L S M N P Q := by
  obtain ⟨x, rfl, hx, h⟩ := h
  intro l p e s m args below meth c D aC ad H locs ls hC hP hS hl hn
  exact lv_iload_n hC.1 hC.2.1 hd rfl (lv_get (v := .int x) hl hx rfl) (h l p e s m args below meth c D aC ad H locs ls hC hP hS hl hn)

theorem so_iload {y : Yt} {d len pc : Nat} {L S : List Value} {M : Mt} {N : Nt} {P : Pt'} {Q : Qt} {k : Nat} (hd : decode y.2.1 pc = .ok (.iload k, len)) (h : onei (.iload k) len d y pc L S M N P (KX y d Q) (CX d M N P) (fun v => Q v M N P)) : Xs y d pc L S M N P Q := by
  obtain ⟨x, rfl, hx, h⟩ := h
  intro l p e s m args below meth c D aC ad H locs ls hC hP hS hl hn
  exact lv_iload hC.1 hC.2.1 hd (lv_get (v := .int x) hl hx rfl) (h l p e s m args below meth c D aC ad H locs ls hC hP hS hl hn)

theorem so_lload_n {y : Yt} {d len pc : Nat} {L S : List Value} {M : Mt} {N : Nt} {P : Pt'} {Q : Qt} {k : Fin 4} (hd : decode y.2.1 pc = .ok (.lload_n k, len)) (h : onei (.lload_n k) len d y pc L S M N P (KX y d Q) (CX d M N P) (fun v => Q v M N P)) : Xs y d pc L S M N P Q := by
  obtain ⟨x, rfl, hx, h⟩ := h
  intro l p e s m args below meth c D aC ad H locs ls hC hP hS hl hn
  exact lv_lload_n hC.1 hC.2.1 hd rfl (lv_get (v := .long x) hl hx rfl) (h l p e s m args below meth c D aC ad H locs ls hC hP hS hl hn)

theorem so_lload {y : Yt} {d len pc : Nat} {L S : List Value} {M : Mt} {N : Nt} {P : Pt'} {Q : Qt} {k : Nat} (hd : decode y.2.1 pc = .ok (.lload k, len)) (h : onei (.lload k) len d y pc L S M N P (KX y d Q) (CX d M N P) (fun v => Q v M N P)) : Xs y d pc L S M N P Q := by
  obtain ⟨x, rfl, hx, h⟩ := h
  intro l p e s m args below meth c D aC ad H locs ls hC hP hS hl hn
  exact lv_lload hC.1 hC.2.1 hd (lv_get (v := .long x) hl hx rfl) (h l p e s m args below meth c D aC ad H locs ls hC hP hS hl hn)

theorem so_aload_n {y : Yt} {d len pc : Nat} {L S : List Value} {M : Mt} {N : Nt} {P : Pt'} {Q : Qt} {k : Fin 4} (hd : decode y.2.1 pc = .ok (.aload_n k, len)) (h : onei (.aload_n k) len d y pc L S M N P (KX y d Q) (CX d M N P) (fun v => Q v M N P)) : Xs y d pc L S M N P Q := by
  obtain ⟨x, rfl, hx, h⟩ := h
  intro l p e s m args below meth c D aC ad H locs ls hC hP hS hl hn
  exact lv_aload_n hC.1 hC.2.1 hd rfl (lv_get (v := .ref x) hl hx rfl) (h l p e s m args below meth c D aC ad H locs ls hC hP hS hl hn)

theorem so_aload {y : Yt} {d len pc : Nat} {L S : List Value} {M : Mt} {N : Nt} {P : Pt'} {Q : Qt} {k : Nat} (hd : decode y.2.1 pc = .ok (.aload k, len)) (h : onei (.aload k) len d y pc L S M N P (KX y d Q) (CX d M N P) (fun v => Q v M N P)) : Xs y d pc L S M N P Q := by
  obtain ⟨x, rfl, hx, h⟩ := h
  intro l p e s m args below meth c D aC ad H locs ls hC hP hS hl hn
  exact lv_aload hC.1 hC.2.1 hd (lv_get (v := .ref x) hl hx rfl) (h l p e s m args below meth c D aC ad H locs ls hC hP hS hl hn)

theorem so_istore_n {y : Yt} {d len pc : Nat} {L S : List Value} {M : Mt} {N : Nt} {P : Pt'} {Q : Qt} {k : Fin 4} (hd : decode y.2.1 pc = .ok (.istore_n k, len)) (h : onei (.istore_n k) len d y pc L S M N P (KX y d Q) (CX d M N P) (fun v => Q v M N P)) : Xs y d pc L S M N P Q := by
  obtain ⟨x, S', rfl, rfl, hk, ho, h⟩ := h
  intro l p e s m args below meth c D aC ad H locs ls hC hP hS hl hn
  exact lv_istore_n hC.1 hC.2.1 hd rfl hl (by rw [← hn]; exact hk) rfl (fun ls2 hl2 => (h l p e s m args below meth c D aC ad H locs ls2 hC hP hS (lv_put1 (v := .int x) ho hl2) (by rw [List.length_set]; exact hn)))

theorem so_istore {y : Yt} {d len pc : Nat} {L S : List Value} {M : Mt} {N : Nt} {P : Pt'} {Q : Qt} {k : Nat} (hd : decode y.2.1 pc = .ok (.istore k, len)) (h : onei (.istore k) len d y pc L S M N P (KX y d Q) (CX d M N P) (fun v => Q v M N P)) : Xs y d pc L S M N P Q := by
  obtain ⟨x, S', rfl, rfl, hk, ho, h⟩ := h
  intro l p e s m args below meth c D aC ad H locs ls hC hP hS hl hn
  exact lv_istore hC.1 hC.2.1 hd hl (by rw [← hn]; exact hk) rfl (fun ls2 hl2 => (h l p e s m args below meth c D aC ad H locs ls2 hC hP hS (lv_put1 (v := .int x) ho hl2) (by rw [List.length_set]; exact hn)))

theorem so_astore_n {y : Yt} {d len pc : Nat} {L S : List Value} {M : Mt} {N : Nt} {P : Pt'} {Q : Qt} {k : Fin 4} (hd : decode y.2.1 pc = .ok (.astore_n k, len)) (h : onei (.astore_n k) len d y pc L S M N P (KX y d Q) (CX d M N P) (fun v => Q v M N P)) : Xs y d pc L S M N P Q := by
  obtain ⟨x, S', rfl, rfl, hk, ho, h⟩ := h
  intro l p e s m args below meth c D aC ad H locs ls hC hP hS hl hn
  exact lv_astore_n hC.1 hC.2.1 hd rfl hl (by rw [← hn]; exact hk) rfl (fun ls2 hl2 => (h l p e s m args below meth c D aC ad H locs ls2 hC hP hS (lv_put1 (v := .ref x) ho hl2) (by rw [List.length_set]; exact hn)))

theorem so_astore {y : Yt} {d len pc : Nat} {L S : List Value} {M : Mt} {N : Nt} {P : Pt'} {Q : Qt} {k : Nat} (hd : decode y.2.1 pc = .ok (.astore k, len)) (h : onei (.astore k) len d y pc L S M N P (KX y d Q) (CX d M N P) (fun v => Q v M N P)) : Xs y d pc L S M N P Q := by
  obtain ⟨x, S', rfl, rfl, hk, ho, h⟩ := h
  intro l p e s m args below meth c D aC ad H locs ls hC hP hS hl hn
  exact lv_astore hC.1 hC.2.1 hd hl (by rw [← hn]; exact hk) rfl (fun ls2 hl2 => (h l p e s m args below meth c D aC ad H locs ls2 hC hP hS (lv_put1 (v := .ref x) ho hl2) (by rw [List.length_set]; exact hn)))

theorem so_lstore_n {y : Yt} {d len pc : Nat} {L S : List Value} {M : Mt} {N : Nt} {P : Pt'} {Q : Qt} {k : Fin 4} (hd : decode y.2.1 pc = .ok (.lstore_n k, len)) (h : onei (.lstore_n k) len d y pc L S M N P (KX y d Q) (CX d M N P) (fun v => Q v M N P)) : Xs y d pc L S M N P Q := by
  obtain ⟨x, S', rfl, rfl, hk, ho, h⟩ := h
  intro l p e s m args below meth c D aC ad H locs ls hC hP hS hl hn
  exact lv_lstore_n hC.1 hC.2.1 hd rfl hl (by rw [← hn]; exact hk) rfl (fun ls2 hl2 => (h l p e s m args below meth c D aC ad H locs ls2 hC hP hS (lv_put2 ho hl2) (by rw [List.length_set, List.length_set]; exact hn)))

theorem so_lstore {y : Yt} {d len pc : Nat} {L S : List Value} {M : Mt} {N : Nt} {P : Pt'} {Q : Qt} {k : Nat} (hd : decode y.2.1 pc = .ok (.lstore k, len)) (h : onei (.lstore k) len d y pc L S M N P (KX y d Q) (CX d M N P) (fun v => Q v M N P)) : Xs y d pc L S M N P Q := by
  obtain ⟨x, S', rfl, rfl, hk, ho, h⟩ := h
  intro l p e s m args below meth c D aC ad H locs ls hC hP hS hl hn
  exact lv_lstore hC.1 hC.2.1 hd hl (by rw [← hn]; exact hk) rfl (fun ls2 hl2 => (h l p e s m args below meth c D aC ad H locs ls2 hC hP hS (lv_put2 ho hl2) (by rw [List.length_set, List.length_set]; exact hn)))

theorem so_iinc {y : Yt} {d len pc : Nat} {L S : List Value} {M : Mt} {N : Nt} {P : Pt'} {Q : Qt} {k : Nat} {n : Int} (hd : decode y.2.1 pc = .ok (.iinc k n, len)) (h : onei (.iinc k n) len d y pc L S M N P (KX y d Q) (CX d M N P) (fun v => Q v M N P)) : Xs y d pc L S M N P Q := by
  obtain ⟨x, rfl, hx, ho, h⟩ := h
  intro l p e s m args below meth c D aC ad H locs ls hC hP hS hl hn
  have hm : (k, Value.int x) ∈ lvs ad L := mem_lvs.mpr ⟨.int x, hx, rfl, rfl⟩
  obtain ⟨j, hj⟩ := List.getElem?_of_mem hm
  exact lv_iinc hC.1 hC.2.1 hd hl hj rfl (by rw [← hn]; exact (List.getElem?_eq_some_iff.mp hx).1) rfl (fun ls2 hl2 => (h l p e s m args below meth c D aC ad H locs ls2 hC hP hS (lv_put1 (v := .int (x + Int32.ofInt n)) ho hl2) (by rw [List.length_set]; exact hn)))

theorem so_iadd {y : Yt} {d len pc : Nat} {L S : List Value} {M : Mt} {N : Nt} {P : Pt'} {Q : Qt} (hd : decode y.2.1 pc = .ok (.iadd, len)) (h : onei (.iadd) len d y pc L S M N P (KX y d Q) (CX d M N P) (fun v => Q v M N P)) : Xs y d pc L S M N P Q := by
  obtain ⟨x, z, S', rfl, rfl, h⟩ := h
  intro l p e s m args below meth c D aC ad H locs ls hC hP hS hl hn
  exact lv_iadd hC.1 hC.2.1 hd (h l p e s m args below meth c D aC ad H locs ls hC hP hS hl hn)

theorem so_isub {y : Yt} {d len pc : Nat} {L S : List Value} {M : Mt} {N : Nt} {P : Pt'} {Q : Qt} (hd : decode y.2.1 pc = .ok (.isub, len)) (h : onei (.isub) len d y pc L S M N P (KX y d Q) (CX d M N P) (fun v => Q v M N P)) : Xs y d pc L S M N P Q := by
  obtain ⟨x, z, S', rfl, rfl, h⟩ := h
  intro l p e s m args below meth c D aC ad H locs ls hC hP hS hl hn
  exact lv_isub hC.1 hC.2.1 hd (h l p e s m args below meth c D aC ad H locs ls hC hP hS hl hn)

theorem so_imul {y : Yt} {d len pc : Nat} {L S : List Value} {M : Mt} {N : Nt} {P : Pt'} {Q : Qt} (hd : decode y.2.1 pc = .ok (.imul, len)) (h : onei (.imul) len d y pc L S M N P (KX y d Q) (CX d M N P) (fun v => Q v M N P)) : Xs y d pc L S M N P Q := by
  obtain ⟨x, z, S', rfl, rfl, h⟩ := h
  intro l p e s m args below meth c D aC ad H locs ls hC hP hS hl hn
  exact lv_imul hC.1 hC.2.1 hd (h l p e s m args below meth c D aC ad H locs ls hC hP hS hl hn)

theorem so_iand {y : Yt} {d len pc : Nat} {L S : List Value} {M : Mt} {N : Nt} {P : Pt'} {Q : Qt} (hd : decode y.2.1 pc = .ok (.iand, len)) (h : onei (.iand) len d y pc L S M N P (KX y d Q) (CX d M N P) (fun v => Q v M N P)) : Xs y d pc L S M N P Q := by
  obtain ⟨x, z, S', rfl, rfl, h⟩ := h
  intro l p e s m args below meth c D aC ad H locs ls hC hP hS hl hn
  exact lv_iand hC.1 hC.2.1 hd (h l p e s m args below meth c D aC ad H locs ls hC hP hS hl hn)

theorem so_ior {y : Yt} {d len pc : Nat} {L S : List Value} {M : Mt} {N : Nt} {P : Pt'} {Q : Qt} (hd : decode y.2.1 pc = .ok (.ior, len)) (h : onei (.ior) len d y pc L S M N P (KX y d Q) (CX d M N P) (fun v => Q v M N P)) : Xs y d pc L S M N P Q := by
  obtain ⟨x, z, S', rfl, rfl, h⟩ := h
  intro l p e s m args below meth c D aC ad H locs ls hC hP hS hl hn
  exact lv_ior hC.1 hC.2.1 hd (h l p e s m args below meth c D aC ad H locs ls hC hP hS hl hn)

theorem so_ishl {y : Yt} {d len pc : Nat} {L S : List Value} {M : Mt} {N : Nt} {P : Pt'} {Q : Qt} (hd : decode y.2.1 pc = .ok (.ishl, len)) (h : onei (.ishl) len d y pc L S M N P (KX y d Q) (CX d M N P) (fun v => Q v M N P)) : Xs y d pc L S M N P Q := by
  obtain ⟨x, z, S', rfl, rfl, h⟩ := h
  intro l p e s m args below meth c D aC ad H locs ls hC hP hS hl hn
  exact lv_ishl hC.1 hC.2.1 hd (h l p e s m args below meth c D aC ad H locs ls hC hP hS hl hn)

theorem so_ishr {y : Yt} {d len pc : Nat} {L S : List Value} {M : Mt} {N : Nt} {P : Pt'} {Q : Qt} (hd : decode y.2.1 pc = .ok (.ishr, len)) (h : onei (.ishr) len d y pc L S M N P (KX y d Q) (CX d M N P) (fun v => Q v M N P)) : Xs y d pc L S M N P Q := by
  obtain ⟨x, z, S', rfl, rfl, h⟩ := h
  intro l p e s m args below meth c D aC ad H locs ls hC hP hS hl hn
  exact lv_ishr hC.1 hC.2.1 hd (h l p e s m args below meth c D aC ad H locs ls hC hP hS hl hn)

theorem so_iushr {y : Yt} {d len pc : Nat} {L S : List Value} {M : Mt} {N : Nt} {P : Pt'} {Q : Qt} (hd : decode y.2.1 pc = .ok (.iushr, len)) (h : onei (.iushr) len d y pc L S M N P (KX y d Q) (CX d M N P) (fun v => Q v M N P)) : Xs y d pc L S M N P Q := by
  obtain ⟨x, z, S', rfl, rfl, h⟩ := h
  intro l p e s m args below meth c D aC ad H locs ls hC hP hS hl hn
  exact lv_iushr hC.1 hC.2.1 hd rfl (h l p e s m args below meth c D aC ad H locs ls hC hP hS hl hn)

theorem so_idiv {y : Yt} {d len pc : Nat} {L S : List Value} {M : Mt} {N : Nt} {P : Pt'} {Q : Qt} (hd : decode y.2.1 pc = .ok (.idiv, len)) (h : onei (.idiv) len d y pc L S M N P (KX y d Q) (CX d M N P) (fun v => Q v M N P)) : Xs y d pc L S M N P Q := by
  obtain ⟨x, z, S', rfl, rfl, hz, h⟩ := h
  intro l p e s m args below meth c D aC ad H locs ls hC hP hS hl hn
  exact lv_idiv hC.1 hC.2.1 hd hz (h l p e s m args below meth c D aC ad H locs ls hC hP hS hl hn)

theorem so_irem {y : Yt} {d len pc : Nat} {L S : List Value} {M : Mt} {N : Nt} {P : Pt'} {Q : Qt} (hd : decode y.2.1 pc = .ok (.irem, len)) (h : onei (.irem) len d y pc L S M N P (KX y d Q) (CX d M N P) (fun v => Q v M N P)) : Xs y d pc L S M N P Q := by
  obtain ⟨x, z, S', rfl, rfl, hz, h⟩ := h
  intro l p e s m args below meth c D aC ad H locs ls hC hP hS hl hn
  exact lv_irem hC.1 hC.2.1 hd hz (h l p e s m args below meth c D aC ad H locs ls hC hP hS hl hn)

theorem so_ldiv {y : Yt} {d len pc : Nat} {L S : List Value} {M : Mt} {N : Nt} {P : Pt'} {Q : Qt} (hd : decode y.2.1 pc = .ok (.ldiv, len)) (h : onei (.ldiv) len d y pc L S M N P (KX y d Q) (CX d M N P) (fun v => Q v M N P)) : Xs y d pc L S M N P Q := by
  obtain ⟨x, z, S', rfl, rfl, hz, h⟩ := h
  intro l p e s m args below meth c D aC ad H locs ls hC hP hS hl hn
  exact lv_ldiv hC.1 hC.2.1 hd hz (h l p e s m args below meth c D aC ad H locs ls hC hP hS hl hn)

theorem so_lrem {y : Yt} {d len pc : Nat} {L S : List Value} {M : Mt} {N : Nt} {P : Pt'} {Q : Qt} (hd : decode y.2.1 pc = .ok (.lrem, len)) (h : onei (.lrem) len d y pc L S M N P (KX y d Q) (CX d M N P) (fun v => Q v M N P)) : Xs y d pc L S M N P Q := by
  obtain ⟨x, z, S', rfl, rfl, hz, h⟩ := h
  intro l p e s m args below meth c D aC ad H locs ls hC hP hS hl hn
  exact lv_lrem hC.1 hC.2.1 hd hz (h l p e s m args below meth c D aC ad H locs ls hC hP hS hl hn)

theorem so_ladd {y : Yt} {d len pc : Nat} {L S : List Value} {M : Mt} {N : Nt} {P : Pt'} {Q : Qt} (hd : decode y.2.1 pc = .ok (.ladd, len)) (h : onei (.ladd) len d y pc L S M N P (KX y d Q) (CX d M N P) (fun v => Q v M N P)) : Xs y d pc L S M N P Q := by
  obtain ⟨x, z, S', rfl, rfl, h⟩ := h
  intro l p e s m args below meth c D aC ad H locs ls hC hP hS hl hn
  exact lv_ladd hC.1 hC.2.1 hd (h l p e s m args below meth c D aC ad H locs ls hC hP hS hl hn)

theorem so_lsub {y : Yt} {d len pc : Nat} {L S : List Value} {M : Mt} {N : Nt} {P : Pt'} {Q : Qt} (hd : decode y.2.1 pc = .ok (.lsub, len)) (h : onei (.lsub) len d y pc L S M N P (KX y d Q) (CX d M N P) (fun v => Q v M N P)) : Xs y d pc L S M N P Q := by
  obtain ⟨x, z, S', rfl, rfl, h⟩ := h
  intro l p e s m args below meth c D aC ad H locs ls hC hP hS hl hn
  exact lv_lsub hC.1 hC.2.1 hd (h l p e s m args below meth c D aC ad H locs ls hC hP hS hl hn)

theorem so_lmul {y : Yt} {d len pc : Nat} {L S : List Value} {M : Mt} {N : Nt} {P : Pt'} {Q : Qt} (hd : decode y.2.1 pc = .ok (.lmul, len)) (h : onei (.lmul) len d y pc L S M N P (KX y d Q) (CX d M N P) (fun v => Q v M N P)) : Xs y d pc L S M N P Q := by
  obtain ⟨x, z, S', rfl, rfl, h⟩ := h
  intro l p e s m args below meth c D aC ad H locs ls hC hP hS hl hn
  exact lv_lmul hC.1 hC.2.1 hd (h l p e s m args below meth c D aC ad H locs ls hC hP hS hl hn)

theorem so_lor {y : Yt} {d len pc : Nat} {L S : List Value} {M : Mt} {N : Nt} {P : Pt'} {Q : Qt} (hd : decode y.2.1 pc = .ok (.lor, len)) (h : onei (.lor) len d y pc L S M N P (KX y d Q) (CX d M N P) (fun v => Q v M N P)) : Xs y d pc L S M N P Q := by
  obtain ⟨x, z, S', rfl, rfl, h⟩ := h
  intro l p e s m args below meth c D aC ad H locs ls hC hP hS hl hn
  exact lv_lor hC.1 hC.2.1 hd (h l p e s m args below meth c D aC ad H locs ls hC hP hS hl hn)

theorem so_lshl {y : Yt} {d len pc : Nat} {L S : List Value} {M : Mt} {N : Nt} {P : Pt'} {Q : Qt} (hd : decode y.2.1 pc = .ok (.lshl, len)) (h : onei (.lshl) len d y pc L S M N P (KX y d Q) (CX d M N P) (fun v => Q v M N P)) : Xs y d pc L S M N P Q := by
  obtain ⟨x, z, S', rfl, rfl, h⟩ := h
  intro l p e s m args below meth c D aC ad H locs ls hC hP hS hl hn
  exact lv_lshl hC.1 hC.2.1 hd rfl (h l p e s m args below meth c D aC ad H locs ls hC hP hS hl hn)

theorem so_lcmp {y : Yt} {d len pc : Nat} {L S : List Value} {M : Mt} {N : Nt} {P : Pt'} {Q : Qt} (hd : decode y.2.1 pc = .ok (.lcmp, len)) (h : onei (.lcmp) len d y pc L S M N P (KX y d Q) (CX d M N P) (fun v => Q v M N P)) : Xs y d pc L S M N P Q := by
  obtain ⟨x, z, S', rfl, rfl, h⟩ := h
  intro l p e s m args below meth c D aC ad H locs ls hC hP hS hl hn
  exact W.lcmp hC.1 hC.2.1 hd (h l p e s m args below meth c D aC ad H locs ls hC hP hS hl hn)

theorem so_i2l {y : Yt} {d len pc : Nat} {L S : List Value} {M : Mt} {N : Nt} {P : Pt'} {Q : Qt} (hd : decode y.2.1 pc = .ok (.i2l, len)) (h : onei (.i2l) len d y pc L S M N P (KX y d Q) (CX d M N P) (fun v => Q v M N P)) : Xs y d pc L S M N P Q := by
  obtain ⟨x, S', rfl, rfl, h⟩ := h
  intro l p e s m args below meth c D aC ad H locs ls hC hP hS hl hn
  exact lv_i2l hC.1 hC.2.1 hd rfl (h l p e s m args below meth c D aC ad H locs ls hC hP hS hl hn)

theorem so_l2i {y : Yt} {d len pc : Nat} {L S : List Value} {M : Mt} {N : Nt} {P : Pt'} {Q : Qt} (hd : decode y.2.1 pc = .ok (.l2i, len)) (h : onei (.l2i) len d y pc L S M N P (KX y d Q) (CX d M N P) (fun v => Q v M N P)) : Xs y d pc L S M N P Q := by
  obtain ⟨x, S', rfl, rfl, h⟩ := h
  intro l p e s m args below meth c D aC ad H locs ls hC hP hS hl hn
  exact lv_l2i hC.1 hC.2.1 hd rfl (h l p e s m args below meth c D aC ad H locs ls hC hP hS hl hn)

theorem so_i2b {y : Yt} {d len pc : Nat} {L S : List Value} {M : Mt} {N : Nt} {P : Pt'} {Q : Qt} (hd : decode y.2.1 pc = .ok (.i2b, len)) (h : onei (.i2b) len d y pc L S M N P (KX y d Q) (CX d M N P) (fun v => Q v M N P)) : Xs y d pc L S M N P Q := by
  obtain ⟨x, S', rfl, rfl, h⟩ := h
  intro l p e s m args below meth c D aC ad H locs ls hC hP hS hl hn
  exact lv_i2b hC.1 hC.2.1 hd rfl (h l p e s m args below meth c D aC ad H locs ls hC hP hS hl hn)

theorem so_i2s {y : Yt} {d len pc : Nat} {L S : List Value} {M : Mt} {N : Nt} {P : Pt'} {Q : Qt} (hd : decode y.2.1 pc = .ok (.i2s, len)) (h : onei (.i2s) len d y pc L S M N P (KX y d Q) (CX d M N P) (fun v => Q v M N P)) : Xs y d pc L S M N P Q := by
  obtain ⟨x, S', rfl, rfl, h⟩ := h
  intro l p e s m args below meth c D aC ad H locs ls hC hP hS hl hn
  exact lv_i2s hC.1 hC.2.1 hd rfl (h l p e s m args below meth c D aC ad H locs ls hC hP hS hl hn)

theorem so_i2c {y : Yt} {d len pc : Nat} {L S : List Value} {M : Mt} {N : Nt} {P : Pt'} {Q : Qt} (hd : decode y.2.1 pc = .ok (.i2c, len)) (h : onei (.i2c) len d y pc L S M N P (KX y d Q) (CX d M N P) (fun v => Q v M N P)) : Xs y d pc L S M N P Q := by
  obtain ⟨x, S', rfl, rfl, h⟩ := h
  intro l p e s m args below meth c D aC ad H locs ls hC hP hS hl hn
  exact lv_i2c hC.1 hC.2.1 hd rfl (h l p e s m args below meth c D aC ad H locs ls hC hP hS hl hn)

theorem so_dup {y : Yt} {d len pc : Nat} {L S : List Value} {M : Mt} {N : Nt} {P : Pt'} {Q : Qt} (hd : decode y.2.1 pc = .ok (.dup, len)) (h : onei (.dup) len d y pc L S M N P (KX y d Q) (CX d M N P) (fun v => Q v M N P)) : Xs y d pc L S M N P Q := by
  obtain ⟨v, S', rfl, rfl, hv, h⟩ := h
  intro l p e s m args below meth c D aC ad H locs ls hC hP hS hl hn
  exact lv_dup hC.1 hC.2.1 hd (by rw [cvv_cat]; exact hv) (h l p e s m args below meth c D aC ad H locs ls hC hP hS hl hn)

theorem so_dup2 {y : Yt} {d len pc : Nat} {L S : List Value} {M : Mt} {N : Nt} {P : Pt'} {Q : Qt} (hd : decode y.2.1 pc = .ok (.dup2, len)) (h : onei (.dup2) len d y pc L S M N P (KX y d Q) (CX d M N P) (fun v => Q v M N P)) : Xs y d pc L S M N P Q := by
  obtain ⟨v, u, S', rfl, rfl, hv, hu, h⟩ := h
  intro l p e s m args below meth c D aC ad H locs ls hC hP hS hl hn
  exact lv_dup2_11 hC.1 hC.2.1 hd (by rw [cvv_cat]; exact hv) (by rw [cvv_cat]; exact hu) (h l p e s m args below meth c D aC ad H locs ls hC hP hS hl hn)

theorem so_pop {y : Yt} {d len pc : Nat} {L S : List Value} {M : Mt} {N : Nt} {P : Pt'} {Q : Qt} (hd : decode y.2.1 pc = .ok (.pop, len)) (h : onei (.pop) len d y pc L S M N P (KX y d Q) (CX d M N P) (fun v => Q v M N P)) : Xs y d pc L S M N P Q := by
  obtain ⟨v, S', rfl, rfl, hv, h⟩ := h
  intro l p e s m args below meth c D aC ad H locs ls hC hP hS hl hn
  exact lv_pop hC.1 hC.2.1 hd (by rw [cvv_cat]; exact hv) (h l p e s m args below meth c D aC ad H locs ls hC hP hS hl hn)

theorem so_if_eq {y : Yt} {d len pc : Nat} {L S : List Value} {M : Mt} {N : Nt} {P : Pt'} {Q : Qt} {off : Int} (hd : decode y.2.1 pc = .ok (.ifCond .eq off, len)) (h : onei (.ifCond .eq off) len d y pc L S M N P (KX y d Q) (CX d M N P) (fun v => Q v M N P)) : Xs y d pc L S M N P Q := by
  obtain ⟨x, S', t, rfl, rfl, ht, h⟩ := h
  intro l p e s m args below meth c D aC ad H locs ls hC hP hS hl hn
  exact lv_if_eq (tgt := t) hC.1 hC.2.1 hd ht (fun q => by rw [if_pos q] at h; exact h l p e s m args below meth c D aC ad H locs ls hC hP hS hl hn) (fun q => by rw [if_neg q] at h; exact h l p e s m args below meth c D aC ad H locs ls hC hP hS hl hn)

theorem so_if_ne {y : Yt} {d len pc : Nat} {L S : List Value} {M : Mt} {N : Nt} {P : Pt'} {Q : Qt} {off : Int} (hd : decode y.2.1 pc = .ok (.ifCond .ne off, len)) (h : onei (.ifCond .ne off) len d y pc L S M N P (KX y d Q) (CX d M N P) (fun v => Q v M N P)) : Xs y d pc L S M N P Q := by
  obtain ⟨x, S', t, rfl, rfl, ht, h⟩ := h
  intro l p e s m args below meth c D aC ad H locs ls hC hP hS hl hn
  exact lv_if_ne (tgt := t) hC.1 hC.2.1 hd ht (fun q => by rw [if_neg q] at h; exact h l p e s m args below meth c D aC ad H locs ls hC hP hS hl hn) (fun q => by rw [if_pos q] at h; exact h l p e s m args below meth c D aC ad H locs ls hC hP hS hl hn)

theorem so_if_lt {y : Yt} {d len pc : Nat} {L S : List Value} {M : Mt} {N : Nt} {P : Pt'} {Q : Qt} {off : Int} (hd : decode y.2.1 pc = .ok (.ifCond .lt off, len)) (h : onei (.ifCond .lt off) len d y pc L S M N P (KX y d Q) (CX d M N P) (fun v => Q v M N P)) : Xs y d pc L S M N P Q := by
  obtain ⟨x, S', t, rfl, rfl, ht, h⟩ := h
  intro l p e s m args below meth c D aC ad H locs ls hC hP hS hl hn
  exact lv_if_lt (tgt := t) hC.1 hC.2.1 hd ht (fun q => by rw [if_pos q] at h; exact h l p e s m args below meth c D aC ad H locs ls hC hP hS hl hn) (fun q => by rw [if_neg q] at h; exact h l p e s m args below meth c D aC ad H locs ls hC hP hS hl hn)

theorem so_if_ge {y : Yt} {d len pc : Nat} {L S : List Value} {M : Mt} {N : Nt} {P : Pt'} {Q : Qt} {off : Int} (hd : decode y.2.1 pc = .ok (.ifCond .ge off, len)) (h : onei (.ifCond .ge off) len d y pc L S M N P (KX y d Q) (CX d M N P) (fun v => Q v M N P)) : Xs y d pc L S M N P Q := by
  obtain ⟨x, S', t, rfl, rfl, ht, h⟩ := h
  intro l p e s m args below meth c D aC ad H locs ls hC hP hS hl hn
  exact lv_if_ge (tgt := t) hC.1 hC.2.1 hd ht (fun q => by rw [if_pos q] at h; exact h l p e s m args below meth c D aC ad H locs ls hC hP hS hl hn) (fun q => by rw [if_neg q] at h; exact h l p e s m args below meth c D aC ad H locs ls hC hP hS hl hn)

theorem so_if_gt {y : Yt} {d len pc : Nat} {L S : List Value} {M : Mt} {N : Nt} {P : Pt'} {Q : Qt} {off : Int} (hd : decode y.2.1 pc = .ok (.ifCond .gt off, len)) (h : onei (.ifCond .gt off) len d y pc L S M N P (KX y d Q) (CX d M N P) (fun v => Q v M N P)) : Xs y d pc L S M N P Q := by
  obtain ⟨x, S', t, rfl, rfl, ht, h⟩ := h
  intro l p e s m args below meth c D aC ad H locs ls hC hP hS hl hn
  exact lv_if_gt (tgt := t) hC.1 hC.2.1 hd ht (fun q => by rw [if_pos q] at h; exact h l p e s m args below meth c D aC ad H locs ls hC hP hS hl hn) (fun q => by rw [if_neg q] at h; exact h l p e s m args below meth c D aC ad H locs ls hC hP hS hl hn)

theorem so_if_le {y : Yt} {d len pc : Nat} {L S : List Value} {M : Mt} {N : Nt} {P : Pt'} {Q : Qt} {off : Int} (hd : decode y.2.1 pc = .ok (.ifCond .le off, len)) (h : onei (.ifCond .le off) len d y pc L S M N P (KX y d Q) (CX d M N P) (fun v => Q v M N P)) : Xs y d pc L S M N P Q := by
  obtain ⟨x, S', t, rfl, rfl, ht, h⟩ := h
  intro l p e s m args below meth c D aC ad H locs ls hC hP hS hl hn
  exact lv_if_le (tgt := t) hC.1 hC.2.1 hd ht (fun q => by rw [if_pos q] at h; exact h l p e s m args below meth c D aC ad H locs ls hC hP hS hl hn) (fun q => by rw [if_neg q] at h; exact h l p e s m args below meth c D aC ad H locs ls hC hP hS hl hn)

theorem so_icmp_eq {y : Yt} {d len pc : Nat} {L S : List Value} {M : Mt} {N : Nt} {P : Pt'} {Q : Qt} {off : Int} (hd : decode y.2.1 pc = .ok (.if_icmp .eq off, len)) (h : onei (.if_icmp .eq off) len d y pc L S M N P (KX y d Q) (CX d M N P) (fun v => Q v M N P)) : Xs y d pc L S M N P Q := by
  obtain ⟨x, z, S', t, rfl, rfl, ht, h⟩ := h
  intro l p e s m args below meth c D aC ad H locs ls hC hP hS hl hn
  exact lv_icmp_eq (tgt := t) hC.1 hC.2.1 hd ht (fun q => by rw [if_pos q] at h; exact h l p e s m args below meth c D aC ad H locs ls hC hP hS hl hn) (fun q => by rw [if_neg q] at h; exact h l p e s m args below meth c D aC ad H locs ls hC hP hS hl hn)

theorem so_icmp_ne {y : Yt} {d len pc : Nat} {L S : List Value} {M : Mt} {N : Nt} {P : Pt'} {Q : Qt} {off : Int} (hd : decode y.2.1 pc = .ok (.if_icmp .ne off, len)) (h : onei (.if_icmp .ne off) len d y pc L S M N P (KX y d Q) (CX d M N P) (fun v => Q v M N P)) : Xs y d pc L S M N P Q := by
  obtain ⟨x, z, S', t, rfl, rfl, ht, h⟩ := h
  intro l p e s m args below meth c D aC ad H locs ls hC hP hS hl hn
  exact lv_icmp_ne (tgt := t) hC.1 hC.2.1 hd ht (fun q => by rw [if_neg q] at h; exact h l p e s m args below meth c D aC ad H locs ls hC hP hS hl hn) (fun q => by rw [if_pos q] at h; exact h l p e s m args below meth c D aC ad H locs ls hC hP hS hl hn)

theorem so_icmp_lt {y : Yt} {d len pc : Nat} {L S : List Value} {M : Mt} {N : Nt} {P : Pt'} {Q : Qt} {off : Int} (hd : decode y.2.1 pc = .ok (.if_icmp .lt off, len)) (h : onei (.if_icmp .lt off) len d y pc L S M N P (KX y d Q) (CX d M N P) (fun v => Q v M N P)) : Xs y d pc L S M N P Q := by
  obtain ⟨x, z, S', t, rfl, rfl, ht, h⟩ := h
  intro l p e s m args below meth c D aC ad H locs ls hC hP hS hl hn
  exact lv_icmp_lt (tgt := t) hC.1 hC.2.1 hd ht (fun q => by rw [if_pos q] at h; exact h l p e s m args below meth c D aC ad H locs ls hC hP hS hl hn) (fun q => by rw [if_neg q] at h; exact h l p e s m args below meth c D aC ad H locs ls hC hP hS hl hn)

theorem so_icmp_ge {y : Yt} {d len pc : Nat} {L S : List Value} {M : Mt} {N : Nt} {P : Pt'} {Q : Qt} {off : Int} (hd : decode y.2.1 pc = .ok (.if_icmp .ge off, len)) (h : onei (.if_icmp .ge off) len d y pc L S M N P (KX y d Q) (CX d M N P) (fun v => Q v M N P)) : Xs y d pc L S M N P Q := by
  obtain ⟨x, z, S', t, rfl, rfl, ht, h⟩ := h
  intro l p e s m args below meth c D aC ad H locs ls hC hP hS hl hn
  exact lv_icmp_ge (tgt := t) hC.1 hC.2.1 hd ht (fun q => by rw [if_pos q] at h; exact h l p e s m args below meth c D aC ad H locs ls hC hP hS hl hn) (fun q => by rw [if_neg q] at h; exact h l p e s m args below meth c D aC ad H locs ls hC hP hS hl hn)

theorem so_icmp_gt {y : Yt} {d len pc : Nat} {L S : List Value} {M : Mt} {N : Nt} {P : Pt'} {Q : Qt} {off : Int} (hd : decode y.2.1 pc = .ok (.if_icmp .gt off, len)) (h : onei (.if_icmp .gt off) len d y pc L S M N P (KX y d Q) (CX d M N P) (fun v => Q v M N P)) : Xs y d pc L S M N P Q := by
  obtain ⟨x, z, S', t, rfl, rfl, ht, h⟩ := h
  intro l p e s m args below meth c D aC ad H locs ls hC hP hS hl hn
  exact lv_icmp_gt (tgt := t) hC.1 hC.2.1 hd ht (fun q => by rw [if_pos q] at h; exact h l p e s m args below meth c D aC ad H locs ls hC hP hS hl hn) (fun q => by rw [if_neg q] at h; exact h l p e s m args below meth c D aC ad H locs ls hC hP hS hl hn)

theorem so_icmp_le {y : Yt} {d len pc : Nat} {L S : List Value} {M : Mt} {N : Nt} {P : Pt'} {Q : Qt} {off : Int} (hd : decode y.2.1 pc = .ok (.if_icmp .le off, len)) (h : onei (.if_icmp .le off) len d y pc L S M N P (KX y d Q) (CX d M N P) (fun v => Q v M N P)) : Xs y d pc L S M N P Q := by
  obtain ⟨x, z, S', t, rfl, rfl, ht, h⟩ := h
  intro l p e s m args below meth c D aC ad H locs ls hC hP hS hl hn
  exact lv_icmp_le (tgt := t) hC.1 hC.2.1 hd ht (fun q => by rw [if_pos q] at h; exact h l p e s m args below meth c D aC ad H locs ls hC hP hS hl hn) (fun q => by rw [if_neg q] at h; exact h l p e s m args below meth c D aC ad H locs ls hC hP hS hl hn)

theorem so_goto {y : Yt} {d len pc : Nat} {L S : List Value} {M : Mt} {N : Nt} {P : Pt'} {Q : Qt} {off : Int} (hd : decode y.2.1 pc = .ok (.goto off, len)) (h : onei (.goto off) len d y pc L S M N P (KX y d Q) (CX d M N P) (fun v => Q v M N P)) : Xs y d pc L S M N P Q := by
  obtain ⟨t, rfl, ht, h⟩ := h
  intro l p e s m args below meth c D aC ad H locs ls hC hP hS hl hn
  exact lv_goto (tgt := t) hC.1 hC.2.1 hd ht (h l p e s m args below meth c D aC ad H locs ls hC hP hS hl hn)

theorem so_tableswitch {y : Yt} {d len pc : Nat} {L S : List Value} {M : Mt} {N : Nt} {P : Pt'} {Q : Qt} {dflt lo hi : Int} {offs : Array Int} (hd : decode y.2.1 pc = .ok (.tableswitch dflt lo hi offs, len)) (h : onei (.tableswitch dflt lo hi offs) len d y pc L S M N P (KX y d Q) (CX d M N P) (fun v => Q v M N P)) : Xs y d pc L S M N P Q := by
  obtain ⟨x, S', t, rfl, ht, h⟩ := h
  intro l p e s m args below meth c D aC ad H locs ls hC hP hS hl hn
  rcases ht with ⟨h1, h2⟩ | ⟨h1, h2, off, h3, h4⟩
  · exact lv_tableOut (tgt := t) hC.1 hC.2.1 hd h1 h2 (h l p e s m args below meth c D aC ad H locs ls hC hP hS hl hn)
  · exact lv_tableIn (tgt := t) hC.1 hC.2.1 hd h1 h2 h3 h4 (h l p e s m args below meth c D aC ad H locs ls hC hP hS hl hn)

theorem so_lookupswitch {y : Yt} {d len pc : Nat} {L S : List Value} {M : Mt} {N : Nt} {P : Pt'} {Q : Qt} {dflt : Int} {ps : Array (Int × Int)} (hd : decode y.2.1 pc = .ok (.lookupswitch dflt ps, len)) (h : onei (.lookupswitch dflt ps) len d y pc L S M N P (KX y d Q) (CX d M N P) (fun v => Q v M N P)) : Xs y d pc L S M N P Q := by
  obtain ⟨x, S', t, rfl, hp, ht, h⟩ := h
  intro l p e s m args below meth c D aC ad H locs ls hC hP hS hl hn
  exact lv_lookup (tgt := t) hC.1 hC.2.1 hd hp rfl ht (h l p e s m args below meth c D aC ad H locs ls hC hP hS hl hn)

theorem so_ldc {y : Yt} {d len pc : Nat} {L S : List Value} {M : Mt} {N : Nt} {P : Pt'} {Q : Qt} {idx : Nat} (hd : decode y.2.1 pc = .ok (.ldc idx, len)) (h : onei (.ldc idx) len d y pc L S M N P (KX y d Q) (CX d M N P) (fun v => Q v M N P)) : Xs y d pc L S M N P Q := by
  obtain ⟨v, rfl, ⟨hy, hv⟩, h⟩ := h
  intro l p e s m args below meth c D aC ad H locs ls hC hP hS hl hn
  rcases kT_ok hv with ⟨x, hx, rfl⟩ | ⟨hk, hi⟩
  · rw [← hy] at hx
    exact lv_ldc hC.1 hC.2.1 hC.2.2.2.2.1 (hC.2.2.2.2.2.1 _ (inT.good (y := y) hx).1) hd (h l p e s m args below meth c D aC ad H locs ls hC hP hS hl hn)
  · obtain ⟨-, -, hZ, h0, h1, h2⟩ := hC.2.2.2.2.2.2.2.2.2
    rw [hk] at hy
    rcases hi with ⟨rfl, rfl⟩ | ⟨rfl, rfl⟩ | ⟨rfl, rfl⟩
    · exact va_ldcS hC.1 hC.2.1 hC.2.2.2.2.1 (by rw [hy]; exact h0) hd (h l p e s m args below meth c D aC ad H locs ls hC hP hS hl hn)
    · exact va_ldcS hC.1 hC.2.1 hC.2.2.2.2.1 (by rw [hy]; exact h1) hd (h l p e s m args below meth c D aC ad H locs ls hC hP hS hl hn)
    · exact va_ldcS hC.1 hC.2.1 hC.2.2.2.2.1 (by rw [hy]; exact h2) hd (h l p e s m args below meth c D aC ad H locs ls hC hP hS hl hn)

theorem so_ldc_w {y : Yt} {d len pc : Nat} {L S : List Value} {M : Mt} {N : Nt} {P : Pt'} {Q : Qt} {idx : Nat} (hd : decode y.2.1 pc = .ok (.ldc_w idx, len)) (h : onei (.ldc_w idx) len d y pc L S M N P (KX y d Q) (CX d M N P) (fun v => Q v M N P)) : Xs y d pc L S M N P Q := by
  obtain ⟨x, rfl, hy, hv, h⟩ := h
  intro l p e s m args below meth c D aC ad H locs ls hC hP hS hl hn
  have hx : inT (.constant y.1.cls idx x) := by
    rcases kT_ok hv with ⟨x', hx, e⟩ | ⟨hk, hi⟩
    · cases e; rw [hy]; exact hx
    · rcases hi with ⟨-, e⟩ | ⟨-, e⟩ | ⟨-, e⟩ <;> cases e
  exact lv_ldcw hC.1 hC.2.1 hC.2.2.2.2.1 (hC.2.2.2.2.2.1 _ (inT.good (y := y) hx).1) hd (h l p e s m args below meth c D aC ad H locs ls hC hP hS hl hn)

theorem so_ldc2_w {y : Yt} {d len pc : Nat} {L S : List Value} {M : Mt} {N : Nt} {P : Pt'} {Q : Qt} {idx : Nat} (hd : decode y.2.1 pc = .ok (.ldc2_w idx, len)) (h : onei (.ldc2_w idx) len d y pc L S M N P (KX y d Q) (CX d M N P) (fun v => Q v M N P)) : Xs y d pc L S M N P Q := by
  obtain ⟨x, rfl, hy, hv, h⟩ := h
  have hx := lT_ok hv
  rw [← hy] at hx
  intro l p e s m args below meth c D aC ad H locs ls hC hP hS hl hn
  exact lv_ldc2 hC.1 hC.2.1 hC.2.2.2.2.1 (hC.2.2.2.2.2.1 _ (inT.good (y := y) hx).1) hd (h l p e s m args below meth c D aC ad H locs ls hC hP hS hl hn)

theorem so_getfield {y : Yt} {d len pc : Nat} {L S : List Value} {M : Mt} {N : Nt} {P : Pt'} {Q : Qt} {idx : Nat} (hd : decode y.2.1 pc = .ok (.getfield idx, len)) (h : onei (.getfield idx) len d y pc L S M N P (KX y d Q) (CX d M N P) (fun v => Q v M N P)) : Xs y d pc L S M N P Q := by
  obtain ⟨r, c0, k, S', rfl, rfl, ⟨hy, h1, hf⟩, h⟩ := h
  obtain ⟨C, T, n, h2, h3, h4⟩ := fT_ok hf
  rw [← hy] at h4
  intro l p e s m args below meth c D aC ad H locs ls hC hP hS hl hn
  have hc := cls_lt h2
  have hr : r < 85 := shk_lt h1 (by omega)
  exact va_get hC.1 hC.2.1 hC.2.2.2.2.2.1 (fun w hw => (inT.good (y := y) (cls_ws h2 w hw)).1) hC.2.2.2.2.1 hC.2.2.2.2.2.2.2.1 hP r (rws_obj h1 hc) h2 k h3 (hC.2.2.2.2.2.1 _ (inT.good (y := y) h4).1) (fun _ q => q) (by rw [List.getElem?_map, List.getElem?_range (by rw [kt_len h2]; exact h3)]; rfl) hd (h l p e s m args below meth c D aC ad H locs ls hC hP hS hl hn)

theorem so_putfield {y : Yt} {d len pc : Nat} {L S : List Value} {M : Mt} {N : Nt} {P : Pt'} {Q : Qt} {idx : Nat} (hd : decode y.2.1 pc = .ok (.putfield idx, len)) (h : onei (.putfield idx) len d y pc L S M N P (KX y d Q) (CX d M N P) (fun v => Q v M N P)) : Xs y d pc L S M N P Q := by
  obtain ⟨r, c0, k, v, S', M', N', P', rfl, rfl, ⟨hy, h1, hf⟩, ⟨C', T', n', ty, g2, g3, h5, h6, h7, h8⟩, hp, h⟩ := h
  obtain ⟨C, T, n, h2, h3, h4⟩ := fT_ok hf
  rw [← hy] at h4
  rw [h2] at g2
  cases g2
  intro l p e s m args below meth c D aC ad H locs ls hC hP hS hl hn
  have hc := cls_lt h2
  have hr : r < 85 := shk_lt h1 (by omega)
  have hD := rws_D (aC := aC) (M := M) (N := N) (P := P) hC.2.2.2.2.2.2.2.2.1
  obtain ⟨ty0, hty, hnm⟩ := cls_ty h2
  refine va_put hC.1 hC.2.1 hC.2.2.2.2.2.1 (fun w hw => (inT.good (y := y) (cls_ws h2 w hw)).1) ty0 hty hnm hC.2.2.2.2.1 hC.2.2.2.2.2.2.2.1 hP hD hS r (rws_obj h1 hc) h2 k h3 (hC.2.2.2.2.2.1 _ (inT.good (y := y) h4).1) (fun _ q => q) h5 h6 (v := cvv ad v) (by rw [cvv_nar ty v h7]) (by rw [cvv_fit]; exact h8) (by rw [List.length_map, List.length_range, kt_len h2]; exact h3) hd ?_
  intro H1 locs1 hP1 hD1 hS1
  rw [rws_put h1 hc hr (by rw [kt_len h2]; exact h3) hp] at hP1
  exact h l p e s m args below meth c D aC ad H1 locs1 ls hC hP1 hS1 hl hn

theorem so_iaload {y : Yt} {d len pc : Nat} {L S : List Value} {M : Mt} {N : Nt} {P : Pt'} {Q : Qt} (hd : decode y.2.1 pc = .ok (.iaload, len)) (h : onei (.iaload) len d y pc L S M N P (KX y d Q) (CX d M N P) (fun v => Q v M N P)) : Xs y d pc L S M N P Q := by
  obtain ⟨j, r, n, S', rfl, rfl, h1, h2, h⟩ := h
  intro l p e s m args below meth c D aC ad H locs ls hC hP hS hl hn
  exact va_iald hC.1 hC.2.1 hC.2.2.2.2.2.2.2.1 hP r 0 (rws_arr h1 (by decide) (by decide) (by decide)) rfl h2 hd (h l p e s m args below meth c D aC ad H locs ls hC hP hS hl hn)

theorem so_saload {y : Yt} {d len pc : Nat} {L S : List Value} {M : Mt} {N : Nt} {P : Pt'} {Q : Qt} (hd : decode y.2.1 pc = .ok (.saload, len)) (h : onei (.saload) len d y pc L S M N P (KX y d Q) (CX d M N P) (fun v => Q v M N P)) : Xs y d pc L S M N P Q := by
  obtain ⟨j, r, n, S', rfl, rfl, h1, h2, h⟩ := h
  intro l p e s m args below meth c D aC ad H locs ls hC hP hS hl hn
  exact va_sald hC.1 hC.2.1 hC.2.2.2.2.2.2.2.1 hP r 3 (rws_arr h1 (by decide) (by decide) (by decide)) rfl h2 hd (h l p e s m args below meth c D aC ad H locs ls hC hP hS hl hn)

theorem so_baload {y : Yt} {d len pc : Nat} {L S : List Value} {M : Mt} {N : Nt} {P : Pt'} {Q : Qt} (hd : decode y.2.1 pc = .ok (.baload, len)) (h : onei (.baload) len d y pc L S M N P (KX y d Q) (CX d M N P) (fun v => Q v M N P)) : Xs y d pc L S M N P Q := by
  obtain ⟨j, r, c0, n, S', rfl, rfl, hcc, h1, h2, h⟩ := h
  intro l p e s m args below meth c D aC ad H locs ls hC hP hS hl hn
  rcases hcc with rfl | rfl
  · exact va_bald hC.1 hC.2.1 hC.2.2.2.2.2.2.2.1 hP r 1 (rws_arr h1 (by decide) (by decide) (by decide)) rfl h2 hd (h l p e s m args below meth c D aC ad H locs ls hC hP hS hl hn)
  · exact va_zald hC.1 hC.2.1 hC.2.2.2.2.2.2.2.1 hP r 2 (rws_arr h1 (by decide) (by decide) (by decide)) rfl h2 hd (h l p e s m args below meth c D aC ad H locs ls hC hP hS hl hn)

theorem so_laload {y : Yt} {d len pc : Nat} {L S : List Value} {M : Mt} {N : Nt} {P : Pt'} {Q : Qt} (hd : decode y.2.1 pc = .ok (.laload, len)) (h : onei (.laload) len d y pc L S M N P (KX y d Q) (CX d M N P) (fun v => Q v M N P)) : Xs y d pc L S M N P Q := by
  obtain ⟨j, r, n, S', rfl, rfl, h1, h2, h⟩ := h
  intro l p e s m args below meth c D aC ad H locs ls hC hP hS hl hn
  exact va_lald hC.1 hC.2.1 hC.2.2.2.2.2.2.2.1 hP r 4 (rws_arrL h1) rfl h2 hd (h l p e s m args below meth c D aC ad H locs ls hC hP hS hl hn)

theorem so_iastore {y : Yt} {d len pc : Nat} {L S : List Value} {M : Mt} {N : Nt} {P : Pt'} {Q : Qt} (hd : decode y.2.1 pc = .ok (.iastore, len)) (h : onei (.iastore) len d y pc L S M N P (KX y d Q) (CX d M N P) (fun v => Q v M N P)) : Xs y d pc L S M N P Q := by
  obtain ⟨x, j, r, n, S', rfl, rfl, h1, h2, h⟩ := h
  intro l p e s m args below meth c D aC ad H locs ls hC hP hS hl hn
  have hD := rws_D (aC := aC) (M := M) (N := N) (P := P) hC.2.2.2.2.2.2.2.2.1
  refine va_iast hC.1 hC.2.1 hC.2.2.2.2.2.2.2.1 hP hD hS r 0 (rws_arr h1 (by decide) (by decide) (by decide)) rfl h2 hd (fun H1 locs1 hP1 hD1 hS1 => ?_)
  rw [rws_upd h1 (by decide) (by decide) (by decide)] at hP1
  exact h l p e s m args below meth c D aC ad H1 locs1 ls hC hP1 hS1 hl hn

theorem so_sastore {y : Yt} {d len pc : Nat} {L S : List Value} {M : Mt} {N : Nt} {P : Pt'} {Q : Qt} (hd : decode y.2.1 pc = .ok (.sastore, len)) (h : onei (.sastore) len d y pc L S M N P (KX y d Q) (CX d M N P) (fun v => Q v M N P)) : Xs y d pc L S M N P Q := by
  obtain ⟨x, j, r, n, S', rfl, rfl, h1, h2, h⟩ := h
  intro l p e s m args below meth c D aC ad H locs ls hC hP hS hl hn
  have hD := rws_D (aC := aC) (M := M) (N := N) (P := P) hC.2.2.2.2.2.2.2.2.1
  refine va_sast hC.1 hC.2.1 hC.2.2.2.2.2.2.2.1 hP hD hS r 3 (rws_arr h1 (by decide) (by decide) (by decide)) rfl h2 hd (fun H1 locs1 hP1 hD1 hS1 => ?_)
  rw [vp_nar_short] at hP1
  rw [rws_upd h1 (by decide) (by decide) (by decide)] at hP1
  exact h l p e s m args below meth c D aC ad H1 locs1 ls hC hP1 hS1 hl hn

theorem so_bastore {y : Yt} {d len pc : Nat} {L S : List Value} {M : Mt} {N : Nt} {P : Pt'} {Q : Qt} (hd : decode y.2.1 pc = .ok (.bastore, len)) (h : onei (.bastore) len d y pc L S M N P (KX y d Q) (CX d M N P) (fun v => Q v M N P)) : Xs y d pc L S M N P Q := by
  obtain ⟨x, j, r, c0, n, z, S', rfl, rfl, h1, hz, h2, h⟩ := h
  intro l p e s m args below meth c D aC ad H locs ls hC hP hS hl hn
  have hD := rws_D (aC := aC) (M := M) (N := N) (P := P) hC.2.2.2.2.2.2.2.2.1
  rcases hz with ⟨rfl, rfl⟩ | ⟨rfl, rfl⟩
  · refine va_bast hC.1 hC.2.1 hC.2.2.2.2.2.2.2.1 hP hD hS r 1 (rws_arr h1 (by decide) (by decide) (by decide)) rfl h2 hd (fun H1 locs1 hP1 hD1 hS1 => ?_)
    rw [vp_nar_byte, rws_upd h1 (by decide) (by decide) (by decide)] at hP1
    exact h l p e s m args below meth c D aC ad H1 locs1 ls hC hP1 hS1 hl hn
  · refine va_zast hC.1 hC.2.1 hC.2.2.2.2.2.2.2.1 hP hD hS r 2 (rws_arr h1 (by decide) (by decide) (by decide)) rfl h2 hd (fun H1 locs1 hP1 hD1 hS1 => ?_)
    rw [show vp_nar .boolean x = x &&& 1 from rfl, rws_upd h1 (by decide) (by decide) (by decide)] at hP1
    exact h l p e s m args below meth c D aC ad H1 locs1 ls hC hP1 hS1 hl hn

theorem so_lastore {y : Yt} {d len pc : Nat} {L S : List Value} {M : Mt} {N : Nt} {P : Pt'} {Q : Qt} (hd : decode y.2.1 pc = .ok (.lastore, len)) (h : onei (.lastore) len d y pc L S M N P (KX y d Q) (CX d M N P) (fun v => Q v M N P)) : Xs y d pc L S M N P Q := by
  obtain ⟨x, j, r, n, S', rfl, rfl, h1, h2, h⟩ := h
  intro l p e s m args below meth c D aC ad H locs ls hC hP hS hl hn
  have hD := rws_D (aC := aC) (M := M) (N := N) (P := P) hC.2.2.2.2.2.2.2.2.1
  refine va_last hC.1 hC.2.1 hC.2.2.2.2.2.2.2.1 hP hD hS r 4 (rws_arrL h1) rfl h2 hd (fun H1 locs1 hP1 hD1 hS1 => ?_)
  rw [rws_updL h1] at hP1
  exact h l p e s m args below meth c D aC ad H1 locs1 ls hC hP1 hS1 hl hn

theorem so_arraylength {y : Yt} {d len pc : Nat} {L S : List Value} {M : Mt} {N : Nt} {P : Pt'} {Q : Qt} (hd : decode y.2.1 pc = .ok (.arraylength, len)) (h : onei (.arraylength) len d y pc L S M N P (KX y d Q) (CX d M N P) (fun v => Q v M N P)) : Xs y d pc L S M N P Q := by
  obtain ⟨r, c0, n, S', rfl, rfl, h1, h2, h3, h⟩ := h
  intro l p e s m args below meth c D aC ad H locs ls hC hP hS hl hn
  have hr : r < 85 := shk_lt h1 (by omega)
  have hty : ∃ (t0 : Nat) (x : vp_A) (ty : FieldType), (rws aC ad M N P)[r]? = some (ad r, .inl (aC c0, x)) ∧ x.1 = n ∧ (atys aC)[t0]? = some (aC c0, ty) := by
    rcases (show c0 = 100 ∨ c0 = 101 ∨ c0 = 102 ∨ c0 = 103 ∨ c0 = 104 by omega) with rfl | rfl | rfl | rfl | rfl
    · exact ⟨0, _, _, rws_arr h1 (by decide) (by decide) (by decide), rfl, rfl⟩
    · exact ⟨1, _, _, rws_arr h1 (by decide) (by decide) (by decide), rfl, rfl⟩
    · exact ⟨2, _, _, rws_arr h1 (by decide) (by decide) (by decide), rfl, rfl⟩
    · exact ⟨3, _, _, rws_arr h1 (by decide) (by decide) (by decide), rfl, rfl⟩
    · exact ⟨4, _, _, rws_arrL h1, rfl, rfl⟩
  obtain ⟨t0, x, ty, g1, g2, g3⟩ := hty
  exact va_alen hC.1 hC.2.1 hC.2.2.2.2.2.2.2.1 hP r t0 g1 g3 (by rw [g2]) hd (h l p e s m args below meth c D aC ad H locs ls hC hP hS hl hn)

theorem so_invokevirtual {y : Yt} {d len pc : Nat} {L S : List Value} {M : Mt} {N : Nt} {P : Pt'} {Q : Qt} {idx : Nat} (hd : decode y.2.1 pc = .ok (.invokevirtual idx, len)) (h : onei (.invokevirtual idx) len d y pc L S M N P (KX y d Q) (CX d M N P) (fun v => Q v M N P)) : Xs y d pc L S M N P Q := by
  obtain ⟨y', r, As, S', rfl, rfl, h1, h2, ⟨hy, hv, h9⟩, h10, d', rfl, hX⟩ := h
  obtain ⟨h3, h4, h5, h6, h7, h8⟩ := vT_ok hv
  rw [← hy] at h3
  intro l p e s m args below meth c D aC ad H locs ls hC hP hS hl hn
  have hM := hX.met h2 h8 l D aC ad
  have hG : GoodIn (wl y) (wsV y.1.cls idx y'.1.cls y'.1 (wl y')) := by
    intro w hw
    unfold wsV at hw
    rcases List.mem_append.mp hw with hw | hw
    · simp only [List.mem_cons, List.not_mem_nil, or_false] at hw
      rcases hw with rfl | rfl | rfl | rfl
      · exact h3.good
      · exact h4.good
      · exact h5.good
      · exact h6.good
    · exact wl_good h7 w hw
  have hrecv : ∃ cellB : Cell, H[ad r]? = some cellB ∧ cellB.vm.isStatics = false ∧ s.vm.findClass y'.1.cls = some cellB.cls := by
    rcases h9 with ⟨c0, T, n, g1, g2⟩ | ⟨i, g1, rfl, g3⟩
    · exact va_recv hC.2.2.2.2.2.2.2.1 hP g2 (rws_obj g1 (cls_lt g2))
    · obtain ⟨-, ⟨adV, hV⟩, -⟩ := hC.2.2.2.2.2.2.2.2.2
      rw [g3]
      exact vk_recv (i := i) (adK := fun i => ad (200 + i)) hV g1 hS
  refine run_W (va_runV (As := As.map (cvv ad)) (rest := S'.map (cvv ad)) (b := ad r) (nL := y.2.2.1) ⟨hC.1, hC.2.1, hC.2.2.2.1, hC.2.2.2.2.1, hC.2.2.2.2.2.1⟩ hM (cwV As.length hC.2.2.2.2.2.1 hG rfl rfl rfl ⟨rfl, h8.1.1, h8.1.2, h1⟩ (rm_ok h2.2.2)) ⟨PcX.blind, hrecv, fun U hU hW => ⟨rfl, by rw [hU]; exact hP, va_K.moved hW.alike hC.2.2.2.2.2.2.2.1, hC.2.2.2.2.2.2.2.2.1, by rw [hU]; exact hC.2.2.2.2.2.2.2.2.2.warm hW hS.2.1⟩⟩ rfl (by rw [List.length_map]) hl.1 (by rw [List.map_append, List.map_reverse]; rfl) (lv_room (by rw [stk_sum]; exact h10)) hd ⟨Nat.le_refl _, Nat.le_refl _⟩) hS (fun v M' N' P' H1 locs1 hk hP1 hS1 => ?_)
  have := hk l p e s m args below meth c D aC ad H1 locs1 ls hC hP1 hS1 hl hn
  rw [List.map_append, map_toList] at this
  exact this

theorem so_invokestatic {y : Yt} {d len pc : Nat} {L S : List Value} {M : Mt} {N : Nt} {P : Pt'} {Q : Qt} {idx : Nat} (hd : decode y.2.1 pc = .ok (.invokestatic idx, len)) (h : onei (.invokestatic idx) len d y pc L S M N P (KX y d Q) (CX d M N P) (fun v => Q v M N P)) : Xs y d pc L S M N P Q := by
  rcases h with h | h | h
  · obtain ⟨x, z, S', rfl, rfl, hy, -, rfl, h10, h11, h⟩ := h
    intro l p e s m args below meth c D aC ad H locs ls hC hP hS hl hn
    exact va_mmax (own := RX7) hC.1 hC.2.1 (by rw [hC.2.2.2.1]; exact hl.1.symm) (by rw [← hy]; exact hC.2.2.2.2.1) (hC.2.2.2.2.2.1 _ (inT.good (y := y) tm_X7_45).1) (hC.2.2.2.2.2.1 _ (inT.good (y := y) tst_J9_max_7cf53).1) (hC.2.2.2.2.2.1 _ (inT.good (y := y) tin_J9).1) (hC.2.2.2.2.2.1 _ (inT.good (y := y) tc_mmax).1) h11 (by rw [stk_sum]; simp only [rmD]; omega) (Nat.le_refl _) (Nat.le_refl _) hd (h l p e s m args below meth c D aC ad H locs ls hC hP hS hl hn)
  · obtain ⟨x, z, S', rfl, rfl, hy, -, rfl, h10, h11, h⟩ := h
    intro l p e s m args below meth c D aC ad H locs ls hC hP hS hl hn
    exact va_mmin_long (own := RX11) hC.1 hC.2.1 (by rw [hC.2.2.2.1]; exact hl.1.symm) (by rw [← hy]; exact hC.2.2.2.2.1) (hC.2.2.2.2.2.1 _ (inT.good (y := y) tm_X11_288).1) (hC.2.2.2.2.2.1 _ (inT.good (y := y) tst_J9_min_f86c9).1) (hC.2.2.2.2.2.1 _ (inT.good (y := y) tin_J9).1) (hC.2.2.2.2.2.1 _ (inT.good (y := y) tc_mminl).1) h11 (by rw [stk_sum]; simp only [rmD]; omega) (Nat.le_refl _) (Nat.le_refl _) hd (h l p e s m args below meth c D aC ad H locs ls hC hP hS hl hn)
  obtain ⟨y', As, S', rfl, rfl, h1, h2, ⟨hy, hv⟩, h10, d', rfl, hX⟩ := h
  obtain ⟨h3, h5, h6, h7, h8⟩ := sT_ok hv
  rw [← hy] at h3
  intro l p e s m args below meth c D aC ad H locs ls hC hP hS hl hn
  have hM := hX.met h2 h8 l D aC ad
  have hT := hC.2.2.2.2.2.1
  have hrun : va_Run p l e (rmD (d' + 1)) s m args below meth c H locs 0 0 0 0 (F0 m pc ls ((As.reverse ++ S').map (cvv ad))) (S'.map (cvv ad)) (QcX D aC ad (fun v M' N' P' => KX y (d' + 1) Q (pc + 3) L (v.toList ++ S') M' N' P') (As.map (cvv ad)).toArray) (Aad ad) := by
    rcases h3 with h3 | ⟨e1, rfl, e3⟩
    · exact va_runS (As := As.map (cvv ad)) (rest := S'.map (cvv ad)) (nL := y.2.2.1) ⟨hC.1, hC.2.1, hC.2.2.2.1, hC.2.2.2.2.1, hT⟩ hM ⟨callB_of As.length hT (wl_good h7) rfl rfl rfl (hC.2.2.2.2.2.1 _ (inT.good (y := y) h6).1) (hC.2.2.2.2.2.1 _ (inT.good (y := y) h3).1) ⟨h8.1.1, h8.1.2, h1⟩ (rm_ok h2.2.2), (hC.2.2.2.2.2.1 _ (inT.good (y := y) h5).1)⟩ ⟨PcX.blind, fun U hU hW => ⟨rfl, by rw [hU]; exact hP, va_K.moved hW.alike hC.2.2.2.2.2.2.2.1, hC.2.2.2.2.2.2.2.2.1, by rw [hU]; exact hC.2.2.2.2.2.2.2.2.2.warm hW hS.2.1⟩⟩ rfl (by rw [List.length_map]) hl.1 (by rw [List.map_append, List.map_reverse]) (lv_room (by rw [stk_sum]; exact h10)) hd ⟨Nat.le_refl _, Nat.le_refl _⟩
    · exact va_runSN (host := "HomeRoll") (As := As.map (cvv ad)) (rest := S'.map (cvv ad)) (nL := y.2.2.1) ⟨hC.1, hC.2.1, hC.2.2.2.1, hC.2.2.2.2.1, hT⟩ hM ⟨va_cnB As.length hT (wl_good h7) rfl rfl rfl (by rw [hy, e1, e3]; exact hC.2.2.2.2.2.2.2.2.2.1) (hC.2.2.2.2.2.1 _ (inT.good (y := y) h6).1) ⟨h8.1.1, h8.1.2, h1⟩ (rm_ok h2.2.2), (hC.2.2.2.2.2.1 _ (inT.good (y := y) h5).1), trivial⟩ ⟨PcX.blind, fun U hU hW => ⟨rfl, by rw [hU]; exact hP, va_K.moved hW.alike hC.2.2.2.2.2.2.2.1, hC.2.2.2.2.2.2.2.2.1, by rw [hU]; exact hC.2.2.2.2.2.2.2.2.2.warm hW hS.2.1⟩⟩ rfl (by rw [List.length_map]) hl.1 (by rw [List.map_append, List.map_reverse]) (lv_room (by rw [stk_sum]; exact h10)) hd ⟨Nat.le_refl _, Nat.le_refl _⟩
  refine run_W hrun hS (fun v M' N' P' H1 locs1 hk hP1 hS1 => ?_)
  have := hk l p e s m args below meth c D aC ad H1 locs1 ls hC hP1 hS1 hl hn
  rw [List.map_append, map_toList] at this
  exact this

theorem so_ireturn {y : Yt} {d len pc : Nat} {L S : List Value} {M : Mt} {N : Nt} {P : Pt'} {Q : Qt} (hd : decode y.2.1 pc = .ok (.ireturn, len)) (h : onei (.ireturn) len d y pc L S M N P (KX y d Q) (CX d M N P) (fun v => Q v M N P)) : Xs y d pc L S M N P Q := by
  obtain ⟨x, ty, rfl, rfl, h1, h2, h⟩ := h
  intro l p e s m args below meth c D aC ad H locs ls hC hP hS hl hn
  refine W.zret hC.1 hC.2.1 (by rw [hC.2.2.1, h1]) h2 (fun t ht hW => ⟨⟨_, M, N, P, rfl, h, by rw [ht]; exact hP⟩, hS.F ht⟩) hS.2.2 hd hC.2.2.2.2.2.2.1

theorem so_lreturn {y : Yt} {d len pc : Nat} {L S : List Value} {M : Mt} {N : Nt} {P : Pt'} {Q : Qt} (hd : decode y.2.1 pc = .ok (.lreturn, len)) (h : onei (.lreturn) len d y pc L S M N P (KX y d Q) (CX d M N P) (fun v => Q v M N P)) : Xs y d pc L S M N P Q := by
  obtain ⟨x, rfl, rfl, h1, h⟩ := h
  intro l p e s m args below meth c D aC ad H locs ls hC hP hS hl hn
  refine W.lret hC.1 hC.2.1 (by rw [hC.2.2.1, h1]) (fun t ht hW => ⟨⟨_, M, N, P, rfl, h, by rw [ht]; exact hP⟩, hS.F ht⟩) hS.2.2 hd hC.2.2.2.2.2.2.1

theorem so_return_ {y : Yt} {d len pc : Nat} {L S : List Value} {M : Mt} {N : Nt} {P : Pt'} {Q : Qt} (hd : decode y.2.1 pc = .ok (.return_, len)) (h : onei (.return_) len d y pc L S M N P (KX y d Q) (CX d M N P) (fun v => Q v M N P)) : Xs y d pc L S M N P Q := by
  obtain ⟨rfl, rfl, h1, h⟩ := h
  intro l p e s m args below meth c D aC ad H locs ls hC hP hS hl hn
  refine W.vret hC.1 hC.2.1 (by rw [hC.2.2.1, h1]) (fun t ht hW => ⟨⟨_, M, N, P, rfl, h, by rw [ht]; exact hP⟩, hS.F ht⟩) hS.2.2 hd hC.2.2.2.2.2.2.1
set_option maxHeartbeats 4000000 in
theorem Xs.closed (hprim : ∀ (y : Yt) (d : Nat) (L : List Value) (r : Value) (M : Mt) (N : Nt) (P : Pt') (Q : Qt), 5 ≤ d → primR y L r → Q (some r) M N P → Xs y d 0 L [] M N P Q) {y : Yt} {d pc : Nat} {L S : List Value} {M : Mt} {N : Nt} {P : Pt'} {Q : Qt} (h : onew Xs y d pc L S M N P Q) : Xs y d pc L S M N P Q := by
  rcases h with ⟨i, len, hd, h⟩ | ⟨r, rfl, rfl, h3, h4, h5⟩
  · cases i with
    | iconst a0 => exact so_iconst hd h
    | bipush a0 => exact so_bipush hd h
    | sipush a0 => exact so_sipush hd h
    | lconst a0 => exact so_lconst hd h
    | iload_n a0 => exact so_iload_n hd h
    | iload a0 => exact so_iload hd h
    | lload_n a0 => exact so_lload_n hd h
    | lload a0 => exact so_lload hd h
    | aload_n a0 => exact so_aload_n hd h
    | aload a0 => exact so_aload hd h
    | istore_n a0 => exact so_istore_n hd h
    | istore a0 => exact so_istore hd h
    | astore_n a0 => exact so_astore_n hd h
    | astore a0 => exact so_astore hd h
    | lstore_n a0 => exact so_lstore_n hd h
    | lstore a0 => exact so_lstore hd h
    | iinc a0 a1 => exact so_iinc hd h
    | iadd => exact so_iadd hd h
    | isub => exact so_isub hd h
    | imul => exact so_imul hd h
    | iand => exact so_iand hd h
    | ior => exact so_ior hd h
    | ishl => exact so_ishl hd h
    | ishr => exact so_ishr hd h
    | iushr => exact so_iushr hd h
    | idiv => exact so_idiv hd h
    | irem => exact so_irem hd h
    | ldiv => exact so_ldiv hd h
    | lrem => exact so_lrem hd h
    | ladd => exact so_ladd hd h
    | lsub => exact so_lsub hd h
    | lmul => exact so_lmul hd h
    | lor => exact so_lor hd h
    | lshl => exact so_lshl hd h
    | lcmp => exact so_lcmp hd h
    | i2l => exact so_i2l hd h
    | l2i => exact so_l2i hd h
    | i2b => exact so_i2b hd h
    | i2s => exact so_i2s hd h
    | i2c => exact so_i2c hd h
    | dup => exact so_dup hd h
    | dup2 => exact so_dup2 hd h
    | pop => exact so_pop hd h
    | ifCond cc off =>
      cases cc with
      | eq => exact so_if_eq hd h
      | ne => exact so_if_ne hd h
      | lt => exact so_if_lt hd h
      | ge => exact so_if_ge hd h
      | gt => exact so_if_gt hd h
      | le => exact so_if_le hd h
    | if_icmp cc off =>
      cases cc with
      | eq => exact so_icmp_eq hd h
      | ne => exact so_icmp_ne hd h
      | lt => exact so_icmp_lt hd h
      | ge => exact so_icmp_ge hd h
      | gt => exact so_icmp_gt hd h
      | le => exact so_icmp_le hd h
    | goto a0 => exact so_goto hd h
    | tableswitch a0 a1 a2 a3 => exact so_tableswitch hd h
    | lookupswitch a0 a1 => exact so_lookupswitch hd h
    | ldc a0 => exact so_ldc hd h
    | ldc_w a0 => exact so_ldc_w hd h
    | ldc2_w a0 => exact so_ldc2_w hd h
    | getfield a0 => exact so_getfield hd h
    | putfield a0 => exact so_putfield hd h
    | iaload => exact so_iaload hd h
    | saload => exact so_saload hd h
    | baload => exact so_baload hd h
    | laload => exact so_laload hd h
    | iastore => exact so_iastore hd h
    | sastore => exact so_sastore hd h
    | bastore => exact so_bastore hd h
    | lastore => exact so_lastore hd h
    | arraylength => exact so_arraylength hd h
    | invokevirtual a0 => exact so_invokevirtual hd h
    | invokestatic a0 => exact so_invokestatic hd h
    | ireturn => exact so_ireturn hd h
    | lreturn => exact so_lreturn hd h
    | return_ => exact so_return_ hd h
    | _ => exact h.elim
  · exact hprim _ _ _ _ _ _ _ _ h3 h4 h5
theorem Wp.snd (hprim : ∀ (y : Yt) (d : Nat) (L : List Value) (r : Value) (M : Mt) (N : Nt) (P : Pt') (Q : Qt), 5 ≤ d → primR y L r → Q (some r) M N P → Xs y d 0 L [] M N P Q) {y : Yt} {d pc : Nat} {L S : List Value} {M : Mt} {N : Nt} {P : Pt'} {Q : Qt} (h : Wp y d pc L S M N P Q) : Xs y d pc L S M N P Q := h Xs (fun _ _ _ _ _ _ _ _ _ q => Xs.closed hprim q)
