section K13
variable {d k m : Nat} {x y z u : Int32} {M M' : Mt} {N : Nt} {b : Bool} {Q : Qt} {fr to dy : Nat → Int32}
def snAt (fr to dy : Nat → Int32) (s : Int32 × Int32) (l : List Nat) : Int32 × Int32 := l.foldl (fun s p => if fr p = s.1 then (to p, dy p) else s) s
def cntP (fr to : Nat → Int32) : Int32 → List Nat → Nat
  | _, [] => 0
  | h, p :: r => if fr p = h then cntP fr to (to p) r + 1 else cntP fr to h r
theorem snAt_1 : ∀ (l : List Nat) (s : Int32 × Int32), (snAt fr to dy s l).1 = hAt fr to s.1 l
  | [], _ => rfl
  | p :: r, s => by
    have ih := snAt_1 r (if fr p = s.1 then (to p, dy p) else s)
    unfold snAt hAt at ih ⊢
    rw [List.foldl_cons, List.foldl_cons, ih]
    congr 1
    split <;> rfl
theorem fold_pre : ∀ (l : List Nat) (s : fS), (∀ q ∈ l, ¬ nI q = z) → s.2.1 = 0 → l.foldl (fstep fr to dy z) s = ((snAt fr to dy (s.1, s.2.2.2.2) l).1, 0, s.2.2.1, s.2.2.2.1, (snAt fr to dy (s.1, s.2.2.2.2) l).2)
  | [], s, _, h0 => by
    obtain ⟨s1, s2, s3, s4, s5⟩ := s
    simp only at h0
    subst h0
    rfl
  | p :: r, s, hq, h0 => by
    have n1 := hq p List.mem_cons_self
    have hr : ∀ q ∈ r, ¬ nI q = z := fun q h => hq q (List.mem_cons_of_mem _ h)
    rw [List.foldl_cons]
    by_cases e : fr p = s.1
    · have es : fstep fr to dy z s p = (to p, 0, s.2.2.1, s.2.2.2.1, dy p) := by
        unfold fstep; rw [if_pos e]; simp only [n1, h0, if_false, if_true]
      rw [es, fold_pre r _ hr rfl]
      unfold snAt
      rw [List.foldl_cons, if_pos e]
    · have es : fstep fr to dy z s p = s := by unfold fstep; rw [if_neg e]
      rw [es, fold_pre r _ hr h0]
      unfold snAt
      rw [List.foldl_cons, if_neg e]
theorem fold_post : ∀ (l : List Nat) (s : fS), (∀ q ∈ l, ¬ nI q = z) → s.2.1 = 1 → (l.foldl (fstep fr to dy z) s).2.1 = 1 ∧ (l.foldl (fstep fr to dy z) s).2.2.1 = s.2.2.1 ∧ (l.foldl (fstep fr to dy z) s).2.2.2.1 = s.2.2.2.1 + nI (cntP fr to s.1 l)
  | [], s, _, h0 => ⟨h0, rfl, by show _ = _ + nI 0; rw [nI_0]; simp⟩
  | p :: r, s, hq, h0 => by
    have n1 := hq p List.mem_cons_self
    have hr : ∀ q ∈ r, ¬ nI q = z := fun q h => hq q (List.mem_cons_of_mem _ h)
    rw [List.foldl_cons]
    by_cases e : fr p = s.1
    · have es : fstep fr to dy z s p = (to p, 1, s.2.2.1, s.2.2.2.1 + 1, dy p) := by
        unfold fstep; rw [if_pos e]; simp only [n1, h0, if_false, show ¬ (1 : Int32) = 0 by decide]
      rw [es]
      have ih := fold_post r (to p, 1, s.2.2.1, s.2.2.2.1 + 1, dy p) hr rfl
      refine ⟨ih.1, ih.2.1, ih.2.2.trans ?_⟩
      simp only [cntP, e, if_true]
      rw [← nI_1]
      rw [Int32.add_assoc, Int32.add_comm 1]
    · have es : fstep fr to dy z s p = s := by unfold fstep; rw [if_neg e]
      rw [es]
      have ih := fold_post r s hr h0
      refine ⟨ih.1, ih.2.1, ih.2.2.trans ?_⟩
      simp only [cntP, e, if_false]
theorem ln_split {ln : List Nat} {j : Nat} (hj : j < ln.length) : ln = ln.take j ++ ln.getD j 0 :: ln.drop (j + 1) := by
  have hd : ln.drop j = ln.getD j 0 :: ln.drop (j + 1) := by
    rw [List.drop_eq_getElem_cons hj, List.getD_eq_getElem?_getD, List.getElem?_eq_getElem hj]; rfl
  rw [← hd, List.take_append_drop]
theorem ln_ne {ln : List Nat} (hnd : ln.Nodup) (hlt : ∀ p ∈ ln, p < 60) {j : Nat} (hj : j < ln.length) : (∀ q ∈ ln.take j, ¬ nI q = nI (ln.getD j 0)) ∧ ∀ q ∈ ln.drop (j + 1), ¬ nI q = nI (ln.getD j 0) := by
  have hp := hlt _ (getD_mem hj)
  have e := ln_split hj
  have hn2 := hnd
  rw [e, List.nodup_append] at hn2
  obtain ⟨-, h2, h3⟩ := hn2
  rw [List.nodup_cons] at h2
  constructor
  · intro q hq he
    have := hlt q (List.mem_of_mem_take hq)
    rw [nI_eq (by omega) (by omega)] at he
    exact h3 q hq _ List.mem_cons_self he
  · intro q hq he
    have := hlt q (List.mem_of_mem_drop hq)
    rw [nI_eq (by omega) (by omega)] at he
    subst he
    exact h2.1 hq
theorem fold_mark {ln : List Nat} {h0 : Int32} (hnd : ln.Nodup) (hlt : ∀ p ∈ ln, p < 60) {j : Nat} (hj : j < ln.length) (hf : fr (ln.getD j 0) = hAt fr to h0 (ln.take j)) :
    (ln.foldl (fstep fr to dy (nI (ln.getD j 0))) (h0, 0, 0, 0, 0)).2.1 = 1 ∧ (ln.foldl (fstep fr to dy (nI (ln.getD j 0))) (h0, 0, 0, 0, 0)).2.2.1 = (snAt fr to dy (h0, 0) (ln.take j)).2 ∧ (ln.foldl (fstep fr to dy (nI (ln.getD j 0))) (h0, 0, 0, 0, 0)).2.2.2.1 = nI (cntP fr to (to (ln.getD j 0)) (ln.drop (j + 1))) := by
  obtain ⟨n1, n2⟩ := ln_ne hnd hlt hj
  have key : ∀ (z : Int32) (w : List Nat), w = ln.take j ++ ln.getD j 0 :: ln.drop (j + 1) → z = nI (ln.getD j 0) → w.foldl (fstep fr to dy z) (h0, 0, 0, 0, 0) = (ln.drop (j + 1)).foldl (fstep fr to dy z) (to (ln.getD j 0), 1, (snAt fr to dy (h0, 0) (ln.take j)).2, 0, dy (ln.getD j 0)) := by
    intro z w hw hz
    subst hz
    rw [hw, List.foldl_append, fold_pre _ _ n1 rfl, List.foldl_cons]
    congr 1
    unfold fstep
    dsimp only
    rw [if_pos (by rw [snAt_1]; exact hf)]
    simp only [if_true]
  rw [key _ ln (ln_split hj) rfl]
  obtain ⟨a1, a2, a3⟩ := fold_post (ln.drop (j + 1)) (to (ln.getD j 0), 1, (snAt fr to dy (h0, 0) (ln.take j)).2, 0, dy (ln.getD j 0)) (fr := fr) (to := to) (dy := dy) n2 rfl
  exact ⟨a1, a2, a3.trans (by simp)⟩
theorem fold_nomark {ln : List Nat} {h0 : Int32} (hnd : ln.Nodup) (hlt : ∀ p ∈ ln, p < 60) {j : Nat} (hj : j < ln.length) (hf : ¬ fr (ln.getD j 0) = hAt fr to h0 (ln.take j)) :
    (ln.foldl (fstep fr to dy (nI (ln.getD j 0))) (h0, 0, 0, 0, 0)).2.1 = 0 := by
  obtain ⟨n1, n2⟩ := ln_ne hnd hlt hj
  have key : ∀ (z : Int32) (w : List Nat), w = ln.take j ++ ln.getD j 0 :: ln.drop (j + 1) → z = nI (ln.getD j 0) → (w.foldl (fstep fr to dy z) (h0, 0, 0, 0, 0)).2.1 = 0 := by
    intro z w hw hz
    subst hz
    rw [hw, List.foldl_append, fold_pre _ _ n1 rfl, List.foldl_cons]
    have es : fstep fr to dy (nI (ln.getD j 0)) ((snAt fr to dy (h0, 0) (ln.take j)).1, 0, 0, 0, (snAt fr to dy (h0, 0) (ln.take j)).2) (ln.getD j 0) = ((snAt fr to dy (h0, 0) (ln.take j)).1, 0, 0, 0, (snAt fr to dy (h0, 0) (ln.take j)).2) := by
      unfold fstep
      dsimp only
      rw [if_neg (by rw [snAt_1]; exact hf)]
    dsimp only at es ⊢
    rw [es, fold_pre _ _ n2 rfl]
  exact key _ ln (ln_split hj) rfl
end K13
