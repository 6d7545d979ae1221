section LB
variable {p : Program} {l : Launch} {e : Env} {s : State} {m : MethodId} {below : List Frame} {meth : Method} {c : Code} {b L : Nat} {xs : Nat → Int32} {D : va_G} {aC : Nat → ClassId} {ad : Nat → Nat} {Q : State → Prop} {bb : Bool} {M : Mt} {N : Nt} {H : Heap} {locs : List Loc} {ls : Array Slot} {i CC SS : Nat}
def LV (b i : Nat) (ad : Nat → Nat) : List (Nat × Value) := [(3, .int (nI i)), (0, .ref b), (1, .ref (ad 0)), (2, .ref (ad 50))]
theorem in_j (hi : i + 7 ≤ L) (hL : L ≤ 3584) {j : Nat} (hj : j ≤ 6) : vp_in (nI i + nI j) L := by rw [nI_add]; exact vp_in_nI (by omega) (by omega)
theorem Both.wp {d : Nat} {mC mR : Yt} {as : List Value} {b : Bool} {M : Mt} {N : Nt} (h : Both d mC mR as b M N) : Wp mC (d + 60) 0 (padL mC.2.2.1 (entL (.ref 0 :: as))) [] M N (pr b) (fun v M1 N1 P1 => Wp mR (d + 60) 0 (padL mR.2.2.1 (entL (.ref 50 :: as))) [] M1 N1 P1 (fun v2 M2 N2 P2 => v2 = v ∧ ∃ b2, P2 = pr b2 ∧ Rel b2 M2)) := h
theorem BothL.wp {d : Nat} {mC mR : Yt} {as : List Value} {b : Bool} {M : Mt} {N : Nt} (h : BothL d mC mR as b M N) : Wp mC (d + 60) 0 (padL mC.2.2.1 (entL (.ref 0 :: as))) [] M N (pr b) (fun v M1 N1 P1 => Wp mR (d + 60) 0 (padL mR.2.2.1 (entL (.ref 50 :: as))) [] M1 N1 P1 (fun v2 M2 N2 P2 => v2 = v ∧ (∃ x, v = some (.long x)) ∧ ∃ b2, P2 = pr b2 ∧ Rel b2 M2)) := h
set_option maxHeartbeats 4000000 in
theorem lb_person (h : LC p s m meth c b L xs D aC ad) (hCC : CC ≤ 600000 ∧ SS ≤ 7302250) (hL : L ≤ 3584) (hi : i + 7 ≤ L) (hR : Rel bb M) (hP : va_P D vwCl (rws aC ad M N (pr bb)) H) (hS : va_S (Aad ad) s.heap H locs) (hl : lv_has ls 4 (LV b i ad))
    (kk : ∀ (bb : Bool) (M : Mt) (N : Nt) (H : Heap) (locs : List Loc), Rel bb M → va_P D vwCl (rws aC ad M N (pr bb)) H → va_S (Aad ad) s.heap H locs → W p l e room_1 s m #[Value.ref b] below meth c H locs CC SS Q (F0 m 923 ls [])) : W p l e room_1 s m #[Value.ref b] below meth c H locs CC SS Q (F0 m 140 ls []) := by
  obtain ⟨hx, hb, hrt, hml, hown, hts, hX, hbl, hlocks, hgv⟩ := id h.1
  have hbA := b_out h
  refine lv_aload_n hx hb dL_law_140 rfl (lv_at hl 2 rfl) ?_
  refine lv_aload_n hx hb dL_law_141 rfl (lv_at hl 1 rfl) ?_
  refine lv_iload_n hx hb dL_law_142 rfl (lv_at hl 0 rfl) ?_
  refine lv_iconst (v := nI 1) hx hb dL_law_143 (by decide) ?_
  refine lv_iadd hx hb dL_law_144 ?_
  refine va_sld hx hb hX hbl hbA hS (in_j hi hL (by decide)) dL_law_145 ?_
  refine lv_aload_n hx hb dL_law_146 rfl (lv_at hl 1 rfl) ?_
  refine lv_iload_n hx hb dL_law_147 rfl (lv_at hl 0 rfl) ?_
  refine lv_iconst (v := nI 2) hx hb dL_law_148 (by decide) ?_
  refine lv_iadd hx hb dL_law_149 ?_
  refine va_sld hx hb hX hbl hbA hS (in_j hi hL (by decide)) dL_law_150 ?_
  refine lawCall (y := mX11_person) (r := 0) (As := [.int (xs (nI i + nI 1).toNatClampNeg), .int (xs (nI i + nI 2).toNatClampNeg)]) (rest := []) h hCC (Wp.ti (Both.wp (pub_person (d := 0) (N := N) hR)) rfl (by decide)) ⟨rfl, Nat.le_of_ble_eq_true rfl, Nat.le_of_ble_eq_true rfl⟩ rfl (Or.inl ⟨11, TX11, _, rfl, rfl⟩) ⟨11, TX11, _, rfl, rfl⟩ tm_L_13 ti_X11_person tse_X11_person tin_X11 tc_X11_person ⟨⟨by decide, by decide⟩, by decide⟩ hl.1 dL_law_151 (by decide) hP hS (fun v M1 N1 P1 H1 locs1 hk hP1 hS1 => ?_)
  obtain ⟨hk, x, rfl⟩ := hk
  refine W.eq (g2 := F0 m 154 ls [.int x]) rfl ?_
  have hS := hS1
  refine lv_aload_n hx hb dL_law_154 rfl (lv_at hl 3 rfl) ?_
  refine lv_aload_n hx hb dL_law_155 rfl (lv_at hl 1 rfl) ?_
  refine lv_iload_n hx hb dL_law_156 rfl (lv_at hl 0 rfl) ?_
  refine lv_iconst (v := nI 1) hx hb dL_law_157 (by decide) ?_
  refine lv_iadd hx hb dL_law_158 ?_
  refine va_sld hx hb hX hbl hbA hS (in_j hi hL (by decide)) dL_law_159 ?_
  refine lv_aload_n hx hb dL_law_160 rfl (lv_at hl 1 rfl) ?_
  refine lv_iload_n hx hb dL_law_161 rfl (lv_at hl 0 rfl) ?_
  refine lv_iconst (v := nI 2) hx hb dL_law_162 (by decide) ?_
  refine lv_iadd hx hb dL_law_163 ?_
  refine va_sld hx hb hX hbl hbA hS (in_j hi hL (by decide)) dL_law_164 ?_
  refine lawCall (y := mX12_person) (r := 50) (As := [.int (xs (nI i + nI 1).toNatClampNeg), .int (xs (nI i + nI 2).toNatClampNeg)]) (rest := [.int x]) h hCC hk ⟨rfl, Nat.le_of_ble_eq_true rfl, Nat.le_of_ble_eq_true rfl⟩ rfl (Or.inl ⟨12, TX12, _, rfl, rfl⟩) ⟨12, TX12, _, rfl, rfl⟩ tm_L_17 ti_X12_person tse_X12_person tin_X12 tc_X12_person ⟨⟨by decide, by decide⟩, by decide⟩ hl.1 dL_law_165 (by show 1 + 0 ≤ 8; omega) hP1 hS1 (fun v2 M2 N2 P2 H2 locs2 hq hP2 hS2 => ?_)
  obtain ⟨rfl, b2, rfl, hR2⟩ := hq
  refine W.eq (g2 := F0 m 168 ls [.int x, .int x]) rfl ?_
  exact lv_icmp_eq (tgt := 923) hx hb dL_law_168 (by decide) (fun _ => kk b2 M2 N2 H2 locs2 hR2 hP2 hS2) (fun z => absurd rfl z)
set_option maxHeartbeats 4000000 in
theorem lb_dead (h : LC p s m meth c b L xs D aC ad) (hCC : CC ≤ 600000 ∧ SS ≤ 7302250) (hL : L ≤ 3584) (hi : i + 7 ≤ L) (hR : Rel bb M) (hP : va_P D vwCl (rws aC ad M N (pr bb)) H) (hS : va_S (Aad ad) s.heap H locs) (hl : lv_has ls 4 (LV b i ad))
    (kk : ∀ (bb : Bool) (M : Mt) (N : Nt) (H : Heap) (locs : List Loc), Rel bb M → va_P D vwCl (rws aC ad M N (pr bb)) H → va_S (Aad ad) s.heap H locs → W p l e room_1 s m #[Value.ref b] below meth c H locs CC SS Q (F0 m 923 ls [])) : W p l e room_1 s m #[Value.ref b] below meth c H locs CC SS Q (F0 m 173 ls []) := by
  obtain ⟨hx, hb, hrt, hml, hown, hts, hX, hbl, hlocks, hgv⟩ := id h.1
  have hbA := b_out h
  refine lv_aload_n hx hb dL_law_173 rfl (lv_at hl 2 rfl) ?_
  refine lv_aload_n hx hb dL_law_174 rfl (lv_at hl 1 rfl) ?_
  refine lv_iload_n hx hb dL_law_175 rfl (lv_at hl 0 rfl) ?_
  refine lv_iconst (v := nI 1) hx hb dL_law_176 (by decide) ?_
  refine lv_iadd hx hb dL_law_177 ?_
  refine va_sld hx hb hX hbl hbA hS (in_j hi hL (by decide)) dL_law_178 ?_
  refine lv_aload_n hx hb dL_law_179 rfl (lv_at hl 1 rfl) ?_
  refine lv_iload_n hx hb dL_law_180 rfl (lv_at hl 0 rfl) ?_
  refine lv_iconst (v := nI 2) hx hb dL_law_181 (by decide) ?_
  refine lv_iadd hx hb dL_law_182 ?_
  refine va_sld hx hb hX hbl hbA hS (in_j hi hL (by decide)) dL_law_183 ?_
  refine lawCall (y := mX11_dead) (r := 0) (As := [.int (xs (nI i + nI 1).toNatClampNeg), .int (xs (nI i + nI 2).toNatClampNeg)]) (rest := []) h hCC (Wp.ti (Both.wp (pub_dead (d := 0) (N := N) hR)) rfl (by decide)) ⟨rfl, Nat.le_of_ble_eq_true rfl, Nat.le_of_ble_eq_true rfl⟩ rfl (Or.inl ⟨11, TX11, _, rfl, rfl⟩) ⟨11, TX11, _, rfl, rfl⟩ tm_L_18 ti_X11_dead tse_X11_dead tin_X11 tc_X11_dead ⟨⟨by decide, by decide⟩, by decide⟩ hl.1 dL_law_184 (by decide) hP hS (fun v M1 N1 P1 H1 locs1 hk hP1 hS1 => ?_)
  obtain ⟨hk, x, rfl⟩ := hk
  refine W.eq (g2 := F0 m 187 ls [.int x]) rfl ?_
  have hS := hS1
  refine lv_aload_n hx hb dL_law_187 rfl (lv_at hl 3 rfl) ?_
  refine lv_aload_n hx hb dL_law_188 rfl (lv_at hl 1 rfl) ?_
  refine lv_iload_n hx hb dL_law_189 rfl (lv_at hl 0 rfl) ?_
  refine lv_iconst (v := nI 1) hx hb dL_law_190 (by decide) ?_
  refine lv_iadd hx hb dL_law_191 ?_
  refine va_sld hx hb hX hbl hbA hS (in_j hi hL (by decide)) dL_law_192 ?_
  refine lv_aload_n hx hb dL_law_193 rfl (lv_at hl 1 rfl) ?_
  refine lv_iload_n hx hb dL_law_194 rfl (lv_at hl 0 rfl) ?_
  refine lv_iconst (v := nI 2) hx hb dL_law_195 (by decide) ?_
  refine lv_iadd hx hb dL_law_196 ?_
  refine va_sld hx hb hX hbl hbA hS (in_j hi hL (by decide)) dL_law_197 ?_
  refine lawCall (y := mX12_dead) (r := 50) (As := [.int (xs (nI i + nI 1).toNatClampNeg), .int (xs (nI i + nI 2).toNatClampNeg)]) (rest := [.int x]) h hCC hk ⟨rfl, Nat.le_of_ble_eq_true rfl, Nat.le_of_ble_eq_true rfl⟩ rfl (Or.inl ⟨12, TX12, _, rfl, rfl⟩) ⟨12, TX12, _, rfl, rfl⟩ tm_L_22 ti_X12_dead tse_X12_dead tin_X12 tc_X12_dead ⟨⟨by decide, by decide⟩, by decide⟩ hl.1 dL_law_198 (by show 1 + 0 ≤ 8; omega) hP1 hS1 (fun v2 M2 N2 P2 H2 locs2 hq hP2 hS2 => ?_)
  obtain ⟨rfl, b2, rfl, hR2⟩ := hq
  refine W.eq (g2 := F0 m 201 ls [.int x, .int x]) rfl ?_
  exact lv_icmp_eq (tgt := 923) hx hb dL_law_201 (by decide) (fun _ => kk b2 M2 N2 H2 locs2 hR2 hP2 hS2) (fun z => absurd rfl z)
set_option maxHeartbeats 4000000 in
theorem lb_house (h : LC p s m meth c b L xs D aC ad) (hCC : CC ≤ 600000 ∧ SS ≤ 7302250) (hL : L ≤ 3584) (hi : i + 7 ≤ L) (hR : Rel bb M) (hP : va_P D vwCl (rws aC ad M N (pr bb)) H) (hS : va_S (Aad ad) s.heap H locs) (hl : lv_has ls 4 (LV b i ad))
    (kk : ∀ (bb : Bool) (M : Mt) (N : Nt) (H : Heap) (locs : List Loc), Rel bb M → va_P D vwCl (rws aC ad M N (pr bb)) H → va_S (Aad ad) s.heap H locs → W p l e room_1 s m #[Value.ref b] below meth c H locs CC SS Q (F0 m 923 ls [])) : W p l e room_1 s m #[Value.ref b] below meth c H locs CC SS Q (F0 m 206 ls []) := by
  obtain ⟨hx, hb, hrt, hml, hown, hts, hX, hbl, hlocks, hgv⟩ := id h.1
  have hbA := b_out h
  refine lv_aload_n hx hb dL_law_206 rfl (lv_at hl 2 rfl) ?_
  refine lv_aload_n hx hb dL_law_207 rfl (lv_at hl 1 rfl) ?_
  refine lv_iload_n hx hb dL_law_208 rfl (lv_at hl 0 rfl) ?_
  refine lv_iconst (v := nI 1) hx hb dL_law_209 (by decide) ?_
  refine lv_iadd hx hb dL_law_210 ?_
  refine va_sld hx hb hX hbl hbA hS (in_j hi hL (by decide)) dL_law_211 ?_
  refine lv_aload_n hx hb dL_law_212 rfl (lv_at hl 1 rfl) ?_
  refine lv_iload_n hx hb dL_law_213 rfl (lv_at hl 0 rfl) ?_
  refine lv_iconst (v := nI 2) hx hb dL_law_214 (by decide) ?_
  refine lv_iadd hx hb dL_law_215 ?_
  refine va_sld hx hb hX hbl hbA hS (in_j hi hL (by decide)) dL_law_216 ?_
  refine lawCall (y := mX11_house) (r := 0) (As := [.int (xs (nI i + nI 1).toNatClampNeg), .int (xs (nI i + nI 2).toNatClampNeg)]) (rest := []) h hCC (Wp.ti (Both.wp (pub_house (d := 0) (N := N) hR)) rfl (by decide)) ⟨rfl, Nat.le_of_ble_eq_true rfl, Nat.le_of_ble_eq_true rfl⟩ rfl (Or.inl ⟨11, TX11, _, rfl, rfl⟩) ⟨11, TX11, _, rfl, rfl⟩ tm_L_23 ti_X11_house tse_X11_house tin_X11 tc_X11_house ⟨⟨by decide, by decide⟩, by decide⟩ hl.1 dL_law_217 (by decide) hP hS (fun v M1 N1 P1 H1 locs1 hk hP1 hS1 => ?_)
  obtain ⟨hk, x, rfl⟩ := hk
  refine W.eq (g2 := F0 m 220 ls [.int x]) rfl ?_
  have hS := hS1
  refine lv_aload_n hx hb dL_law_220 rfl (lv_at hl 3 rfl) ?_
  refine lv_aload_n hx hb dL_law_221 rfl (lv_at hl 1 rfl) ?_
  refine lv_iload_n hx hb dL_law_222 rfl (lv_at hl 0 rfl) ?_
  refine lv_iconst (v := nI 1) hx hb dL_law_223 (by decide) ?_
  refine lv_iadd hx hb dL_law_224 ?_
  refine va_sld hx hb hX hbl hbA hS (in_j hi hL (by decide)) dL_law_225 ?_
  refine lv_aload_n hx hb dL_law_226 rfl (lv_at hl 1 rfl) ?_
  refine lv_iload_n hx hb dL_law_227 rfl (lv_at hl 0 rfl) ?_
  refine lv_iconst (v := nI 2) hx hb dL_law_228 (by decide) ?_
  refine lv_iadd hx hb dL_law_229 ?_
  refine va_sld hx hb hX hbl hbA hS (in_j hi hL (by decide)) dL_law_230 ?_
  refine lawCall (y := mX12_house) (r := 50) (As := [.int (xs (nI i + nI 1).toNatClampNeg), .int (xs (nI i + nI 2).toNatClampNeg)]) (rest := [.int x]) h hCC hk ⟨rfl, Nat.le_of_ble_eq_true rfl, Nat.le_of_ble_eq_true rfl⟩ rfl (Or.inl ⟨12, TX12, _, rfl, rfl⟩) ⟨12, TX12, _, rfl, rfl⟩ tm_L_26 ti_X12_house tse_X12_house tin_X12 tc_X12_house ⟨⟨by decide, by decide⟩, by decide⟩ hl.1 dL_law_231 (by show 1 + 0 ≤ 8; omega) hP1 hS1 (fun v2 M2 N2 P2 H2 locs2 hq hP2 hS2 => ?_)
  obtain ⟨rfl, b2, rfl, hR2⟩ := hq
  refine W.eq (g2 := F0 m 234 ls [.int x, .int x]) rfl ?_
  exact lv_icmp_eq (tgt := 923) hx hb dL_law_234 (by decide) (fun _ => kk b2 M2 N2 H2 locs2 hR2 hP2 hS2) (fun z => absurd rfl z)
set_option maxHeartbeats 4000000 in
theorem lb_level (h : LC p s m meth c b L xs D aC ad) (hCC : CC ≤ 600000 ∧ SS ≤ 7302250) (hL : L ≤ 3584) (hi : i + 7 ≤ L) (hR : Rel bb M) (hP : va_P D vwCl (rws aC ad M N (pr bb)) H) (hS : va_S (Aad ad) s.heap H locs) (hl : lv_has ls 4 (LV b i ad))
    (kk : ∀ (bb : Bool) (M : Mt) (N : Nt) (H : Heap) (locs : List Loc), Rel bb M → va_P D vwCl (rws aC ad M N (pr bb)) H → va_S (Aad ad) s.heap H locs → W p l e room_1 s m #[Value.ref b] below meth c H locs CC SS Q (F0 m 923 ls [])) : W p l e room_1 s m #[Value.ref b] below meth c H locs CC SS Q (F0 m 239 ls []) := by
  obtain ⟨hx, hb, hrt, hml, hown, hts, hX, hbl, hlocks, hgv⟩ := id h.1
  have hbA := b_out h
  refine lv_aload_n hx hb dL_law_239 rfl (lv_at hl 2 rfl) ?_
  refine lv_aload_n hx hb dL_law_240 rfl (lv_at hl 1 rfl) ?_
  refine lv_iload_n hx hb dL_law_241 rfl (lv_at hl 0 rfl) ?_
  refine lv_iconst (v := nI 1) hx hb dL_law_242 (by decide) ?_
  refine lv_iadd hx hb dL_law_243 ?_
  refine va_sld hx hb hX hbl hbA hS (in_j hi hL (by decide)) dL_law_244 ?_
  refine lv_aload_n hx hb dL_law_245 rfl (lv_at hl 1 rfl) ?_
  refine lv_iload_n hx hb dL_law_246 rfl (lv_at hl 0 rfl) ?_
  refine lv_iconst (v := nI 2) hx hb dL_law_247 (by decide) ?_
  refine lv_iadd hx hb dL_law_248 ?_
  refine va_sld hx hb hX hbl hbA hS (in_j hi hL (by decide)) dL_law_249 ?_
  refine lawCall (y := mX11_level) (r := 0) (As := [.int (xs (nI i + nI 1).toNatClampNeg), .int (xs (nI i + nI 2).toNatClampNeg)]) (rest := []) h hCC (Wp.ti (Both.wp (pub_level (d := 0) (N := N) hR)) rfl (by decide)) ⟨rfl, Nat.le_of_ble_eq_true rfl, Nat.le_of_ble_eq_true rfl⟩ rfl (Or.inl ⟨11, TX11, _, rfl, rfl⟩) ⟨11, TX11, _, rfl, rfl⟩ tm_L_27 ti_X11_level tse_X11_level tin_X11 tc_X11_level ⟨⟨by decide, by decide⟩, by decide⟩ hl.1 dL_law_250 (by decide) hP hS (fun v M1 N1 P1 H1 locs1 hk hP1 hS1 => ?_)
  obtain ⟨hk, x, rfl⟩ := hk
  refine W.eq (g2 := F0 m 253 ls [.int x]) rfl ?_
  have hS := hS1
  refine lv_aload_n hx hb dL_law_253 rfl (lv_at hl 3 rfl) ?_
  refine lv_aload_n hx hb dL_law_254 rfl (lv_at hl 1 rfl) ?_
  refine lv_iload_n hx hb dL_law_255 rfl (lv_at hl 0 rfl) ?_
  refine lv_iconst (v := nI 1) hx hb dL_law_256 (by decide) ?_
  refine lv_iadd hx hb dL_law_257 ?_
  refine va_sld hx hb hX hbl hbA hS (in_j hi hL (by decide)) dL_law_258 ?_
  refine lv_aload_n hx hb dL_law_259 rfl (lv_at hl 1 rfl) ?_
  refine lv_iload_n hx hb dL_law_260 rfl (lv_at hl 0 rfl) ?_
  refine lv_iconst (v := nI 2) hx hb dL_law_261 (by decide) ?_
  refine lv_iadd hx hb dL_law_262 ?_
  refine va_sld hx hb hX hbl hbA hS (in_j hi hL (by decide)) dL_law_263 ?_
  refine lawCall (y := mX12_level) (r := 50) (As := [.int (xs (nI i + nI 1).toNatClampNeg), .int (xs (nI i + nI 2).toNatClampNeg)]) (rest := [.int x]) h hCC hk ⟨rfl, Nat.le_of_ble_eq_true rfl, Nat.le_of_ble_eq_true rfl⟩ rfl (Or.inl ⟨12, TX12, _, rfl, rfl⟩) ⟨12, TX12, _, rfl, rfl⟩ tm_L_30 ti_X12_level tse_X12_level tin_X12 tc_X12_level ⟨⟨by decide, by decide⟩, by decide⟩ hl.1 dL_law_264 (by show 1 + 0 ≤ 8; omega) hP1 hS1 (fun v2 M2 N2 P2 H2 locs2 hq hP2 hS2 => ?_)
  obtain ⟨rfl, b2, rfl, hR2⟩ := hq
  refine W.eq (g2 := F0 m 267 ls [.int x, .int x]) rfl ?_
  exact lv_icmp_eq (tgt := 923) hx hb dL_law_267 (by decide) (fun _ => kk b2 M2 N2 H2 locs2 hR2 hP2 hS2) (fun z => absurd rfl z)
set_option maxHeartbeats 4000000 in
theorem lb_money (h : LC p s m meth c b L xs D aC ad) (hCC : CC ≤ 600000 ∧ SS ≤ 7302250) (hL : L ≤ 3584) (hi : i + 7 ≤ L) (hR : Rel bb M) (hP : va_P D vwCl (rws aC ad M N (pr bb)) H) (hS : va_S (Aad ad) s.heap H locs) (hl : lv_has ls 4 (LV b i ad))
    (kk : ∀ (bb : Bool) (M : Mt) (N : Nt) (H : Heap) (locs : List Loc), Rel bb M → va_P D vwCl (rws aC ad M N (pr bb)) H → va_S (Aad ad) s.heap H locs → W p l e room_1 s m #[Value.ref b] below meth c H locs CC SS Q (F0 m 923 ls [])) : W p l e room_1 s m #[Value.ref b] below meth c H locs CC SS Q (F0 m 272 ls []) := by
  obtain ⟨hx, hb, hrt, hml, hown, hts, hX, hbl, hlocks, hgv⟩ := id h.1
  have hbA := b_out h
  refine lv_aload_n hx hb dL_law_272 rfl (lv_at hl 2 rfl) ?_
  refine lv_aload_n hx hb dL_law_273 rfl (lv_at hl 1 rfl) ?_
  refine lv_iload_n hx hb dL_law_274 rfl (lv_at hl 0 rfl) ?_
  refine lv_iconst (v := nI 1) hx hb dL_law_275 (by decide) ?_
  refine lv_iadd hx hb dL_law_276 ?_
  refine va_sld hx hb hX hbl hbA hS (in_j hi hL (by decide)) dL_law_277 ?_
  refine lv_aload_n hx hb dL_law_278 rfl (lv_at hl 1 rfl) ?_
  refine lv_iload_n hx hb dL_law_279 rfl (lv_at hl 0 rfl) ?_
  refine lv_iconst (v := nI 2) hx hb dL_law_280 (by decide) ?_
  refine lv_iadd hx hb dL_law_281 ?_
  refine va_sld hx hb hX hbl hbA hS (in_j hi hL (by decide)) dL_law_282 ?_
  refine lv_aload_n hx hb dL_law_283 rfl (lv_at hl 1 rfl) ?_
  refine lv_iload_n hx hb dL_law_284 rfl (lv_at hl 0 rfl) ?_
  refine lv_iconst (v := nI 3) hx hb dL_law_285 (by decide) ?_
  refine lv_iadd hx hb dL_law_286 ?_
  refine va_sld hx hb hX hbl hbA hS (in_j hi hL (by decide)) dL_law_287 ?_
  refine lawCall (y := mX11_money) (r := 0) (As := [.int (xs (nI i + nI 1).toNatClampNeg), .int (xs (nI i + nI 2).toNatClampNeg), .int (xs (nI i + nI 3).toNatClampNeg)]) (rest := []) h hCC (BothL.wp (pub_money (d := 0) (N := N) hR)) ⟨rfl, Nat.le_of_ble_eq_true rfl, Nat.le_of_ble_eq_true rfl⟩ rfl (Or.inl ⟨11, TX11, _, rfl, rfl⟩) ⟨11, TX11, _, rfl, rfl⟩ tm_L_31 ti_X11_money tse_X11_money tin_X11 tc_X11_money ⟨⟨by decide, by decide⟩, by decide⟩ hl.1 dL_law_288 (by decide) hP hS (fun v M1 N1 P1 H1 locs1 hk hP1 hS1 => ?_)
  rw [List.append_nil]
  have hS := hS1
  refine lv_aload_n hx hb dL_law_291 rfl (lv_at hl 3 rfl) ?_
  refine lv_aload_n hx hb dL_law_292 rfl (lv_at hl 1 rfl) ?_
  refine lv_iload_n hx hb dL_law_293 rfl (lv_at hl 0 rfl) ?_
  refine lv_iconst (v := nI 1) hx hb dL_law_294 (by decide) ?_
  refine lv_iadd hx hb dL_law_295 ?_
  refine va_sld hx hb hX hbl hbA hS (in_j hi hL (by decide)) dL_law_296 ?_
  refine lv_aload_n hx hb dL_law_297 rfl (lv_at hl 1 rfl) ?_
  refine lv_iload_n hx hb dL_law_298 rfl (lv_at hl 0 rfl) ?_
  refine lv_iconst (v := nI 2) hx hb dL_law_299 (by decide) ?_
  refine lv_iadd hx hb dL_law_300 ?_
  refine va_sld hx hb hX hbl hbA hS (in_j hi hL (by decide)) dL_law_301 ?_
  refine lv_aload_n hx hb dL_law_302 rfl (lv_at hl 1 rfl) ?_
  refine lv_iload_n hx hb dL_law_303 rfl (lv_at hl 0 rfl) ?_
  refine lv_iconst (v := nI 3) hx hb dL_law_304 (by decide) ?_
  refine lv_iadd hx hb dL_law_305 ?_
  refine va_sld hx hb hX hbl hbA hS (in_j hi hL (by decide)) dL_law_306 ?_
  refine lawCall (y := mX12_money) (r := 50) (As := [.int (xs (nI i + nI 1).toNatClampNeg), .int (xs (nI i + nI 2).toNatClampNeg), .int (xs (nI i + nI 3).toNatClampNeg)]) (rest := (v.map (cvv ad)).toList) h hCC hk ⟨rfl, Nat.le_of_ble_eq_true rfl, Nat.le_of_ble_eq_true rfl⟩ rfl (Or.inl ⟨12, TX12, _, rfl, rfl⟩) ⟨12, TX12, _, rfl, rfl⟩ tm_L_35 ti_X12_money tse_X12_money tin_X12 tc_X12_money ⟨⟨by decide, by decide⟩, by decide⟩ hl.1 dL_law_307 (optcat v) hP1 hS1 (fun v2 M2 N2 P2 H2 locs2 hq hP2 hS2 => ?_)
  obtain ⟨rfl, ⟨x, rfl⟩, b2, rfl, hR2⟩ := hq
  refine W.eq (g2 := F0 m 310 ls [.long x, .long x]) rfl ?_
  refine W.lcmp hx hb dL_law_310 ?_
  exact lv_if_eq (tgt := 923) hx hb dL_law_311 (by decide) (fun _ => kk b2 M2 N2 H2 locs2 hR2 hP2 hS2) (fun z => absurd (by rw [lg_cmp_eq]) z)
set_option maxHeartbeats 4000000 in
theorem lb_paper (h : LC p s m meth c b L xs D aC ad) (hCC : CC ≤ 600000 ∧ SS ≤ 7302250) (hL : L ≤ 3584) (hi : i + 7 ≤ L) (hR : Rel bb M) (hP : va_P D vwCl (rws aC ad M N (pr bb)) H) (hS : va_S (Aad ad) s.heap H locs) (hl : lv_has ls 4 (LV b i ad))
    (kk : ∀ (bb : Bool) (M : Mt) (N : Nt) (H : Heap) (locs : List Loc), Rel bb M → va_P D vwCl (rws aC ad M N (pr bb)) H → va_S (Aad ad) s.heap H locs → W p l e room_1 s m #[Value.ref b] below meth c H locs CC SS Q (F0 m 923 ls [])) : W p l e room_1 s m #[Value.ref b] below meth c H locs CC SS Q (F0 m 316 ls []) := by
  obtain ⟨hx, hb, hrt, hml, hown, hts, hX, hbl, hlocks, hgv⟩ := id h.1
  have hbA := b_out h
  refine lv_aload_n hx hb dL_law_316 rfl (lv_at hl 2 rfl) ?_
  refine lv_aload_n hx hb dL_law_317 rfl (lv_at hl 1 rfl) ?_
  refine lv_iload_n hx hb dL_law_318 rfl (lv_at hl 0 rfl) ?_
  refine lv_iconst (v := nI 1) hx hb dL_law_319 (by decide) ?_
  refine lv_iadd hx hb dL_law_320 ?_
  refine va_sld hx hb hX hbl hbA hS (in_j hi hL (by decide)) dL_law_321 ?_
  refine lv_aload_n hx hb dL_law_322 rfl (lv_at hl 1 rfl) ?_
  refine lv_iload_n hx hb dL_law_323 rfl (lv_at hl 0 rfl) ?_
  refine lv_iconst (v := nI 2) hx hb dL_law_324 (by decide) ?_
  refine lv_iadd hx hb dL_law_325 ?_
  refine va_sld hx hb hX hbl hbA hS (in_j hi hL (by decide)) dL_law_326 ?_
  refine lv_aload_n hx hb dL_law_327 rfl (lv_at hl 1 rfl) ?_
  refine lv_iload_n hx hb dL_law_328 rfl (lv_at hl 0 rfl) ?_
  refine lv_iconst (v := nI 3) hx hb dL_law_329 (by decide) ?_
  refine lv_iadd hx hb dL_law_330 ?_
  refine va_sld hx hb hX hbl hbA hS (in_j hi hL (by decide)) dL_law_331 ?_
  refine lv_aload_n hx hb dL_law_332 rfl (lv_at hl 1 rfl) ?_
  refine lv_iload_n hx hb dL_law_333 rfl (lv_at hl 0 rfl) ?_
  refine lv_iconst (v := nI 4) hx hb dL_law_334 (by decide) ?_
  refine lv_iadd hx hb dL_law_335 ?_
  refine va_sld hx hb hX hbl hbA hS (in_j hi hL (by decide)) dL_law_336 ?_
  refine lv_aload_n hx hb dL_law_337 rfl (lv_at hl 1 rfl) ?_
  refine lv_iload_n hx hb dL_law_338 rfl (lv_at hl 0 rfl) ?_
  refine lv_iconst (v := nI 5) hx hb dL_law_339 (by decide) ?_
  refine lv_iadd hx hb dL_law_340 ?_
  refine va_sld hx hb hX hbl hbA hS (in_j hi hL (by decide)) dL_law_341 ?_
  refine lv_aload_n hx hb dL_law_342 rfl (lv_at hl 1 rfl) ?_
  refine lv_iload_n hx hb dL_law_343 rfl (lv_at hl 0 rfl) ?_
  refine lv_bipush (v := nI 6) hx hb dL_law_344 (by decide) ?_
  refine lv_iadd hx hb dL_law_346 ?_
  refine va_sld hx hb hX hbl hbA hS (in_j hi hL (by decide)) dL_law_347 ?_
  refine lawCall (y := mX11_paper) (r := 0) (As := [.int (xs (nI i + nI 1).toNatClampNeg), .int (xs (nI i + nI 2).toNatClampNeg), .int (xs (nI i + nI 3).toNatClampNeg), .int (xs (nI i + nI 4).toNatClampNeg), .int (xs (nI i + nI 5).toNatClampNeg), .int (xs (nI i + nI 6).toNatClampNeg)]) (rest := []) h hCC (Wp.ti (Both.wp (pub_paper (d := 0) (N := N) hR)) rfl (by decide)) ⟨rfl, Nat.le_of_ble_eq_true rfl, Nat.le_of_ble_eq_true rfl⟩ rfl (Or.inl ⟨11, TX11, _, rfl, rfl⟩) ⟨11, TX11, _, rfl, rfl⟩ tm_L_36 ti_X11_paper tse_X11_paper tin_X11 tc_X11_paper ⟨⟨by decide, by decide⟩, by decide⟩ hl.1 dL_law_348 (by decide) hP hS (fun v M1 N1 P1 H1 locs1 hk hP1 hS1 => ?_)
  obtain ⟨hk, x, rfl⟩ := hk
  refine W.eq (g2 := F0 m 351 ls [.int x]) rfl ?_
  have hS := hS1
  refine lv_aload_n hx hb dL_law_351 rfl (lv_at hl 3 rfl) ?_
  refine lv_aload_n hx hb dL_law_352 rfl (lv_at hl 1 rfl) ?_
  refine lv_iload_n hx hb dL_law_353 rfl (lv_at hl 0 rfl) ?_
  refine lv_iconst (v := nI 1) hx hb dL_law_354 (by decide) ?_
  refine lv_iadd hx hb dL_law_355 ?_
  refine va_sld hx hb hX hbl hbA hS (in_j hi hL (by decide)) dL_law_356 ?_
  refine lv_aload_n hx hb dL_law_357 rfl (lv_at hl 1 rfl) ?_
  refine lv_iload_n hx hb dL_law_358 rfl (lv_at hl 0 rfl) ?_
  refine lv_iconst (v := nI 2) hx hb dL_law_359 (by decide) ?_
  refine lv_iadd hx hb dL_law_360 ?_
  refine va_sld hx hb hX hbl hbA hS (in_j hi hL (by decide)) dL_law_361 ?_
  refine lv_aload_n hx hb dL_law_362 rfl (lv_at hl 1 rfl) ?_
  refine lv_iload_n hx hb dL_law_363 rfl (lv_at hl 0 rfl) ?_
  refine lv_iconst (v := nI 3) hx hb dL_law_364 (by decide) ?_
  refine lv_iadd hx hb dL_law_365 ?_
  refine va_sld hx hb hX hbl hbA hS (in_j hi hL (by decide)) dL_law_366 ?_
  refine lv_aload_n hx hb dL_law_367 rfl (lv_at hl 1 rfl) ?_
  refine lv_iload_n hx hb dL_law_368 rfl (lv_at hl 0 rfl) ?_
  refine lv_iconst (v := nI 4) hx hb dL_law_369 (by decide) ?_
  refine lv_iadd hx hb dL_law_370 ?_
  refine va_sld hx hb hX hbl hbA hS (in_j hi hL (by decide)) dL_law_371 ?_
  refine lv_aload_n hx hb dL_law_372 rfl (lv_at hl 1 rfl) ?_
  refine lv_iload_n hx hb dL_law_373 rfl (lv_at hl 0 rfl) ?_
  refine lv_iconst (v := nI 5) hx hb dL_law_374 (by decide) ?_
  refine lv_iadd hx hb dL_law_375 ?_
  refine va_sld hx hb hX hbl hbA hS (in_j hi hL (by decide)) dL_law_376 ?_
  refine lv_aload_n hx hb dL_law_377 rfl (lv_at hl 1 rfl) ?_
  refine lv_iload_n hx hb dL_law_378 rfl (lv_at hl 0 rfl) ?_
  refine lv_bipush (v := nI 6) hx hb dL_law_379 (by decide) ?_
  refine lv_iadd hx hb dL_law_381 ?_
  refine va_sld hx hb hX hbl hbA hS (in_j hi hL (by decide)) dL_law_382 ?_
  refine lawCall (y := mX12_paper) (r := 50) (As := [.int (xs (nI i + nI 1).toNatClampNeg), .int (xs (nI i + nI 2).toNatClampNeg), .int (xs (nI i + nI 3).toNatClampNeg), .int (xs (nI i + nI 4).toNatClampNeg), .int (xs (nI i + nI 5).toNatClampNeg), .int (xs (nI i + nI 6).toNatClampNeg)]) (rest := [.int x]) h hCC hk ⟨rfl, Nat.le_of_ble_eq_true rfl, Nat.le_of_ble_eq_true rfl⟩ rfl (Or.inl ⟨12, TX12, _, rfl, rfl⟩) ⟨12, TX12, _, rfl, rfl⟩ tm_L_40 ti_X12_paper tse_X12_paper tin_X12 tc_X12_paper ⟨⟨by decide, by decide⟩, by decide⟩ hl.1 dL_law_383 (by show 1 + 0 ≤ 8; omega) hP1 hS1 (fun v2 M2 N2 P2 H2 locs2 hq hP2 hS2 => ?_)
  obtain ⟨rfl, b2, rfl, hR2⟩ := hq
  refine W.eq (g2 := F0 m 386 ls [.int x, .int x]) rfl ?_
  exact lv_icmp_eq (tgt := 923) hx hb dL_law_386 (by decide) (fun _ => kk b2 M2 N2 H2 locs2 hR2 hP2 hS2) (fun z => absurd rfl z)
set_option maxHeartbeats 4000000 in
theorem lb_isFalse (h : LC p s m meth c b L xs D aC ad) (hCC : CC ≤ 600000 ∧ SS ≤ 7302250) (hL : L ≤ 3584) (hi : i + 7 ≤ L) (hR : Rel bb M) (hP : va_P D vwCl (rws aC ad M N (pr bb)) H) (hS : va_S (Aad ad) s.heap H locs) (hl : lv_has ls 4 (LV b i ad))
    (kk : ∀ (bb : Bool) (M : Mt) (N : Nt) (H : Heap) (locs : List Loc), Rel bb M → va_P D vwCl (rws aC ad M N (pr bb)) H → va_S (Aad ad) s.heap H locs → W p l e room_1 s m #[Value.ref b] below meth c H locs CC SS Q (F0 m 923 ls [])) : W p l e room_1 s m #[Value.ref b] below meth c H locs CC SS Q (F0 m 391 ls []) := by
  obtain ⟨hx, hb, hrt, hml, hown, hts, hX, hbl, hlocks, hgv⟩ := id h.1
  have hbA := b_out h
  refine lv_aload_n hx hb dL_law_391 rfl (lv_at hl 2 rfl) ?_
  refine lv_aload_n hx hb dL_law_392 rfl (lv_at hl 1 rfl) ?_
  refine lv_iload_n hx hb dL_law_393 rfl (lv_at hl 0 rfl) ?_
  refine lv_iconst (v := nI 1) hx hb dL_law_394 (by decide) ?_
  refine lv_iadd hx hb dL_law_395 ?_
  refine va_sld hx hb hX hbl hbA hS (in_j hi hL (by decide)) dL_law_396 ?_
  refine lawCall (y := mX11_isFalse) (r := 0) (As := [.int (xs (nI i + nI 1).toNatClampNeg)]) (rest := []) h hCC (Wp.ti (Both.wp (pub_isFalse (d := 0) (N := N) hR)) rfl (by decide)) ⟨rfl, Nat.le_of_ble_eq_true rfl, Nat.le_of_ble_eq_true rfl⟩ rfl (Or.inl ⟨11, TX11, _, rfl, rfl⟩) ⟨11, TX11, _, rfl, rfl⟩ tm_L_41 ti_X11_isFalse tse_X11_isFalse tin_X11 tc_X11_isFalse ⟨⟨by decide, by decide⟩, by decide⟩ hl.1 dL_law_397 (by decide) hP hS (fun v M1 N1 P1 H1 locs1 hk hP1 hS1 => ?_)
  obtain ⟨hk, x, rfl⟩ := hk
  refine W.eq (g2 := F0 m 400 ls [.int x]) rfl ?_
  have hS := hS1
  refine lv_aload_n hx hb dL_law_400 rfl (lv_at hl 3 rfl) ?_
  refine lv_aload_n hx hb dL_law_401 rfl (lv_at hl 1 rfl) ?_
  refine lv_iload_n hx hb dL_law_402 rfl (lv_at hl 0 rfl) ?_
  refine lv_iconst (v := nI 1) hx hb dL_law_403 (by decide) ?_
  refine lv_iadd hx hb dL_law_404 ?_
  refine va_sld hx hb hX hbl hbA hS (in_j hi hL (by decide)) dL_law_405 ?_
  refine lawCall (y := mX12_isFalse) (r := 50) (As := [.int (xs (nI i + nI 1).toNatClampNeg)]) (rest := [.int x]) h hCC hk ⟨rfl, Nat.le_of_ble_eq_true rfl, Nat.le_of_ble_eq_true rfl⟩ rfl (Or.inl ⟨12, TX12, _, rfl, rfl⟩) ⟨12, TX12, _, rfl, rfl⟩ tm_L_45 ti_X12_isFalse tse_X12_isFalse tin_X12 tc_X12_isFalse ⟨⟨by decide, by decide⟩, by decide⟩ hl.1 dL_law_406 (by show 1 + 0 ≤ 8; omega) hP1 hS1 (fun v2 M2 N2 P2 H2 locs2 hq hP2 hS2 => ?_)
  obtain ⟨rfl, b2, rfl, hR2⟩ := hq
  refine W.eq (g2 := F0 m 409 ls [.int x, .int x]) rfl ?_
  exact lv_icmp_eq (tgt := 923) hx hb dL_law_409 (by decide) (fun _ => kk b2 M2 N2 H2 locs2 hR2 hP2 hS2) (fun z => absurd rfl z)
set_option maxHeartbeats 4000000 in
theorem lb_later (h : LC p s m meth c b L xs D aC ad) (hCC : CC ≤ 600000 ∧ SS ≤ 7302250) (hL : L ≤ 3584) (hi : i + 7 ≤ L) (hR : Rel bb M) (hP : va_P D vwCl (rws aC ad M N (pr bb)) H) (hS : va_S (Aad ad) s.heap H locs) (hl : lv_has ls 4 (LV b i ad))
    (kk : ∀ (bb : Bool) (M : Mt) (N : Nt) (H : Heap) (locs : List Loc), Rel bb M → va_P D vwCl (rws aC ad M N (pr bb)) H → va_S (Aad ad) s.heap H locs → W p l e room_1 s m #[Value.ref b] below meth c H locs CC SS Q (F0 m 923 ls [])) : W p l e room_1 s m #[Value.ref b] below meth c H locs CC SS Q (F0 m 414 ls []) := by
  obtain ⟨hx, hb, hrt, hml, hown, hts, hX, hbl, hlocks, hgv⟩ := id h.1
  have hbA := b_out h
  refine lv_aload_n hx hb dL_law_414 rfl (lv_at hl 2 rfl) ?_
  refine lv_aload_n hx hb dL_law_415 rfl (lv_at hl 1 rfl) ?_
  refine lv_iload_n hx hb dL_law_416 rfl (lv_at hl 0 rfl) ?_
  refine lv_iconst (v := nI 1) hx hb dL_law_417 (by decide) ?_
  refine lv_iadd hx hb dL_law_418 ?_
  refine va_sld hx hb hX hbl hbA hS (in_j hi hL (by decide)) dL_law_419 ?_
  refine lawCall (y := mX11_later) (r := 0) (As := [.int (xs (nI i + nI 1).toNatClampNeg)]) (rest := []) h hCC (Wp.ti (Both.wp (pub_later (d := 0) (N := N) hR)) rfl (by decide)) ⟨rfl, Nat.le_of_ble_eq_true rfl, Nat.le_of_ble_eq_true rfl⟩ rfl (Or.inl ⟨11, TX11, _, rfl, rfl⟩) ⟨11, TX11, _, rfl, rfl⟩ tm_L_46 ti_X11_later tse_X11_later tin_X11 tc_X11_later ⟨⟨by decide, by decide⟩, by decide⟩ hl.1 dL_law_420 (by decide) hP hS (fun v M1 N1 P1 H1 locs1 hk hP1 hS1 => ?_)
  obtain ⟨hk, x, rfl⟩ := hk
  refine W.eq (g2 := F0 m 423 ls [.int x]) rfl ?_
  have hS := hS1
  refine lv_aload_n hx hb dL_law_423 rfl (lv_at hl 3 rfl) ?_
  refine lv_aload_n hx hb dL_law_424 rfl (lv_at hl 1 rfl) ?_
  refine lv_iload_n hx hb dL_law_425 rfl (lv_at hl 0 rfl) ?_
  refine lv_iconst (v := nI 1) hx hb dL_law_426 (by decide) ?_
  refine lv_iadd hx hb dL_law_427 ?_
  refine va_sld hx hb hX hbl hbA hS (in_j hi hL (by decide)) dL_law_428 ?_
  refine lawCall (y := mX12_later) (r := 50) (As := [.int (xs (nI i + nI 1).toNatClampNeg)]) (rest := [.int x]) h hCC hk ⟨rfl, Nat.le_of_ble_eq_true rfl, Nat.le_of_ble_eq_true rfl⟩ rfl (Or.inl ⟨12, TX12, _, rfl, rfl⟩) ⟨12, TX12, _, rfl, rfl⟩ tm_L_50 ti_X12_later tse_X12_later tin_X12 tc_X12_later ⟨⟨by decide, by decide⟩, by decide⟩ hl.1 dL_law_429 (by show 1 + 0 ≤ 8; omega) hP1 hS1 (fun v2 M2 N2 P2 H2 locs2 hq hP2 hS2 => ?_)
  obtain ⟨rfl, b2, rfl, hR2⟩ := hq
  refine W.eq (g2 := F0 m 432 ls [.int x, .int x]) rfl ?_
  exact lv_icmp_eq (tgt := 923) hx hb dL_law_432 (by decide) (fun _ => kk b2 M2 N2 H2 locs2 hR2 hP2 hS2) (fun z => absurd rfl z)
set_option maxHeartbeats 4000000 in
theorem lb_holder (h : LC p s m meth c b L xs D aC ad) (hCC : CC ≤ 600000 ∧ SS ≤ 7302250) (hL : L ≤ 3584) (hi : i + 7 ≤ L) (hR : Rel bb M) (hP : va_P D vwCl (rws aC ad M N (pr bb)) H) (hS : va_S (Aad ad) s.heap H locs) (hl : lv_has ls 4 (LV b i ad))
    (kk : ∀ (bb : Bool) (M : Mt) (N : Nt) (H : Heap) (locs : List Loc), Rel bb M → va_P D vwCl (rws aC ad M N (pr bb)) H → va_S (Aad ad) s.heap H locs → W p l e room_1 s m #[Value.ref b] below meth c H locs CC SS Q (F0 m 923 ls [])) : W p l e room_1 s m #[Value.ref b] below meth c H locs CC SS Q (F0 m 437 ls []) := by
  obtain ⟨hx, hb, hrt, hml, hown, hts, hX, hbl, hlocks, hgv⟩ := id h.1
  have hbA := b_out h
  refine lv_aload_n hx hb dL_law_437 rfl (lv_at hl 2 rfl) ?_
  refine lv_aload_n hx hb dL_law_438 rfl (lv_at hl 1 rfl) ?_
  refine lv_iload_n hx hb dL_law_439 rfl (lv_at hl 0 rfl) ?_
  refine lv_iconst (v := nI 1) hx hb dL_law_440 (by decide) ?_
  refine lv_iadd hx hb dL_law_441 ?_
  refine va_sld hx hb hX hbl hbA hS (in_j hi hL (by decide)) dL_law_442 ?_
  refine lv_aload_n hx hb dL_law_443 rfl (lv_at hl 1 rfl) ?_
  refine lv_iload_n hx hb dL_law_444 rfl (lv_at hl 0 rfl) ?_
  refine lv_iconst (v := nI 2) hx hb dL_law_445 (by decide) ?_
  refine lv_iadd hx hb dL_law_446 ?_
  refine va_sld hx hb hX hbl hbA hS (in_j hi hL (by decide)) dL_law_447 ?_
  refine lv_aload_n hx hb dL_law_448 rfl (lv_at hl 1 rfl) ?_
  refine lv_iload_n hx hb dL_law_449 rfl (lv_at hl 0 rfl) ?_
  refine lv_iconst (v := nI 3) hx hb dL_law_450 (by decide) ?_
  refine lv_iadd hx hb dL_law_451 ?_
  refine va_sld hx hb hX hbl hbA hS (in_j hi hL (by decide)) dL_law_452 ?_
  refine lawCall (y := mX11_holder) (r := 0) (As := [.int (xs (nI i + nI 1).toNatClampNeg), .int (xs (nI i + nI 2).toNatClampNeg), .int (xs (nI i + nI 3).toNatClampNeg)]) (rest := []) h hCC (Wp.ti (Both.wp (pub_holder (d := 0) (N := N) hR)) rfl (by decide)) ⟨rfl, Nat.le_of_ble_eq_true rfl, Nat.le_of_ble_eq_true rfl⟩ rfl (Or.inl ⟨11, TX11, _, rfl, rfl⟩) ⟨11, TX11, _, rfl, rfl⟩ tm_L_51 ti_X11_holder tse_X11_holder tin_X11 tc_X11_holder ⟨⟨by decide, by decide⟩, by decide⟩ hl.1 dL_law_453 (by decide) hP hS (fun v M1 N1 P1 H1 locs1 hk hP1 hS1 => ?_)
  obtain ⟨hk, x, rfl⟩ := hk
  refine W.eq (g2 := F0 m 456 ls [.int x]) rfl ?_
  have hS := hS1
  refine lv_aload_n hx hb dL_law_456 rfl (lv_at hl 3 rfl) ?_
  refine lv_aload_n hx hb dL_law_457 rfl (lv_at hl 1 rfl) ?_
  refine lv_iload_n hx hb dL_law_458 rfl (lv_at hl 0 rfl) ?_
  refine lv_iconst (v := nI 1) hx hb dL_law_459 (by decide) ?_
  refine lv_iadd hx hb dL_law_460 ?_
  refine va_sld hx hb hX hbl hbA hS (in_j hi hL (by decide)) dL_law_461 ?_
  refine lv_aload_n hx hb dL_law_462 rfl (lv_at hl 1 rfl) ?_
  refine lv_iload_n hx hb dL_law_463 rfl (lv_at hl 0 rfl) ?_
  refine lv_iconst (v := nI 2) hx hb dL_law_464 (by decide) ?_
  refine lv_iadd hx hb dL_law_465 ?_
  refine va_sld hx hb hX hbl hbA hS (in_j hi hL (by decide)) dL_law_466 ?_
  refine lv_aload_n hx hb dL_law_467 rfl (lv_at hl 1 rfl) ?_
  refine lv_iload_n hx hb dL_law_468 rfl (lv_at hl 0 rfl) ?_
  refine lv_iconst (v := nI 3) hx hb dL_law_469 (by decide) ?_
  refine lv_iadd hx hb dL_law_470 ?_
  refine va_sld hx hb hX hbl hbA hS (in_j hi hL (by decide)) dL_law_471 ?_
  refine lawCall (y := mX12_holder) (r := 50) (As := [.int (xs (nI i + nI 1).toNatClampNeg), .int (xs (nI i + nI 2).toNatClampNeg), .int (xs (nI i + nI 3).toNatClampNeg)]) (rest := [.int x]) h hCC hk ⟨rfl, Nat.le_of_ble_eq_true rfl, Nat.le_of_ble_eq_true rfl⟩ rfl (Or.inl ⟨12, TX12, _, rfl, rfl⟩) ⟨12, TX12, _, rfl, rfl⟩ tm_L_55 ti_X12_holder tse_X12_holder tin_X12 tc_X12_holder ⟨⟨by decide, by decide⟩, by decide⟩ hl.1 dL_law_472 (by show 1 + 0 ≤ 8; omega) hP1 hS1 (fun v2 M2 N2 P2 H2 locs2 hq hP2 hS2 => ?_)
  obtain ⟨rfl, b2, rfl, hR2⟩ := hq
  refine W.eq (g2 := F0 m 475 ls [.int x, .int x]) rfl ?_
  exact lv_icmp_eq (tgt := 923) hx hb dL_law_475 (by decide) (fun _ => kk b2 M2 N2 H2 locs2 hR2 hP2 hS2) (fun z => absurd rfl z)
set_option maxHeartbeats 4000000 in
theorem lb_loose (h : LC p s m meth c b L xs D aC ad) (hCC : CC ≤ 600000 ∧ SS ≤ 7302250) (hL : L ≤ 3584) (hi : i + 7 ≤ L) (hR : Rel bb M) (hP : va_P D vwCl (rws aC ad M N (pr bb)) H) (hS : va_S (Aad ad) s.heap H locs) (hl : lv_has ls 4 (LV b i ad))
    (kk : ∀ (bb : Bool) (M : Mt) (N : Nt) (H : Heap) (locs : List Loc), Rel bb M → va_P D vwCl (rws aC ad M N (pr bb)) H → va_S (Aad ad) s.heap H locs → W p l e room_1 s m #[Value.ref b] below meth c H locs CC SS Q (F0 m 923 ls [])) : W p l e room_1 s m #[Value.ref b] below meth c H locs CC SS Q (F0 m 480 ls []) := by
  obtain ⟨hx, hb, hrt, hml, hown, hts, hX, hbl, hlocks, hgv⟩ := id h.1
  have hbA := b_out h
  refine lv_aload_n hx hb dL_law_480 rfl (lv_at hl 2 rfl) ?_
  refine lv_aload_n hx hb dL_law_481 rfl (lv_at hl 1 rfl) ?_
  refine lv_iload_n hx hb dL_law_482 rfl (lv_at hl 0 rfl) ?_
  refine lv_iconst (v := nI 1) hx hb dL_law_483 (by decide) ?_
  refine lv_iadd hx hb dL_law_484 ?_
  refine va_sld hx hb hX hbl hbA hS (in_j hi hL (by decide)) dL_law_485 ?_
  refine lv_aload_n hx hb dL_law_486 rfl (lv_at hl 1 rfl) ?_
  refine lv_iload_n hx hb dL_law_487 rfl (lv_at hl 0 rfl) ?_
  refine lv_iconst (v := nI 2) hx hb dL_law_488 (by decide) ?_
  refine lv_iadd hx hb dL_law_489 ?_
  refine va_sld hx hb hX hbl hbA hS (in_j hi hL (by decide)) dL_law_490 ?_
  refine lawCall (y := mX11_loose) (r := 0) (As := [.int (xs (nI i + nI 1).toNatClampNeg), .int (xs (nI i + nI 2).toNatClampNeg)]) (rest := []) h hCC (Wp.ti (Both.wp (pub_loose (d := 0) (N := N) hR)) rfl (by decide)) ⟨rfl, Nat.le_of_ble_eq_true rfl, Nat.le_of_ble_eq_true rfl⟩ rfl (Or.inl ⟨11, TX11, _, rfl, rfl⟩) ⟨11, TX11, _, rfl, rfl⟩ tm_L_56 ti_X11_loose tse_X11_loose tin_X11 tc_X11_loose ⟨⟨by decide, by decide⟩, by decide⟩ hl.1 dL_law_491 (by decide) hP hS (fun v M1 N1 P1 H1 locs1 hk hP1 hS1 => ?_)
  obtain ⟨hk, x, rfl⟩ := hk
  refine W.eq (g2 := F0 m 494 ls [.int x]) rfl ?_
  have hS := hS1
  refine lv_aload_n hx hb dL_law_494 rfl (lv_at hl 3 rfl) ?_
  refine lv_aload_n hx hb dL_law_495 rfl (lv_at hl 1 rfl) ?_
  refine lv_iload_n hx hb dL_law_496 rfl (lv_at hl 0 rfl) ?_
  refine lv_iconst (v := nI 1) hx hb dL_law_497 (by decide) ?_
  refine lv_iadd hx hb dL_law_498 ?_
  refine va_sld hx hb hX hbl hbA hS (in_j hi hL (by decide)) dL_law_499 ?_
  refine lv_aload_n hx hb dL_law_500 rfl (lv_at hl 1 rfl) ?_
  refine lv_iload_n hx hb dL_law_501 rfl (lv_at hl 0 rfl) ?_
  refine lv_iconst (v := nI 2) hx hb dL_law_502 (by decide) ?_
  refine lv_iadd hx hb dL_law_503 ?_
  refine va_sld hx hb hX hbl hbA hS (in_j hi hL (by decide)) dL_law_504 ?_
  refine lawCall (y := mX12_loose) (r := 50) (As := [.int (xs (nI i + nI 1).toNatClampNeg), .int (xs (nI i + nI 2).toNatClampNeg)]) (rest := [.int x]) h hCC hk ⟨rfl, Nat.le_of_ble_eq_true rfl, Nat.le_of_ble_eq_true rfl⟩ rfl (Or.inl ⟨12, TX12, _, rfl, rfl⟩) ⟨12, TX12, _, rfl, rfl⟩ tm_L_59 ti_X12_loose tse_X12_loose tin_X12 tc_X12_loose ⟨⟨by decide, by decide⟩, by decide⟩ hl.1 dL_law_505 (by show 1 + 0 ≤ 8; omega) hP1 hS1 (fun v2 M2 N2 P2 H2 locs2 hq hP2 hS2 => ?_)
  obtain ⟨rfl, b2, rfl, hR2⟩ := hq
  refine W.eq (g2 := F0 m 508 ls [.int x, .int x]) rfl ?_
  exact lv_icmp_eq (tgt := 923) hx hb dL_law_508 (by decide) (fun _ => kk b2 M2 N2 H2 locs2 hR2 hP2 hS2) (fun z => absurd rfl z)
set_option maxHeartbeats 4000000 in
theorem lb_feed (h : LC p s m meth c b L xs D aC ad) (hCC : CC ≤ 600000 ∧ SS ≤ 7302250) (hL : L ≤ 3584) (hi : i + 7 ≤ L) (hR : Rel bb M) (hP : va_P D vwCl (rws aC ad M N (pr bb)) H) (hS : va_S (Aad ad) s.heap H locs) (hl : lv_has ls 4 (LV b i ad))
    (kk : ∀ (bb : Bool) (M : Mt) (N : Nt) (H : Heap) (locs : List Loc), Rel bb M → va_P D vwCl (rws aC ad M N (pr bb)) H → va_S (Aad ad) s.heap H locs → W p l e room_1 s m #[Value.ref b] below meth c H locs CC SS Q (F0 m 923 ls [])) : W p l e room_1 s m #[Value.ref b] below meth c H locs CC SS Q (F0 m 513 ls []) := by
  obtain ⟨hx, hb, hrt, hml, hown, hts, hX, hbl, hlocks, hgv⟩ := id h.1
  have hbA := b_out h
  refine lv_aload_n hx hb dL_law_513 rfl (lv_at hl 2 rfl) ?_
  refine lv_aload_n hx hb dL_law_514 rfl (lv_at hl 1 rfl) ?_
  refine lv_iload_n hx hb dL_law_515 rfl (lv_at hl 0 rfl) ?_
  refine lv_iconst (v := nI 1) hx hb dL_law_516 (by decide) ?_
  refine lv_iadd hx hb dL_law_517 ?_
  refine va_sld hx hb hX hbl hbA hS (in_j hi hL (by decide)) dL_law_518 ?_
  refine lv_aload_n hx hb dL_law_519 rfl (lv_at hl 1 rfl) ?_
  refine lv_iload_n hx hb dL_law_520 rfl (lv_at hl 0 rfl) ?_
  refine lv_iconst (v := nI 2) hx hb dL_law_521 (by decide) ?_
  refine lv_iadd hx hb dL_law_522 ?_
  refine va_sld hx hb hX hbl hbA hS (in_j hi hL (by decide)) dL_law_523 ?_
  refine lv_aload_n hx hb dL_law_524 rfl (lv_at hl 1 rfl) ?_
  refine lv_iload_n hx hb dL_law_525 rfl (lv_at hl 0 rfl) ?_
  refine lv_iconst (v := nI 3) hx hb dL_law_526 (by decide) ?_
  refine lv_iadd hx hb dL_law_527 ?_
  refine va_sld hx hb hX hbl hbA hS (in_j hi hL (by decide)) dL_law_528 ?_
  refine lv_aload_n hx hb dL_law_529 rfl (lv_at hl 1 rfl) ?_
  refine lv_iload_n hx hb dL_law_530 rfl (lv_at hl 0 rfl) ?_
  refine lv_iconst (v := nI 4) hx hb dL_law_531 (by decide) ?_
  refine lv_iadd hx hb dL_law_532 ?_
  refine va_sld hx hb hX hbl hbA hS (in_j hi hL (by decide)) dL_law_533 ?_
  refine lv_aload_n hx hb dL_law_534 rfl (lv_at hl 1 rfl) ?_
  refine lv_iload_n hx hb dL_law_535 rfl (lv_at hl 0 rfl) ?_
  refine lv_iconst (v := nI 5) hx hb dL_law_536 (by decide) ?_
  refine lv_iadd hx hb dL_law_537 ?_
  refine va_sld hx hb hX hbl hbA hS (in_j hi hL (by decide)) dL_law_538 ?_
  refine lawCall (y := mX11_feed) (r := 0) (As := [.int (xs (nI i + nI 1).toNatClampNeg), .int (xs (nI i + nI 2).toNatClampNeg), .int (xs (nI i + nI 3).toNatClampNeg), .int (xs (nI i + nI 4).toNatClampNeg), .int (xs (nI i + nI 5).toNatClampNeg)]) (rest := []) h hCC (Wp.ti (Both.wp (pub_feed (d := 0) (N := N) hR)) rfl (by decide)) ⟨rfl, Nat.le_of_ble_eq_true rfl, Nat.le_of_ble_eq_true rfl⟩ rfl (Or.inl ⟨11, TX11, _, rfl, rfl⟩) ⟨11, TX11, _, rfl, rfl⟩ tm_L_60 ti_X11_feed tse_X11_feed tin_X11 tc_X11_feed ⟨⟨by decide, by decide⟩, by decide⟩ hl.1 dL_law_539 (by decide) hP hS (fun v M1 N1 P1 H1 locs1 hk hP1 hS1 => ?_)
  obtain ⟨hk, x, rfl⟩ := hk
  refine W.eq (g2 := F0 m 542 ls [.int x]) rfl ?_
  have hS := hS1
  refine lv_aload_n hx hb dL_law_542 rfl (lv_at hl 3 rfl) ?_
  refine lv_aload_n hx hb dL_law_543 rfl (lv_at hl 1 rfl) ?_
  refine lv_iload_n hx hb dL_law_544 rfl (lv_at hl 0 rfl) ?_
  refine lv_iconst (v := nI 1) hx hb dL_law_545 (by decide) ?_
  refine lv_iadd hx hb dL_law_546 ?_
  refine va_sld hx hb hX hbl hbA hS (in_j hi hL (by decide)) dL_law_547 ?_
  refine lv_aload_n hx hb dL_law_548 rfl (lv_at hl 1 rfl) ?_
  refine lv_iload_n hx hb dL_law_549 rfl (lv_at hl 0 rfl) ?_
  refine lv_iconst (v := nI 2) hx hb dL_law_550 (by decide) ?_
  refine lv_iadd hx hb dL_law_551 ?_
  refine va_sld hx hb hX hbl hbA hS (in_j hi hL (by decide)) dL_law_552 ?_
  refine lv_aload_n hx hb dL_law_553 rfl (lv_at hl 1 rfl) ?_
  refine lv_iload_n hx hb dL_law_554 rfl (lv_at hl 0 rfl) ?_
  refine lv_iconst (v := nI 3) hx hb dL_law_555 (by decide) ?_
  refine lv_iadd hx hb dL_law_556 ?_
  refine va_sld hx hb hX hbl hbA hS (in_j hi hL (by decide)) dL_law_557 ?_
  refine lv_aload_n hx hb dL_law_558 rfl (lv_at hl 1 rfl) ?_
  refine lv_iload_n hx hb dL_law_559 rfl (lv_at hl 0 rfl) ?_
  refine lv_iconst (v := nI 4) hx hb dL_law_560 (by decide) ?_
  refine lv_iadd hx hb dL_law_561 ?_
  refine va_sld hx hb hX hbl hbA hS (in_j hi hL (by decide)) dL_law_562 ?_
  refine lv_aload_n hx hb dL_law_563 rfl (lv_at hl 1 rfl) ?_
  refine lv_iload_n hx hb dL_law_564 rfl (lv_at hl 0 rfl) ?_
  refine lv_iconst (v := nI 5) hx hb dL_law_565 (by decide) ?_
  refine lv_iadd hx hb dL_law_566 ?_
  refine va_sld hx hb hX hbl hbA hS (in_j hi hL (by decide)) dL_law_567 ?_
  refine lawCall (y := mX12_feed) (r := 50) (As := [.int (xs (nI i + nI 1).toNatClampNeg), .int (xs (nI i + nI 2).toNatClampNeg), .int (xs (nI i + nI 3).toNatClampNeg), .int (xs (nI i + nI 4).toNatClampNeg), .int (xs (nI i + nI 5).toNatClampNeg)]) (rest := [.int x]) h hCC hk ⟨rfl, Nat.le_of_ble_eq_true rfl, Nat.le_of_ble_eq_true rfl⟩ rfl (Or.inl ⟨12, TX12, _, rfl, rfl⟩) ⟨12, TX12, _, rfl, rfl⟩ tm_L_64 ti_X12_feed tse_X12_feed tin_X12 tc_X12_feed ⟨⟨by decide, by decide⟩, by decide⟩ hl.1 dL_law_568 (by show 1 + 0 ≤ 8; omega) hP1 hS1 (fun v2 M2 N2 P2 H2 locs2 hq hP2 hS2 => ?_)
  obtain ⟨rfl, b2, rfl, hR2⟩ := hq
  refine W.eq (g2 := F0 m 571 ls [.int x, .int x]) rfl ?_
  exact lv_icmp_eq (tgt := 923) hx hb dL_law_571 (by decide) (fun _ => kk b2 M2 N2 H2 locs2 hR2 hP2 hS2) (fun z => absurd rfl z)
set_option maxHeartbeats 4000000 in
theorem lb_end (h : LC p s m meth c b L xs D aC ad) (hCC : CC ≤ 600000 ∧ SS ≤ 7302250) (hL : L ≤ 3584) (hi : i + 7 ≤ L) (hR : Rel bb M) (hP : va_P D vwCl (rws aC ad M N (pr bb)) H) (hS : va_S (Aad ad) s.heap H locs) (hl : lv_has ls 4 (LV b i ad))
    (kk : ∀ (bb : Bool) (M : Mt) (N : Nt) (H : Heap) (locs : List Loc), Rel bb M → va_P D vwCl (rws aC ad M N (pr bb)) H → va_S (Aad ad) s.heap H locs → W p l e room_1 s m #[Value.ref b] below meth c H locs CC SS Q (F0 m 923 ls [])) : W p l e room_1 s m #[Value.ref b] below meth c H locs CC SS Q (F0 m 576 ls []) := by
  obtain ⟨hx, hb, hrt, hml, hown, hts, hX, hbl, hlocks, hgv⟩ := id h.1
  have hbA := b_out h
  refine lv_aload_n hx hb dL_law_576 rfl (lv_at hl 2 rfl) ?_
  refine lv_aload_n hx hb dL_law_577 rfl (lv_at hl 1 rfl) ?_
  refine lv_iload_n hx hb dL_law_578 rfl (lv_at hl 0 rfl) ?_
  refine lv_iconst (v := nI 1) hx hb dL_law_579 (by decide) ?_
  refine lv_iadd hx hb dL_law_580 ?_
  refine va_sld hx hb hX hbl hbA hS (in_j hi hL (by decide)) dL_law_581 ?_
  refine lawCall (y := mX11_end) (r := 0) (As := [.int (xs (nI i + nI 1).toNatClampNeg)]) (rest := []) h hCC (Wp.ti (Both.wp (pub_end (d := 0) (N := N) hR)) rfl (by decide)) ⟨rfl, Nat.le_of_ble_eq_true rfl, Nat.le_of_ble_eq_true rfl⟩ rfl (Or.inl ⟨11, TX11, _, rfl, rfl⟩) ⟨11, TX11, _, rfl, rfl⟩ tm_L_65 ti_X11_end tse_X11_end tin_X11 tc_X11_end ⟨⟨by decide, by decide⟩, by decide⟩ hl.1 dL_law_582 (by decide) hP hS (fun v M1 N1 P1 H1 locs1 hk hP1 hS1 => ?_)
  obtain ⟨hk, x, rfl⟩ := hk
  refine W.eq (g2 := F0 m 585 ls [.int x]) rfl ?_
  have hS := hS1
  refine lv_aload_n hx hb dL_law_585 rfl (lv_at hl 3 rfl) ?_
  refine lv_aload_n hx hb dL_law_586 rfl (lv_at hl 1 rfl) ?_
  refine lv_iload_n hx hb dL_law_587 rfl (lv_at hl 0 rfl) ?_
  refine lv_iconst (v := nI 1) hx hb dL_law_588 (by decide) ?_
  refine lv_iadd hx hb dL_law_589 ?_
  refine va_sld hx hb hX hbl hbA hS (in_j hi hL (by decide)) dL_law_590 ?_
  refine lawCall (y := mX12_end) (r := 50) (As := [.int (xs (nI i + nI 1).toNatClampNeg)]) (rest := [.int x]) h hCC hk ⟨rfl, Nat.le_of_ble_eq_true rfl, Nat.le_of_ble_eq_true rfl⟩ rfl (Or.inl ⟨12, TX12, _, rfl, rfl⟩) ⟨12, TX12, _, rfl, rfl⟩ tm_L_68 ti_X12_end tse_X12_end tin_X12 tc_X12_end ⟨⟨by decide, by decide⟩, by decide⟩ hl.1 dL_law_591 (by show 1 + 0 ≤ 8; omega) hP1 hS1 (fun v2 M2 N2 P2 H2 locs2 hq hP2 hS2 => ?_)
  obtain ⟨rfl, b2, rfl, hR2⟩ := hq
  refine W.eq (g2 := F0 m 594 ls [.int x, .int x]) rfl ?_
  exact lv_icmp_eq (tgt := 923) hx hb dL_law_594 (by decide) (fun _ => kk b2 M2 N2 H2 locs2 hR2 hP2 hS2) (fun z => absurd rfl z)
set_option maxHeartbeats 4000000 in
theorem lb_law (h : LC p s m meth c b L xs D aC ad) (hCC : CC ≤ 600000 ∧ SS ≤ 7302250) (hL : L ≤ 3584) (hi : i + 7 ≤ L) (hR : Rel bb M) (hP : va_P D vwCl (rws aC ad M N (pr bb)) H) (hS : va_S (Aad ad) s.heap H locs) (hl : lv_has ls 4 (LV b i ad))
    (kk : ∀ (bb : Bool) (M : Mt) (N : Nt) (H : Heap) (locs : List Loc), Rel bb M → va_P D vwCl (rws aC ad M N (pr bb)) H → va_S (Aad ad) s.heap H locs → W p l e room_1 s m #[Value.ref b] below meth c H locs CC SS Q (F0 m 923 ls [])) : W p l e room_1 s m #[Value.ref b] below meth c H locs CC SS Q (F0 m 599 ls []) := by
  obtain ⟨hx, hb, hrt, hml, hown, hts, hX, hbl, hlocks, hgv⟩ := id h.1
  have hbA := b_out h
  refine lv_aload_n hx hb dL_law_599 rfl (lv_at hl 2 rfl) ?_
  refine lawCall (y := mX11_law) (r := 0) (As := []) (rest := []) h hCC (Wp.ti (Both.wp (pub_law (d := 0) (N := N) hR)) rfl (by decide)) ⟨rfl, Nat.le_of_ble_eq_true rfl, Nat.le_of_ble_eq_true rfl⟩ rfl (Or.inl ⟨11, TX11, _, rfl, rfl⟩) ⟨11, TX11, _, rfl, rfl⟩ tm_L_69 ti_X11_law tse_X11_law tin_X11 tc_X11_law ⟨⟨by decide, by decide⟩, by decide⟩ hl.1 dL_law_600 (by decide) hP hS (fun v M1 N1 P1 H1 locs1 hk hP1 hS1 => ?_)
  obtain ⟨hk, x, rfl⟩ := hk
  refine W.eq (g2 := F0 m 603 ls [.int x]) rfl ?_
  have hS := hS1
  refine lv_aload_n hx hb dL_law_603 rfl (lv_at hl 3 rfl) ?_
  refine lawCall (y := mX12_law) (r := 50) (As := []) (rest := [.int x]) h hCC hk ⟨rfl, Nat.le_of_ble_eq_true rfl, Nat.le_of_ble_eq_true rfl⟩ rfl (Or.inl ⟨12, TX12, _, rfl, rfl⟩) ⟨12, TX12, _, rfl, rfl⟩ tm_L_73 ti_X12_law tse_X12_law tin_X12 tc_X12_law ⟨⟨by decide, by decide⟩, by decide⟩ hl.1 dL_law_604 (by show 1 + 0 ≤ 8; omega) hP1 hS1 (fun v2 M2 N2 P2 H2 locs2 hq hP2 hS2 => ?_)
  obtain ⟨rfl, b2, rfl, hR2⟩ := hq
  refine W.eq (g2 := F0 m 607 ls [.int x, .int x]) rfl ?_
  exact lv_icmp_eq (tgt := 923) hx hb dL_law_607 (by decide) (fun _ => kk b2 M2 N2 H2 locs2 hR2 hP2 hS2) (fun z => absurd rfl z)
set_option maxHeartbeats 4000000 in
theorem lb_fault (h : LC p s m meth c b L xs D aC ad) (hCC : CC ≤ 600000 ∧ SS ≤ 7302250) (hL : L ≤ 3584) (hi : i + 7 ≤ L) (hR : Rel bb M) (hP : va_P D vwCl (rws aC ad M N (pr bb)) H) (hS : va_S (Aad ad) s.heap H locs) (hl : lv_has ls 4 (LV b i ad))
    (kk : ∀ (bb : Bool) (M : Mt) (N : Nt) (H : Heap) (locs : List Loc), Rel bb M → va_P D vwCl (rws aC ad M N (pr bb)) H → va_S (Aad ad) s.heap H locs → W p l e room_1 s m #[Value.ref b] below meth c H locs CC SS Q (F0 m 923 ls [])) : W p l e room_1 s m #[Value.ref b] below meth c H locs CC SS Q (F0 m 612 ls []) := by
  obtain ⟨hx, hb, hrt, hml, hown, hts, hX, hbl, hlocks, hgv⟩ := id h.1
  have hbA := b_out h
  refine lv_aload_n hx hb dL_law_612 rfl (lv_at hl 2 rfl) ?_
  refine lv_aload_n hx hb dL_law_613 rfl (lv_at hl 1 rfl) ?_
  refine lv_iload_n hx hb dL_law_614 rfl (lv_at hl 0 rfl) ?_
  refine lv_iconst (v := nI 1) hx hb dL_law_615 (by decide) ?_
  refine lv_iadd hx hb dL_law_616 ?_
  refine va_sld hx hb hX hbl hbA hS (in_j hi hL (by decide)) dL_law_617 ?_
  refine lawCall (y := mX11_fault) (r := 0) (As := [.int (xs (nI i + nI 1).toNatClampNeg)]) (rest := []) h hCC (Wp.ti (Both.wp (pub_fault (d := 0) (N := N) hR)) rfl (by decide)) ⟨rfl, Nat.le_of_ble_eq_true rfl, Nat.le_of_ble_eq_true rfl⟩ rfl (Or.inl ⟨11, TX11, _, rfl, rfl⟩) ⟨11, TX11, _, rfl, rfl⟩ tm_L_74 ti_X11_fault tse_X11_fault tin_X11 tc_X11_fault ⟨⟨by decide, by decide⟩, by decide⟩ hl.1 dL_law_618 (by decide) hP hS (fun v M1 N1 P1 H1 locs1 hk hP1 hS1 => ?_)
  obtain ⟨hk, x, rfl⟩ := hk
  refine W.eq (g2 := F0 m 621 ls [.int x]) rfl ?_
  have hS := hS1
  refine lv_aload_n hx hb dL_law_621 rfl (lv_at hl 3 rfl) ?_
  refine lv_aload_n hx hb dL_law_622 rfl (lv_at hl 1 rfl) ?_
  refine lv_iload_n hx hb dL_law_623 rfl (lv_at hl 0 rfl) ?_
  refine lv_iconst (v := nI 1) hx hb dL_law_624 (by decide) ?_
  refine lv_iadd hx hb dL_law_625 ?_
  refine va_sld hx hb hX hbl hbA hS (in_j hi hL (by decide)) dL_law_626 ?_
  refine lawCall (y := mX12_fault) (r := 50) (As := [.int (xs (nI i + nI 1).toNatClampNeg)]) (rest := [.int x]) h hCC hk ⟨rfl, Nat.le_of_ble_eq_true rfl, Nat.le_of_ble_eq_true rfl⟩ rfl (Or.inl ⟨12, TX12, _, rfl, rfl⟩) ⟨12, TX12, _, rfl, rfl⟩ tm_L_77 ti_X12_fault tse_X12_fault tin_X12 tc_X12_fault ⟨⟨by decide, by decide⟩, by decide⟩ hl.1 dL_law_627 (by show 1 + 0 ≤ 8; omega) hP1 hS1 (fun v2 M2 N2 P2 H2 locs2 hq hP2 hS2 => ?_)
  obtain ⟨rfl, b2, rfl, hR2⟩ := hq
  refine W.eq (g2 := F0 m 630 ls [.int x, .int x]) rfl ?_
  exact lv_icmp_eq (tgt := 923) hx hb dL_law_630 (by decide) (fun _ => kk b2 M2 N2 H2 locs2 hR2 hP2 hS2) (fun z => absurd rfl z)
set_option maxHeartbeats 4000000 in
theorem lb_claim (h : LC p s m meth c b L xs D aC ad) (hCC : CC ≤ 600000 ∧ SS ≤ 7302250) (hL : L ≤ 3584) (hi : i + 7 ≤ L) (hR : Rel bb M) (hP : va_P D vwCl (rws aC ad M N (pr bb)) H) (hS : va_S (Aad ad) s.heap H locs) (hl : lv_has ls 4 (LV b i ad))
    (kk : ∀ (bb : Bool) (M : Mt) (N : Nt) (H : Heap) (locs : List Loc), Rel bb M → va_P D vwCl (rws aC ad M N (pr bb)) H → va_S (Aad ad) s.heap H locs → W p l e room_1 s m #[Value.ref b] below meth c H locs CC SS Q (F0 m 923 ls [])) : W p l e room_1 s m #[Value.ref b] below meth c H locs CC SS Q (F0 m 635 ls []) := by
  obtain ⟨hx, hb, hrt, hml, hown, hts, hX, hbl, hlocks, hgv⟩ := id h.1
  have hbA := b_out h
  refine lv_aload_n hx hb dL_law_635 rfl (lv_at hl 2 rfl) ?_
  refine lv_aload_n hx hb dL_law_636 rfl (lv_at hl 1 rfl) ?_
  refine lv_iload_n hx hb dL_law_637 rfl (lv_at hl 0 rfl) ?_
  refine lv_iconst (v := nI 1) hx hb dL_law_638 (by decide) ?_
  refine lv_iadd hx hb dL_law_639 ?_
  refine va_sld hx hb hX hbl hbA hS (in_j hi hL (by decide)) dL_law_640 ?_
  refine lawCall (y := mX11_claim) (r := 0) (As := [.int (xs (nI i + nI 1).toNatClampNeg)]) (rest := []) h hCC (Wp.ti (Both.wp (pub_claim (d := 0) (N := N) hR)) rfl (by decide)) ⟨rfl, Nat.le_of_ble_eq_true rfl, Nat.le_of_ble_eq_true rfl⟩ rfl (Or.inl ⟨11, TX11, _, rfl, rfl⟩) ⟨11, TX11, _, rfl, rfl⟩ tm_L_78 ti_X11_claim tse_X11_claim tin_X11 tc_X11_claim ⟨⟨by decide, by decide⟩, by decide⟩ hl.1 dL_law_641 (by decide) hP hS (fun v M1 N1 P1 H1 locs1 hk hP1 hS1 => ?_)
  obtain ⟨hk, x, rfl⟩ := hk
  refine W.eq (g2 := F0 m 644 ls [.int x]) rfl ?_
  have hS := hS1
  refine lv_aload_n hx hb dL_law_644 rfl (lv_at hl 3 rfl) ?_
  refine lv_aload_n hx hb dL_law_645 rfl (lv_at hl 1 rfl) ?_
  refine lv_iload_n hx hb dL_law_646 rfl (lv_at hl 0 rfl) ?_
  refine lv_iconst (v := nI 1) hx hb dL_law_647 (by decide) ?_
  refine lv_iadd hx hb dL_law_648 ?_
  refine va_sld hx hb hX hbl hbA hS (in_j hi hL (by decide)) dL_law_649 ?_
  refine lawCall (y := mX12_claim) (r := 50) (As := [.int (xs (nI i + nI 1).toNatClampNeg)]) (rest := [.int x]) h hCC hk ⟨rfl, Nat.le_of_ble_eq_true rfl, Nat.le_of_ble_eq_true rfl⟩ rfl (Or.inl ⟨12, TX12, _, rfl, rfl⟩) ⟨12, TX12, _, rfl, rfl⟩ tm_L_81 ti_X12_claim tse_X12_claim tin_X12 tc_X12_claim ⟨⟨by decide, by decide⟩, by decide⟩ hl.1 dL_law_650 (by show 1 + 0 ≤ 8; omega) hP1 hS1 (fun v2 M2 N2 P2 H2 locs2 hq hP2 hS2 => ?_)
  obtain ⟨rfl, b2, rfl, hR2⟩ := hq
  refine W.eq (g2 := F0 m 653 ls [.int x, .int x]) rfl ?_
  exact lv_icmp_eq (tgt := 923) hx hb dL_law_653 (by decide) (fun _ => kk b2 M2 N2 H2 locs2 hR2 hP2 hS2) (fun z => absurd rfl z)
set_option maxHeartbeats 4000000 in
theorem lb_ruling (h : LC p s m meth c b L xs D aC ad) (hCC : CC ≤ 600000 ∧ SS ≤ 7302250) (hL : L ≤ 3584) (hi : i + 7 ≤ L) (hR : Rel bb M) (hP : va_P D vwCl (rws aC ad M N (pr bb)) H) (hS : va_S (Aad ad) s.heap H locs) (hl : lv_has ls 4 (LV b i ad))
    (kk : ∀ (bb : Bool) (M : Mt) (N : Nt) (H : Heap) (locs : List Loc), Rel bb M → va_P D vwCl (rws aC ad M N (pr bb)) H → va_S (Aad ad) s.heap H locs → W p l e room_1 s m #[Value.ref b] below meth c H locs CC SS Q (F0 m 923 ls [])) : W p l e room_1 s m #[Value.ref b] below meth c H locs CC SS Q (F0 m 658 ls []) := by
  obtain ⟨hx, hb, hrt, hml, hown, hts, hX, hbl, hlocks, hgv⟩ := id h.1
  have hbA := b_out h
  refine lv_aload_n hx hb dL_law_658 rfl (lv_at hl 2 rfl) ?_
  refine lv_aload_n hx hb dL_law_659 rfl (lv_at hl 1 rfl) ?_
  refine lv_iload_n hx hb dL_law_660 rfl (lv_at hl 0 rfl) ?_
  refine lv_iconst (v := nI 1) hx hb dL_law_661 (by decide) ?_
  refine lv_iadd hx hb dL_law_662 ?_
  refine va_sld hx hb hX hbl hbA hS (in_j hi hL (by decide)) dL_law_663 ?_
  refine lv_aload_n hx hb dL_law_664 rfl (lv_at hl 1 rfl) ?_
  refine lv_iload_n hx hb dL_law_665 rfl (lv_at hl 0 rfl) ?_
  refine lv_iconst (v := nI 2) hx hb dL_law_666 (by decide) ?_
  refine lv_iadd hx hb dL_law_667 ?_
  refine va_sld hx hb hX hbl hbA hS (in_j hi hL (by decide)) dL_law_668 ?_
  refine lawCall (y := mX11_ruling) (r := 0) (As := [.int (xs (nI i + nI 1).toNatClampNeg), .int (xs (nI i + nI 2).toNatClampNeg)]) (rest := []) h hCC (Wp.ti (Both.wp (pub_ruling (d := 0) (N := N) hR)) rfl (by decide)) ⟨rfl, Nat.le_of_ble_eq_true rfl, Nat.le_of_ble_eq_true rfl⟩ rfl (Or.inl ⟨11, TX11, _, rfl, rfl⟩) ⟨11, TX11, _, rfl, rfl⟩ tm_L_82 ti_X11_ruling tse_X11_ruling tin_X11 tc_X11_ruling ⟨⟨by decide, by decide⟩, by decide⟩ hl.1 dL_law_669 (by decide) hP hS (fun v M1 N1 P1 H1 locs1 hk hP1 hS1 => ?_)
  obtain ⟨hk, x, rfl⟩ := hk
  refine W.eq (g2 := F0 m 672 ls [.int x]) rfl ?_
  have hS := hS1
  refine lv_aload_n hx hb dL_law_672 rfl (lv_at hl 3 rfl) ?_
  refine lv_aload_n hx hb dL_law_673 rfl (lv_at hl 1 rfl) ?_
  refine lv_iload_n hx hb dL_law_674 rfl (lv_at hl 0 rfl) ?_
  refine lv_iconst (v := nI 1) hx hb dL_law_675 (by decide) ?_
  refine lv_iadd hx hb dL_law_676 ?_
  refine va_sld hx hb hX hbl hbA hS (in_j hi hL (by decide)) dL_law_677 ?_
  refine lv_aload_n hx hb dL_law_678 rfl (lv_at hl 1 rfl) ?_
  refine lv_iload_n hx hb dL_law_679 rfl (lv_at hl 0 rfl) ?_
  refine lv_iconst (v := nI 2) hx hb dL_law_680 (by decide) ?_
  refine lv_iadd hx hb dL_law_681 ?_
  refine va_sld hx hb hX hbl hbA hS (in_j hi hL (by decide)) dL_law_682 ?_
  refine lawCall (y := mX12_ruling) (r := 50) (As := [.int (xs (nI i + nI 1).toNatClampNeg), .int (xs (nI i + nI 2).toNatClampNeg)]) (rest := [.int x]) h hCC hk ⟨rfl, Nat.le_of_ble_eq_true rfl, Nat.le_of_ble_eq_true rfl⟩ rfl (Or.inl ⟨12, TX12, _, rfl, rfl⟩) ⟨12, TX12, _, rfl, rfl⟩ tm_L_85 ti_X12_ruling tse_X12_ruling tin_X12 tc_X12_ruling ⟨⟨by decide, by decide⟩, by decide⟩ hl.1 dL_law_683 (by show 1 + 0 ≤ 8; omega) hP1 hS1 (fun v2 M2 N2 P2 H2 locs2 hq hP2 hS2 => ?_)
  obtain ⟨rfl, b2, rfl, hR2⟩ := hq
  refine W.eq (g2 := F0 m 686 ls [.int x, .int x]) rfl ?_
  exact lv_icmp_eq (tgt := 923) hx hb dL_law_686 (by decide) (fun _ => kk b2 M2 N2 H2 locs2 hR2 hP2 hS2) (fun z => absurd rfl z)
set_option maxHeartbeats 4000000 in
theorem lb_sum (h : LC p s m meth c b L xs D aC ad) (hCC : CC ≤ 600000 ∧ SS ≤ 7302250) (hL : L ≤ 3584) (hi : i + 7 ≤ L) (hR : Rel bb M) (hP : va_P D vwCl (rws aC ad M N (pr bb)) H) (hS : va_S (Aad ad) s.heap H locs) (hl : lv_has ls 4 (LV b i ad))
    (kk : ∀ (bb : Bool) (M : Mt) (N : Nt) (H : Heap) (locs : List Loc), Rel bb M → va_P D vwCl (rws aC ad M N (pr bb)) H → va_S (Aad ad) s.heap H locs → W p l e room_1 s m #[Value.ref b] below meth c H locs CC SS Q (F0 m 923 ls [])) : W p l e room_1 s m #[Value.ref b] below meth c H locs CC SS Q (F0 m 691 ls []) := by
  obtain ⟨hx, hb, hrt, hml, hown, hts, hX, hbl, hlocks, hgv⟩ := id h.1
  have hbA := b_out h
  refine lv_aload_n hx hb dL_law_691 rfl (lv_at hl 2 rfl) ?_
  refine lv_aload_n hx hb dL_law_692 rfl (lv_at hl 1 rfl) ?_
  refine lv_iload_n hx hb dL_law_693 rfl (lv_at hl 0 rfl) ?_
  refine lv_iconst (v := nI 1) hx hb dL_law_694 (by decide) ?_
  refine lv_iadd hx hb dL_law_695 ?_
  refine va_sld hx hb hX hbl hbA hS (in_j hi hL (by decide)) dL_law_696 ?_
  refine lv_aload_n hx hb dL_law_697 rfl (lv_at hl 1 rfl) ?_
  refine lv_iload_n hx hb dL_law_698 rfl (lv_at hl 0 rfl) ?_
  refine lv_iconst (v := nI 2) hx hb dL_law_699 (by decide) ?_
  refine lv_iadd hx hb dL_law_700 ?_
  refine va_sld hx hb hX hbl hbA hS (in_j hi hL (by decide)) dL_law_701 ?_
  refine lawCall (y := mX11_sum) (r := 0) (As := [.int (xs (nI i + nI 1).toNatClampNeg), .int (xs (nI i + nI 2).toNatClampNeg)]) (rest := []) h hCC (Wp.ti (Both.wp (pub_sum (d := 0) (N := N) hR)) rfl (by decide)) ⟨rfl, Nat.le_of_ble_eq_true rfl, Nat.le_of_ble_eq_true rfl⟩ rfl (Or.inl ⟨11, TX11, _, rfl, rfl⟩) ⟨11, TX11, _, rfl, rfl⟩ tm_L_86 ti_X11_sum tse_X11_sum tin_X11 tc_X11_sum ⟨⟨by decide, by decide⟩, by decide⟩ hl.1 dL_law_702 (by decide) hP hS (fun v M1 N1 P1 H1 locs1 hk hP1 hS1 => ?_)
  obtain ⟨hk, x, rfl⟩ := hk
  refine W.eq (g2 := F0 m 705 ls [.int x]) rfl ?_
  have hS := hS1
  refine lv_aload_n hx hb dL_law_705 rfl (lv_at hl 3 rfl) ?_
  refine lv_aload_n hx hb dL_law_706 rfl (lv_at hl 1 rfl) ?_
  refine lv_iload_n hx hb dL_law_707 rfl (lv_at hl 0 rfl) ?_
  refine lv_iconst (v := nI 1) hx hb dL_law_708 (by decide) ?_
  refine lv_iadd hx hb dL_law_709 ?_
  refine va_sld hx hb hX hbl hbA hS (in_j hi hL (by decide)) dL_law_710 ?_
  refine lv_aload_n hx hb dL_law_711 rfl (lv_at hl 1 rfl) ?_
  refine lv_iload_n hx hb dL_law_712 rfl (lv_at hl 0 rfl) ?_
  refine lv_iconst (v := nI 2) hx hb dL_law_713 (by decide) ?_
  refine lv_iadd hx hb dL_law_714 ?_
  refine va_sld hx hb hX hbl hbA hS (in_j hi hL (by decide)) dL_law_715 ?_
  refine lawCall (y := mX12_sum) (r := 50) (As := [.int (xs (nI i + nI 1).toNatClampNeg), .int (xs (nI i + nI 2).toNatClampNeg)]) (rest := [.int x]) h hCC hk ⟨rfl, Nat.le_of_ble_eq_true rfl, Nat.le_of_ble_eq_true rfl⟩ rfl (Or.inl ⟨12, TX12, _, rfl, rfl⟩) ⟨12, TX12, _, rfl, rfl⟩ tm_L_89 ti_X12_sum tse_X12_sum tin_X12 tc_X12_sum ⟨⟨by decide, by decide⟩, by decide⟩ hl.1 dL_law_716 (by show 1 + 0 ≤ 8; omega) hP1 hS1 (fun v2 M2 N2 P2 H2 locs2 hq hP2 hS2 => ?_)
  obtain ⟨rfl, b2, rfl, hR2⟩ := hq
  refine W.eq (g2 := F0 m 719 ls [.int x, .int x]) rfl ?_
  exact lv_icmp_eq (tgt := 923) hx hb dL_law_719 (by decide) (fun _ => kk b2 M2 N2 H2 locs2 hR2 hP2 hS2) (fun z => absurd rfl z)
set_option maxHeartbeats 4000000 in
theorem lb_term (h : LC p s m meth c b L xs D aC ad) (hCC : CC ≤ 600000 ∧ SS ≤ 7302250) (hL : L ≤ 3584) (hi : i + 7 ≤ L) (hR : Rel bb M) (hP : va_P D vwCl (rws aC ad M N (pr bb)) H) (hS : va_S (Aad ad) s.heap H locs) (hl : lv_has ls 4 (LV b i ad))
    (kk : ∀ (bb : Bool) (M : Mt) (N : Nt) (H : Heap) (locs : List Loc), Rel bb M → va_P D vwCl (rws aC ad M N (pr bb)) H → va_S (Aad ad) s.heap H locs → W p l e room_1 s m #[Value.ref b] below meth c H locs CC SS Q (F0 m 923 ls [])) : W p l e room_1 s m #[Value.ref b] below meth c H locs CC SS Q (F0 m 724 ls []) := by
  obtain ⟨hx, hb, hrt, hml, hown, hts, hX, hbl, hlocks, hgv⟩ := id h.1
  have hbA := b_out h
  refine lv_aload_n hx hb dL_law_724 rfl (lv_at hl 2 rfl) ?_
  refine lv_aload_n hx hb dL_law_725 rfl (lv_at hl 1 rfl) ?_
  refine lv_iload_n hx hb dL_law_726 rfl (lv_at hl 0 rfl) ?_
  refine lv_iconst (v := nI 1) hx hb dL_law_727 (by decide) ?_
  refine lv_iadd hx hb dL_law_728 ?_
  refine va_sld hx hb hX hbl hbA hS (in_j hi hL (by decide)) dL_law_729 ?_
  refine lv_aload_n hx hb dL_law_730 rfl (lv_at hl 1 rfl) ?_
  refine lv_iload_n hx hb dL_law_731 rfl (lv_at hl 0 rfl) ?_
  refine lv_iconst (v := nI 2) hx hb dL_law_732 (by decide) ?_
  refine lv_iadd hx hb dL_law_733 ?_
  refine va_sld hx hb hX hbl hbA hS (in_j hi hL (by decide)) dL_law_734 ?_
  refine lv_aload_n hx hb dL_law_735 rfl (lv_at hl 1 rfl) ?_
  refine lv_iload_n hx hb dL_law_736 rfl (lv_at hl 0 rfl) ?_
  refine lv_iconst (v := nI 3) hx hb dL_law_737 (by decide) ?_
  refine lv_iadd hx hb dL_law_738 ?_
  refine va_sld hx hb hX hbl hbA hS (in_j hi hL (by decide)) dL_law_739 ?_
  refine lawCall (y := mX11_term) (r := 0) (As := [.int (xs (nI i + nI 1).toNatClampNeg), .int (xs (nI i + nI 2).toNatClampNeg), .int (xs (nI i + nI 3).toNatClampNeg)]) (rest := []) h hCC (Wp.ti (Both.wp (pub_term (d := 0) (N := N) hR)) rfl (by decide)) ⟨rfl, Nat.le_of_ble_eq_true rfl, Nat.le_of_ble_eq_true rfl⟩ rfl (Or.inl ⟨11, TX11, _, rfl, rfl⟩) ⟨11, TX11, _, rfl, rfl⟩ tm_L_90 ti_X11_term tse_X11_term tin_X11 tc_X11_term ⟨⟨by decide, by decide⟩, by decide⟩ hl.1 dL_law_740 (by decide) hP hS (fun v M1 N1 P1 H1 locs1 hk hP1 hS1 => ?_)
  obtain ⟨hk, x, rfl⟩ := hk
  refine W.eq (g2 := F0 m 743 ls [.int x]) rfl ?_
  have hS := hS1
  refine lv_aload_n hx hb dL_law_743 rfl (lv_at hl 3 rfl) ?_
  refine lv_aload_n hx hb dL_law_744 rfl (lv_at hl 1 rfl) ?_
  refine lv_iload_n hx hb dL_law_745 rfl (lv_at hl 0 rfl) ?_
  refine lv_iconst (v := nI 1) hx hb dL_law_746 (by decide) ?_
  refine lv_iadd hx hb dL_law_747 ?_
  refine va_sld hx hb hX hbl hbA hS (in_j hi hL (by decide)) dL_law_748 ?_
  refine lv_aload_n hx hb dL_law_749 rfl (lv_at hl 1 rfl) ?_
  refine lv_iload_n hx hb dL_law_750 rfl (lv_at hl 0 rfl) ?_
  refine lv_iconst (v := nI 2) hx hb dL_law_751 (by decide) ?_
  refine lv_iadd hx hb dL_law_752 ?_
  refine va_sld hx hb hX hbl hbA hS (in_j hi hL (by decide)) dL_law_753 ?_
  refine lv_aload_n hx hb dL_law_754 rfl (lv_at hl 1 rfl) ?_
  refine lv_iload_n hx hb dL_law_755 rfl (lv_at hl 0 rfl) ?_
  refine lv_iconst (v := nI 3) hx hb dL_law_756 (by decide) ?_
  refine lv_iadd hx hb dL_law_757 ?_
  refine va_sld hx hb hX hbl hbA hS (in_j hi hL (by decide)) dL_law_758 ?_
  refine lawCall (y := mX12_term) (r := 50) (As := [.int (xs (nI i + nI 1).toNatClampNeg), .int (xs (nI i + nI 2).toNatClampNeg), .int (xs (nI i + nI 3).toNatClampNeg)]) (rest := [.int x]) h hCC hk ⟨rfl, Nat.le_of_ble_eq_true rfl, Nat.le_of_ble_eq_true rfl⟩ rfl (Or.inl ⟨12, TX12, _, rfl, rfl⟩) ⟨12, TX12, _, rfl, rfl⟩ tm_L_93 ti_X12_term tse_X12_term tin_X12 tc_X12_term ⟨⟨by decide, by decide⟩, by decide⟩ hl.1 dL_law_759 (by show 1 + 0 ≤ 8; omega) hP1 hS1 (fun v2 M2 N2 P2 H2 locs2 hq hP2 hS2 => ?_)
  obtain ⟨rfl, b2, rfl, hR2⟩ := hq
  refine W.eq (g2 := F0 m 762 ls [.int x, .int x]) rfl ?_
  exact lv_icmp_eq (tgt := 923) hx hb dL_law_762 (by decide) (fun _ => kk b2 M2 N2 H2 locs2 hR2 hP2 hS2) (fun z => absurd rfl z)
set_option maxHeartbeats 4000000 in
theorem lb_share (h : LC p s m meth c b L xs D aC ad) (hCC : CC ≤ 600000 ∧ SS ≤ 7302250) (hL : L ≤ 3584) (hi : i + 7 ≤ L) (hR : Rel bb M) (hP : va_P D vwCl (rws aC ad M N (pr bb)) H) (hS : va_S (Aad ad) s.heap H locs) (hl : lv_has ls 4 (LV b i ad))
    (kk : ∀ (bb : Bool) (M : Mt) (N : Nt) (H : Heap) (locs : List Loc), Rel bb M → va_P D vwCl (rws aC ad M N (pr bb)) H → va_S (Aad ad) s.heap H locs → W p l e room_1 s m #[Value.ref b] below meth c H locs CC SS Q (F0 m 923 ls [])) : W p l e room_1 s m #[Value.ref b] below meth c H locs CC SS Q (F0 m 767 ls []) := by
  obtain ⟨hx, hb, hrt, hml, hown, hts, hX, hbl, hlocks, hgv⟩ := id h.1
  have hbA := b_out h
  refine lv_aload_n hx hb dL_law_767 rfl (lv_at hl 2 rfl) ?_
  refine lv_aload_n hx hb dL_law_768 rfl (lv_at hl 1 rfl) ?_
  refine lv_iload_n hx hb dL_law_769 rfl (lv_at hl 0 rfl) ?_
  refine lv_iconst (v := nI 1) hx hb dL_law_770 (by decide) ?_
  refine lv_iadd hx hb dL_law_771 ?_
  refine va_sld hx hb hX hbl hbA hS (in_j hi hL (by decide)) dL_law_772 ?_
  refine lv_aload_n hx hb dL_law_773 rfl (lv_at hl 1 rfl) ?_
  refine lv_iload_n hx hb dL_law_774 rfl (lv_at hl 0 rfl) ?_
  refine lv_iconst (v := nI 2) hx hb dL_law_775 (by decide) ?_
  refine lv_iadd hx hb dL_law_776 ?_
  refine va_sld hx hb hX hbl hbA hS (in_j hi hL (by decide)) dL_law_777 ?_
  refine lv_aload_n hx hb dL_law_778 rfl (lv_at hl 1 rfl) ?_
  refine lv_iload_n hx hb dL_law_779 rfl (lv_at hl 0 rfl) ?_
  refine lv_iconst (v := nI 3) hx hb dL_law_780 (by decide) ?_
  refine lv_iadd hx hb dL_law_781 ?_
  refine va_sld hx hb hX hbl hbA hS (in_j hi hL (by decide)) dL_law_782 ?_
  refine lv_aload_n hx hb dL_law_783 rfl (lv_at hl 1 rfl) ?_
  refine lv_iload_n hx hb dL_law_784 rfl (lv_at hl 0 rfl) ?_
  refine lv_iconst (v := nI 4) hx hb dL_law_785 (by decide) ?_
  refine lv_iadd hx hb dL_law_786 ?_
  refine va_sld hx hb hX hbl hbA hS (in_j hi hL (by decide)) dL_law_787 ?_
  refine lawCall (y := mX11_share) (r := 0) (As := [.int (xs (nI i + nI 1).toNatClampNeg), .int (xs (nI i + nI 2).toNatClampNeg), .int (xs (nI i + nI 3).toNatClampNeg), .int (xs (nI i + nI 4).toNatClampNeg)]) (rest := []) h hCC (BothL.wp (pub_share (d := 0) (N := N) hR)) ⟨rfl, Nat.le_of_ble_eq_true rfl, Nat.le_of_ble_eq_true rfl⟩ rfl (Or.inl ⟨11, TX11, _, rfl, rfl⟩) ⟨11, TX11, _, rfl, rfl⟩ tm_L_94 ti_X11_share tse_X11_share tin_X11 tc_X11_share ⟨⟨by decide, by decide⟩, by decide⟩ hl.1 dL_law_788 (by decide) hP hS (fun v M1 N1 P1 H1 locs1 hk hP1 hS1 => ?_)
  rw [List.append_nil]
  have hS := hS1
  refine lv_aload_n hx hb dL_law_791 rfl (lv_at hl 3 rfl) ?_
  refine lv_aload_n hx hb dL_law_792 rfl (lv_at hl 1 rfl) ?_
  refine lv_iload_n hx hb dL_law_793 rfl (lv_at hl 0 rfl) ?_
  refine lv_iconst (v := nI 1) hx hb dL_law_794 (by decide) ?_
  refine lv_iadd hx hb dL_law_795 ?_
  refine va_sld hx hb hX hbl hbA hS (in_j hi hL (by decide)) dL_law_796 ?_
  refine lv_aload_n hx hb dL_law_797 rfl (lv_at hl 1 rfl) ?_
  refine lv_iload_n hx hb dL_law_798 rfl (lv_at hl 0 rfl) ?_
  refine lv_iconst (v := nI 2) hx hb dL_law_799 (by decide) ?_
  refine lv_iadd hx hb dL_law_800 ?_
  refine va_sld hx hb hX hbl hbA hS (in_j hi hL (by decide)) dL_law_801 ?_
  refine lv_aload_n hx hb dL_law_802 rfl (lv_at hl 1 rfl) ?_
  refine lv_iload_n hx hb dL_law_803 rfl (lv_at hl 0 rfl) ?_
  refine lv_iconst (v := nI 3) hx hb dL_law_804 (by decide) ?_
  refine lv_iadd hx hb dL_law_805 ?_
  refine va_sld hx hb hX hbl hbA hS (in_j hi hL (by decide)) dL_law_806 ?_
  refine lv_aload_n hx hb dL_law_807 rfl (lv_at hl 1 rfl) ?_
  refine lv_iload_n hx hb dL_law_808 rfl (lv_at hl 0 rfl) ?_
  refine lv_iconst (v := nI 4) hx hb dL_law_809 (by decide) ?_
  refine lv_iadd hx hb dL_law_810 ?_
  refine va_sld hx hb hX hbl hbA hS (in_j hi hL (by decide)) dL_law_811 ?_
  refine lawCall (y := mX12_share) (r := 50) (As := [.int (xs (nI i + nI 1).toNatClampNeg), .int (xs (nI i + nI 2).toNatClampNeg), .int (xs (nI i + nI 3).toNatClampNeg), .int (xs (nI i + nI 4).toNatClampNeg)]) (rest := (v.map (cvv ad)).toList) h hCC hk ⟨rfl, Nat.le_of_ble_eq_true rfl, Nat.le_of_ble_eq_true rfl⟩ rfl (Or.inl ⟨12, TX12, _, rfl, rfl⟩) ⟨12, TX12, _, rfl, rfl⟩ tm_L_98 ti_X12_share tse_X12_share tin_X12 tc_X12_share ⟨⟨by decide, by decide⟩, by decide⟩ hl.1 dL_law_812 (optcat v) hP1 hS1 (fun v2 M2 N2 P2 H2 locs2 hq hP2 hS2 => ?_)
  obtain ⟨rfl, ⟨x, rfl⟩, b2, rfl, hR2⟩ := hq
  refine W.eq (g2 := F0 m 815 ls [.long x, .long x]) rfl ?_
  refine W.lcmp hx hb dL_law_815 ?_
  exact lv_if_eq (tgt := 923) hx hb dL_law_816 (by decide) (fun _ => kk b2 M2 N2 H2 locs2 hR2 hP2 hS2) (fun z => absurd (by rw [lg_cmp_eq]) z)
set_option maxHeartbeats 4000000 in
theorem lb_want (h : LC p s m meth c b L xs D aC ad) (hCC : CC ≤ 600000 ∧ SS ≤ 7302250) (hL : L ≤ 3584) (hi : i + 7 ≤ L) (hR : Rel bb M) (hP : va_P D vwCl (rws aC ad M N (pr bb)) H) (hS : va_S (Aad ad) s.heap H locs) (hl : lv_has ls 4 (LV b i ad))
    (kk : ∀ (bb : Bool) (M : Mt) (N : Nt) (H : Heap) (locs : List Loc), Rel bb M → va_P D vwCl (rws aC ad M N (pr bb)) H → va_S (Aad ad) s.heap H locs → W p l e room_1 s m #[Value.ref b] below meth c H locs CC SS Q (F0 m 923 ls [])) : W p l e room_1 s m #[Value.ref b] below meth c H locs CC SS Q (F0 m 821 ls []) := by
  obtain ⟨hx, hb, hrt, hml, hown, hts, hX, hbl, hlocks, hgv⟩ := id h.1
  have hbA := b_out h
  refine lv_aload_n hx hb dL_law_821 rfl (lv_at hl 2 rfl) ?_
  refine lv_aload_n hx hb dL_law_822 rfl (lv_at hl 1 rfl) ?_
  refine lv_iload_n hx hb dL_law_823 rfl (lv_at hl 0 rfl) ?_
  refine lv_iconst (v := nI 1) hx hb dL_law_824 (by decide) ?_
  refine lv_iadd hx hb dL_law_825 ?_
  refine va_sld hx hb hX hbl hbA hS (in_j hi hL (by decide)) dL_law_826 ?_
  refine lv_aload_n hx hb dL_law_827 rfl (lv_at hl 1 rfl) ?_
  refine lv_iload_n hx hb dL_law_828 rfl (lv_at hl 0 rfl) ?_
  refine lv_iconst (v := nI 2) hx hb dL_law_829 (by decide) ?_
  refine lv_iadd hx hb dL_law_830 ?_
  refine va_sld hx hb hX hbl hbA hS (in_j hi hL (by decide)) dL_law_831 ?_
  refine lv_aload_n hx hb dL_law_832 rfl (lv_at hl 1 rfl) ?_
  refine lv_iload_n hx hb dL_law_833 rfl (lv_at hl 0 rfl) ?_
  refine lv_iconst (v := nI 3) hx hb dL_law_834 (by decide) ?_
  refine lv_iadd hx hb dL_law_835 ?_
  refine va_sld hx hb hX hbl hbA hS (in_j hi hL (by decide)) dL_law_836 ?_
  refine lawCall (y := mX11_want) (r := 0) (As := [.int (xs (nI i + nI 1).toNatClampNeg), .int (xs (nI i + nI 2).toNatClampNeg), .int (xs (nI i + nI 3).toNatClampNeg)]) (rest := []) h hCC (Wp.ti (Both.wp (pub_want (d := 0) (N := N) hR)) rfl (by decide)) ⟨rfl, Nat.le_of_ble_eq_true rfl, Nat.le_of_ble_eq_true rfl⟩ rfl (Or.inl ⟨11, TX11, _, rfl, rfl⟩) ⟨11, TX11, _, rfl, rfl⟩ tm_L_99 ti_X11_want tse_X11_want tin_X11 tc_X11_want ⟨⟨by decide, by decide⟩, by decide⟩ hl.1 dL_law_837 (by decide) hP hS (fun v M1 N1 P1 H1 locs1 hk hP1 hS1 => ?_)
  obtain ⟨hk, x, rfl⟩ := hk
  refine W.eq (g2 := F0 m 840 ls [.int x]) rfl ?_
  have hS := hS1
  refine lv_aload_n hx hb dL_law_840 rfl (lv_at hl 3 rfl) ?_
  refine lv_aload_n hx hb dL_law_841 rfl (lv_at hl 1 rfl) ?_
  refine lv_iload_n hx hb dL_law_842 rfl (lv_at hl 0 rfl) ?_
  refine lv_iconst (v := nI 1) hx hb dL_law_843 (by decide) ?_
  refine lv_iadd hx hb dL_law_844 ?_
  refine va_sld hx hb hX hbl hbA hS (in_j hi hL (by decide)) dL_law_845 ?_
  refine lv_aload_n hx hb dL_law_846 rfl (lv_at hl 1 rfl) ?_
  refine lv_iload_n hx hb dL_law_847 rfl (lv_at hl 0 rfl) ?_
  refine lv_iconst (v := nI 2) hx hb dL_law_848 (by decide) ?_
  refine lv_iadd hx hb dL_law_849 ?_
  refine va_sld hx hb hX hbl hbA hS (in_j hi hL (by decide)) dL_law_850 ?_
  refine lv_aload_n hx hb dL_law_851 rfl (lv_at hl 1 rfl) ?_
  refine lv_iload_n hx hb dL_law_852 rfl (lv_at hl 0 rfl) ?_
  refine lv_iconst (v := nI 3) hx hb dL_law_853 (by decide) ?_
  refine lv_iadd hx hb dL_law_854 ?_
  refine va_sld hx hb hX hbl hbA hS (in_j hi hL (by decide)) dL_law_855 ?_
  refine lawCall (y := mX12_want) (r := 50) (As := [.int (xs (nI i + nI 1).toNatClampNeg), .int (xs (nI i + nI 2).toNatClampNeg), .int (xs (nI i + nI 3).toNatClampNeg)]) (rest := [.int x]) h hCC hk ⟨rfl, Nat.le_of_ble_eq_true rfl, Nat.le_of_ble_eq_true rfl⟩ rfl (Or.inl ⟨12, TX12, _, rfl, rfl⟩) ⟨12, TX12, _, rfl, rfl⟩ tm_L_102 ti_X12_want tse_X12_want tin_X12 tc_X12_want ⟨⟨by decide, by decide⟩, by decide⟩ hl.1 dL_law_856 (by show 1 + 0 ≤ 8; omega) hP1 hS1 (fun v2 M2 N2 P2 H2 locs2 hq hP2 hS2 => ?_)
  obtain ⟨rfl, b2, rfl, hR2⟩ := hq
  refine W.eq (g2 := F0 m 859 ls [.int x, .int x]) rfl ?_
  exact lv_icmp_eq (tgt := 923) hx hb dL_law_859 (by decide) (fun _ => kk b2 M2 N2 H2 locs2 hR2 hP2 hS2) (fun z => absurd rfl z)
set_option maxHeartbeats 4000000 in
theorem lb_joy (h : LC p s m meth c b L xs D aC ad) (hCC : CC ≤ 600000 ∧ SS ≤ 7302250) (hL : L ≤ 3584) (hi : i + 7 ≤ L) (hR : Rel bb M) (hP : va_P D vwCl (rws aC ad M N (pr bb)) H) (hS : va_S (Aad ad) s.heap H locs) (hl : lv_has ls 4 (LV b i ad))
    (kk : ∀ (bb : Bool) (M : Mt) (N : Nt) (H : Heap) (locs : List Loc), Rel bb M → va_P D vwCl (rws aC ad M N (pr bb)) H → va_S (Aad ad) s.heap H locs → W p l e room_1 s m #[Value.ref b] below meth c H locs CC SS Q (F0 m 923 ls [])) : W p l e room_1 s m #[Value.ref b] below meth c H locs CC SS Q (F0 m 864 ls []) := by
  obtain ⟨hx, hb, hrt, hml, hown, hts, hX, hbl, hlocks, hgv⟩ := id h.1
  have hbA := b_out h
  refine lv_aload_n hx hb dL_law_864 rfl (lv_at hl 2 rfl) ?_
  refine lawCall (y := mX11_joy) (r := 0) (As := []) (rest := []) h hCC (Wp.ti (Both.wp (pub_joy (d := 0) (N := N) hR)) rfl (by decide)) ⟨rfl, Nat.le_of_ble_eq_true rfl, Nat.le_of_ble_eq_true rfl⟩ rfl (Or.inl ⟨11, TX11, _, rfl, rfl⟩) ⟨11, TX11, _, rfl, rfl⟩ tm_L_103 ti_X11_joy tse_X11_joy tin_X11 tc_X11_joy ⟨⟨by decide, by decide⟩, by decide⟩ hl.1 dL_law_865 (by decide) hP hS (fun v M1 N1 P1 H1 locs1 hk hP1 hS1 => ?_)
  obtain ⟨hk, x, rfl⟩ := hk
  refine W.eq (g2 := F0 m 868 ls [.int x]) rfl ?_
  have hS := hS1
  refine lv_aload_n hx hb dL_law_868 rfl (lv_at hl 3 rfl) ?_
  refine lawCall (y := mX12_joy) (r := 50) (As := []) (rest := [.int x]) h hCC hk ⟨rfl, Nat.le_of_ble_eq_true rfl, Nat.le_of_ble_eq_true rfl⟩ rfl (Or.inl ⟨12, TX12, _, rfl, rfl⟩) ⟨12, TX12, _, rfl, rfl⟩ tm_L_106 ti_X12_joy tse_X12_joy tin_X12 tc_X12_joy ⟨⟨by decide, by decide⟩, by decide⟩ hl.1 dL_law_869 (by show 1 + 0 ≤ 8; omega) hP1 hS1 (fun v2 M2 N2 P2 H2 locs2 hq hP2 hS2 => ?_)
  obtain ⟨rfl, b2, rfl, hR2⟩ := hq
  refine W.eq (g2 := F0 m 872 ls [.int x, .int x]) rfl ?_
  exact lv_icmp_eq (tgt := 923) hx hb dL_law_872 (by decide) (fun _ => kk b2 M2 N2 H2 locs2 hR2 hP2 hS2) (fun z => absurd rfl z)
set_option maxHeartbeats 4000000 in
theorem lb_swap (h : LC p s m meth c b L xs D aC ad) (hCC : CC ≤ 600000 ∧ SS ≤ 7302250) (hL : L ≤ 3584) (hi : i + 7 ≤ L) (hR : Rel bb M) (hP : va_P D vwCl (rws aC ad M N (pr bb)) H) (hS : va_S (Aad ad) s.heap H locs) (hl : lv_has ls 4 (LV b i ad))
    (kk : ∀ (bb : Bool) (M : Mt) (N : Nt) (H : Heap) (locs : List Loc), Rel bb M → va_P D vwCl (rws aC ad M N (pr bb)) H → va_S (Aad ad) s.heap H locs → W p l e room_1 s m #[Value.ref b] below meth c H locs CC SS Q (F0 m 923 ls [])) : W p l e room_1 s m #[Value.ref b] below meth c H locs CC SS Q (F0 m 877 ls []) := by
  obtain ⟨hx, hb, hrt, hml, hown, hts, hX, hbl, hlocks, hgv⟩ := id h.1
  have hbA := b_out h
  refine lv_aload_n hx hb dL_law_877 rfl (lv_at hl 2 rfl) ?_
  refine lv_aload_n hx hb dL_law_878 rfl (lv_at hl 1 rfl) ?_
  refine lv_iload_n hx hb dL_law_879 rfl (lv_at hl 0 rfl) ?_
  refine lv_iconst (v := nI 1) hx hb dL_law_880 (by decide) ?_
  refine lv_iadd hx hb dL_law_881 ?_
  refine va_sld hx hb hX hbl hbA hS (in_j hi hL (by decide)) dL_law_882 ?_
  refine lawCall (y := mX11_swap) (r := 0) (As := [.int (xs (nI i + nI 1).toNatClampNeg)]) (rest := []) h hCC (Wp.ti (Both.wp (pub_swap (d := 0) (N := N) hR)) rfl (by decide)) ⟨rfl, Nat.le_of_ble_eq_true rfl, Nat.le_of_ble_eq_true rfl⟩ rfl (Or.inl ⟨11, TX11, _, rfl, rfl⟩) ⟨11, TX11, _, rfl, rfl⟩ tm_L_107 ti_X11_swap tse_X11_swap tin_X11 tc_X11_swap ⟨⟨by decide, by decide⟩, by decide⟩ hl.1 dL_law_883 (by decide) hP hS (fun v M1 N1 P1 H1 locs1 hk hP1 hS1 => ?_)
  obtain ⟨hk, x, rfl⟩ := hk
  refine W.eq (g2 := F0 m 886 ls [.int x]) rfl ?_
  have hS := hS1
  refine lv_aload_n hx hb dL_law_886 rfl (lv_at hl 3 rfl) ?_
  refine lv_aload_n hx hb dL_law_887 rfl (lv_at hl 1 rfl) ?_
  refine lv_iload_n hx hb dL_law_888 rfl (lv_at hl 0 rfl) ?_
  refine lv_iconst (v := nI 1) hx hb dL_law_889 (by decide) ?_
  refine lv_iadd hx hb dL_law_890 ?_
  refine va_sld hx hb hX hbl hbA hS (in_j hi hL (by decide)) dL_law_891 ?_
  refine lawCall (y := mX12_swap) (r := 50) (As := [.int (xs (nI i + nI 1).toNatClampNeg)]) (rest := [.int x]) h hCC hk ⟨rfl, Nat.le_of_ble_eq_true rfl, Nat.le_of_ble_eq_true rfl⟩ rfl (Or.inl ⟨12, TX12, _, rfl, rfl⟩) ⟨12, TX12, _, rfl, rfl⟩ tm_L_110 ti_X12_swap tse_X12_swap tin_X12 tc_X12_swap ⟨⟨by decide, by decide⟩, by decide⟩ hl.1 dL_law_892 (by show 1 + 0 ≤ 8; omega) hP1 hS1 (fun v2 M2 N2 P2 H2 locs2 hq hP2 hS2 => ?_)
  obtain ⟨rfl, b2, rfl, hR2⟩ := hq
  refine W.eq (g2 := F0 m 895 ls [.int x, .int x]) rfl ?_
  exact lv_icmp_eq (tgt := 923) hx hb dL_law_895 (by decide) (fun _ => kk b2 M2 N2 H2 locs2 hR2 hP2 hS2) (fun z => absurd rfl z)
set_option maxHeartbeats 4000000 in
theorem lb_about (h : LC p s m meth c b L xs D aC ad) (hCC : CC ≤ 600000 ∧ SS ≤ 7302250) (hL : L ≤ 3584) (hi : i + 7 ≤ L) (hR : Rel bb M) (hP : va_P D vwCl (rws aC ad M N (pr bb)) H) (hS : va_S (Aad ad) s.heap H locs) (hl : lv_has ls 4 (LV b i ad))
    (kk : ∀ (bb : Bool) (M : Mt) (N : Nt) (H : Heap) (locs : List Loc), Rel bb M → va_P D vwCl (rws aC ad M N (pr bb)) H → va_S (Aad ad) s.heap H locs → W p l e room_1 s m #[Value.ref b] below meth c H locs CC SS Q (F0 m 923 ls [])) : W p l e room_1 s m #[Value.ref b] below meth c H locs CC SS Q (F0 m 900 ls []) := by
  obtain ⟨hx, hb, hrt, hml, hown, hts, hX, hbl, hlocks, hgv⟩ := id h.1
  have hbA := b_out h
  refine lv_aload_n hx hb dL_law_900 rfl (lv_at hl 2 rfl) ?_
  refine lv_aload_n hx hb dL_law_901 rfl (lv_at hl 1 rfl) ?_
  refine lv_iload_n hx hb dL_law_902 rfl (lv_at hl 0 rfl) ?_
  refine lv_iconst (v := nI 1) hx hb dL_law_903 (by decide) ?_
  refine lv_iadd hx hb dL_law_904 ?_
  refine va_sld hx hb hX hbl hbA hS (in_j hi hL (by decide)) dL_law_905 ?_
  refine lawCall (y := mX11_about) (r := 0) (As := [.int (xs (nI i + nI 1).toNatClampNeg)]) (rest := []) h hCC (Wp.ti (Both.wp (pub_about (d := 0) (N := N) hR)) rfl (by decide)) ⟨rfl, Nat.le_of_ble_eq_true rfl, Nat.le_of_ble_eq_true rfl⟩ rfl (Or.inl ⟨11, TX11, _, rfl, rfl⟩) ⟨11, TX11, _, rfl, rfl⟩ tm_L_111 ti_X11_about tse_X11_about tin_X11 tc_X11_about ⟨⟨by decide, by decide⟩, by decide⟩ hl.1 dL_law_906 (by decide) hP hS (fun v M1 N1 P1 H1 locs1 hk hP1 hS1 => ?_)
  obtain ⟨hk, x, rfl⟩ := hk
  refine W.eq (g2 := F0 m 909 ls [.int x]) rfl ?_
  have hS := hS1
  refine lv_aload_n hx hb dL_law_909 rfl (lv_at hl 3 rfl) ?_
  refine lv_aload_n hx hb dL_law_910 rfl (lv_at hl 1 rfl) ?_
  refine lv_iload_n hx hb dL_law_911 rfl (lv_at hl 0 rfl) ?_
  refine lv_iconst (v := nI 1) hx hb dL_law_912 (by decide) ?_
  refine lv_iadd hx hb dL_law_913 ?_
  refine va_sld hx hb hX hbl hbA hS (in_j hi hL (by decide)) dL_law_914 ?_
  refine lawCall (y := mX12_about) (r := 50) (As := [.int (xs (nI i + nI 1).toNatClampNeg)]) (rest := [.int x]) h hCC hk ⟨rfl, Nat.le_of_ble_eq_true rfl, Nat.le_of_ble_eq_true rfl⟩ rfl (Or.inl ⟨12, TX12, _, rfl, rfl⟩) ⟨12, TX12, _, rfl, rfl⟩ tm_L_114 ti_X12_about tse_X12_about tin_X12 tc_X12_about ⟨⟨by decide, by decide⟩, by decide⟩ hl.1 dL_law_915 (by show 1 + 0 ≤ 8; omega) hP1 hS1 (fun v2 M2 N2 P2 H2 locs2 hq hP2 hS2 => ?_)
  obtain ⟨rfl, b2, rfl, hR2⟩ := hq
  refine W.eq (g2 := F0 m 918 ls [.int x, .int x]) rfl ?_
  exact lv_icmp_eq (tgt := 923) hx hb dL_law_918 (by decide) (fun _ => kk b2 M2 N2 H2 locs2 hR2 hP2 hS2) (fun z => absurd rfl z)
end LB
