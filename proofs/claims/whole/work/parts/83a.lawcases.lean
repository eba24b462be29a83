/-! ===== the law's cases ===== -/
theorem lw_cmp (z : Int64) : lg_cmp z z = 0 := by
  unfold lg_cmp
  rw [if_neg (Int64.lt_irrefl), if_pos rfl]
set_option maxRecDepth 20000 in set_option maxHeartbeats 1000000 in
theorem lw_case_0 {p : Program} {l : Launch} {e : Env} {s : State} {m : MethodId} {below : List Frame} {meth : Method} {c : Code} {b L : Nat} {xs : Nat → Int32} {D : va_G} {cA : ClassId} {X Y : Nat → Nat} {i : Nat} {S : St} (F : lwF p s m meth c b L xs D cA) (hi : i + 6 ≤ L) (hL : L ≤ 3072) (hI : invZ S) (k : lwG p l e s m below meth c b D cA X Y i 1182 (r_letter (zg xs i 1) S).2) : lwG p l e s m below meth c b D cA X Y i 192 S := by
  intro M fw X1 X2 le la td wk wn cs kk cu rd st wg lo H locs ls hM hf hz hP hD hS hl
  have hx := F.1
  have hb := F.2.1
  obtain ⟨rr, hrr⟩ : ∃ z, r_letter (zg xs i 1) S = z := ⟨_, rfl⟩
  rw [hrr] at k
  refine lv_aload_n hx hb dL_law_192 rfl (lv_at hl 1 rfl) ?_
  refine lw_arg (k := 1) F hS hl (by omega) hL (by omega) dL_law_193 dL_law_194 dL_law_195 dL_law_196 dL_law_197 ?_
  have q1 := p_X5_letter (X := X) hI.1 hM hf (zg_in xs i 1) hrr (Post := fun r u => ∃ (M' : Gal) (fw' : List Int), lenG M' ∧ fw'.length = 20 ∧ r = some (vI rr.1) ∧ u = xSt X M' fw' rr.2) (fun M' fw' a b => ⟨M', fw', a, b, rfl, rfl⟩)
  refine lw_callv (ci := 3) (As := [vI (zg xs i 1)]) (a := X 0) (rest := []) (φ := [0, 1, 2, 3, 4, 5, 6, 7, 8, 9, 10, 11, 12, 13, 14, 15, 16, 17, 18, 19, 20, 21, 22, 23, 24, 25, 26, 27, 28]) F (ct_X5_letter l) rfl rfl rfl (glV wd_165 wd_166 wd_167 wd_60 wd_168) rfl rfl (by decide +kernel) ⟨Nat.le_of_ble_eq_true rfl, Nat.le_of_ble_eq_true rfl⟩ dL_law_198 hP hD hS hl.1 rfl (Nat.le_of_ble_eq_true rfl) rfl lw_in.1 (by rw [lw_sx]; exact ⟨rfl, rfl⟩) (tr_sub lw_sx q1) (fun r u H1 locs1 hpost hP hD hS => ?_)
  obtain ⟨M', fw', hM', hf', rfl, rfl⟩ := hpost
  rw [lw_jx] at hP hD
  refine lv_aload_n hx hb dL_law_201 rfl (lv_at hl 2 rfl) ?_
  refine lw_arg (k := 1) F hS hl (by omega) hL (by omega) dL_law_202 dL_law_203 dL_law_204 dL_law_205 dL_law_206 ?_
  have q2 := p_X6_letter (Y := Y) (X1 := X1) (X2 := X2) (le := le) (la := la) (td := td) (wk := wk) (wn := wn) (cs := cs) (kk := kk) (cu := cu) (rd := rd) (st := st) (wg := wg) (lo := lo) hI.1 hz (zg_in xs i 1) hrr (Post := fun r u => ∃ (X1 X2 le la td wk wn cs : List Int) (kk cu rd st wg lo : Int), okZ X1 X2 le la td wk wn cs wg ∧ r = some (vI rr.1) ∧ u = mSt Y X1 X2 le la td wk wn cs kk cu rd st wg lo rr.2) (fun X1 X2 le la td wk wn cs kk cu rd st wg lo hz => ⟨X1, X2, le, la, td, wk, wn, cs, kk, cu, rd, st, wg, lo, hz, rfl, rfl⟩)
  refine lw_callv (ci := 4) (As := [vI (zg xs i 1)]) (a := Y 0) (rest := [mv (vI rr.1)]) (φ := [29, 30, 31, 32, 33, 34, 35, 36, 37, 38, 39, 40, 41, 42, 43, 44, 45]) F (ct_X6_letter l) rfl rfl rfl (glV wd_835 wd_836 wd_837 wd_65 wd_838) rfl rfl (by decide +kernel) ⟨Nat.le_of_ble_eq_true rfl, Nat.le_of_ble_eq_true rfl⟩ dL_law_207 hP hD hS hl.1 rfl (Nat.le_of_ble_eq_true rfl) rfl lw_in.2 (by rw [lw_sy]; exact ⟨rfl, rfl⟩) (tr_sub lw_sy q2) (fun r u H1 locs1 hpost hP hD hS => ?_)
  obtain ⟨X1', X2', le', la', td', wk', wn', cs', kk', cu', rd', st', wg', lo', hz', rfl, rfl⟩ := hpost
  rw [lw_jy] at hP hD
  show lwW p l e s m below meth c b H1 locs1 (F0 m 210 ls [.int (zI rr.1), .int (zI rr.1)])
  refine lv_icmp_eq hx hb dL_law_210 (tgt := 1182) (by decide) (fun _ => ?_) (fun z => absurd rfl z)
  exact k _ _ _ _ _ _ _ _ _ _ _ _ _ _ _ _ _ _ _ hM' hf' hz' hP hD hS hl

set_option maxRecDepth 20000 in set_option maxHeartbeats 1000000 in
theorem lw_case_1 {p : Program} {l : Launch} {e : Env} {s : State} {m : MethodId} {below : List Frame} {meth : Method} {c : Code} {b L : Nat} {xs : Nat → Int32} {D : va_G} {cA : ClassId} {X Y : Nat → Nat} {i : Nat} {S : St} (F : lwF p s m meth c b L xs D cA) (hi : i + 6 ≤ L) (hL : L ≤ 3072) (hI : invZ S) (k : lwG p l e s m below meth c b D cA X Y i 1182 (r_mine S).2) : lwG p l e s m below meth c b D cA X Y i 215 S := by
  intro M fw X1 X2 le la td wk wn cs kk cu rd st wg lo H locs ls hM hf hz hP hD hS hl
  have hx := F.1
  have hb := F.2.1
  obtain ⟨rr, hrr⟩ : ∃ z, r_mine S = z := ⟨_, rfl⟩
  rw [hrr] at k
  refine lv_aload_n hx hb dL_law_215 rfl (lv_at hl 1 rfl) ?_
  have q1 := p_X5_mine (X := X) hI.1 hM hf  hrr (Post := fun r u => ∃ (M' : Gal) (fw' : List Int), lenG M' ∧ fw'.length = 20 ∧ r = some (vI rr.1) ∧ u = xSt X M' fw' rr.2) (fun M' fw' a b => ⟨M', fw', a, b, rfl, rfl⟩)
  refine lw_callv (ci := 3) (As := []) (a := X 0) (rest := []) (φ := [0, 1, 2, 3, 4, 5, 6, 7, 8, 9, 10, 11, 12, 13, 14, 15, 16, 17, 18, 19, 20, 21, 22, 23, 24, 25, 26, 27, 28]) F (ct_X5_mine l) rfl rfl rfl (glV wd_181 wd_182 wd_183 wd_60 wd_184) rfl rfl (by decide +kernel) ⟨Nat.le_of_ble_eq_true rfl, Nat.le_of_ble_eq_true rfl⟩ dL_law_216 hP hD hS hl.1 rfl (Nat.le_of_ble_eq_true rfl) rfl lw_in.1 (by rw [lw_sx]; exact ⟨rfl, rfl⟩) (tr_sub lw_sx q1) (fun r u H1 locs1 hpost hP hD hS => ?_)
  obtain ⟨M', fw', hM', hf', rfl, rfl⟩ := hpost
  rw [lw_jx] at hP hD
  refine lv_aload_n hx hb dL_law_219 rfl (lv_at hl 2 rfl) ?_
  have q2 := p_X6_mine (Y := Y) (X1 := X1) (X2 := X2) (le := le) (la := la) (td := td) (wk := wk) (wn := wn) (cs := cs) (kk := kk) (cu := cu) (rd := rd) (st := st) (wg := wg) (lo := lo) hI.1 hz hI.2.1  hrr (Post := fun r u => ∃ (X1 X2 le la td wk wn cs : List Int) (kk cu rd st wg lo : Int), okZ X1 X2 le la td wk wn cs wg ∧ r = some (vI rr.1) ∧ u = mSt Y X1 X2 le la td wk wn cs kk cu rd st wg lo rr.2) (fun X1 X2 le la td wk wn cs kk cu rd st wg lo hz => ⟨X1, X2, le, la, td, wk, wn, cs, kk, cu, rd, st, wg, lo, hz, rfl, rfl⟩)
  refine lw_callv (ci := 4) (As := []) (a := Y 0) (rest := [mv (vI rr.1)]) (φ := [29, 30, 31, 32, 33, 34, 35, 36, 37, 38, 39, 40, 41, 42, 43, 44, 45]) F (ct_X6_mine l) rfl rfl rfl (glV wd_846 wd_847 wd_848 wd_65 wd_849) rfl rfl (by decide +kernel) ⟨Nat.le_of_ble_eq_true rfl, Nat.le_of_ble_eq_true rfl⟩ dL_law_220 hP hD hS hl.1 rfl (Nat.le_of_ble_eq_true rfl) rfl lw_in.2 (by rw [lw_sy]; exact ⟨rfl, rfl⟩) (tr_sub lw_sy q2) (fun r u H1 locs1 hpost hP hD hS => ?_)
  obtain ⟨X1', X2', le', la', td', wk', wn', cs', kk', cu', rd', st', wg', lo', hz', rfl, rfl⟩ := hpost
  rw [lw_jy] at hP hD
  show lwW p l e s m below meth c b H1 locs1 (F0 m 223 ls [.int (zI rr.1), .int (zI rr.1)])
  refine lv_icmp_eq hx hb dL_law_223 (tgt := 1182) (by decide) (fun _ => ?_) (fun z => absurd rfl z)
  exact k _ _ _ _ _ _ _ _ _ _ _ _ _ _ _ _ _ _ _ hM' hf' hz' hP hD hS hl

set_option maxRecDepth 20000 in set_option maxHeartbeats 1000000 in
theorem lw_case_2 {p : Program} {l : Launch} {e : Env} {s : State} {m : MethodId} {below : List Frame} {meth : Method} {c : Code} {b L : Nat} {xs : Nat → Int32} {D : va_G} {cA : ClassId} {X Y : Nat → Nat} {i : Nat} {S : St} (F : lwF p s m meth c b L xs D cA) (hi : i + 6 ≤ L) (hL : L ≤ 3072) (hI : invZ S) (k : lwG p l e s m below meth c b D cA X Y i 1182 (r_miner (zg xs i 1) (zg xs i 2) S).2) : lwG p l e s m below meth c b D cA X Y i 228 S := by
  intro M fw X1 X2 le la td wk wn cs kk cu rd st wg lo H locs ls hM hf hz hP hD hS hl
  have hx := F.1
  have hb := F.2.1
  obtain ⟨rr, hrr⟩ : ∃ z, r_miner (zg xs i 1) (zg xs i 2) S = z := ⟨_, rfl⟩
  rw [hrr] at k
  refine lv_aload_n hx hb dL_law_228 rfl (lv_at hl 1 rfl) ?_
  refine lw_arg (k := 1) F hS hl (by omega) hL (by omega) dL_law_229 dL_law_230 dL_law_231 dL_law_232 dL_law_233 ?_
  refine lw_arg (k := 2) F hS hl (by omega) hL (by omega) dL_law_234 dL_law_235 dL_law_236 dL_law_237 dL_law_238 ?_
  have q1 := p_X5_miner (X := X) hI.1 hM hf (zg_in xs i 1) (zg_in xs i 2) hrr (Post := fun r u => ∃ (M' : Gal) (fw' : List Int), lenG M' ∧ fw'.length = 20 ∧ r = some (vI rr.1) ∧ u = xSt X M' fw' rr.2) (fun M' fw' a b => ⟨M', fw', a, b, rfl, rfl⟩)
  refine lw_callv (ci := 3) (As := [vI (zg xs i 1), vI (zg xs i 2)]) (a := X 0) (rest := []) (φ := [0, 1, 2, 3, 4, 5, 6, 7, 8, 9, 10, 11, 12, 13, 14, 15, 16, 17, 18, 19, 20, 21, 22, 23, 24, 25, 26, 27, 28]) F (ct_X5_miner l) rfl rfl rfl (glV wd_334 wd_335 wd_336 wd_60 wd_337) rfl rfl (by decide +kernel) ⟨Nat.le_of_ble_eq_true rfl, Nat.le_of_ble_eq_true rfl⟩ dL_law_239 hP hD hS hl.1 rfl (Nat.le_of_ble_eq_true rfl) rfl lw_in.1 (by rw [lw_sx]; exact ⟨rfl, rfl⟩) (tr_sub lw_sx q1) (fun r u H1 locs1 hpost hP hD hS => ?_)
  obtain ⟨M', fw', hM', hf', rfl, rfl⟩ := hpost
  rw [lw_jx] at hP hD
  refine lv_aload_n hx hb dL_law_242 rfl (lv_at hl 2 rfl) ?_
  refine lw_arg (k := 1) F hS hl (by omega) hL (by omega) dL_law_243 dL_law_244 dL_law_245 dL_law_246 dL_law_247 ?_
  refine lw_arg (k := 2) F hS hl (by omega) hL (by omega) dL_law_248 dL_law_249 dL_law_250 dL_law_251 dL_law_252 ?_
  have q2 := p_X6_miner (Y := Y) (X1 := X1) (X2 := X2) (le := le) (la := la) (td := td) (wk := wk) (wn := wn) (cs := cs) (kk := kk) (cu := cu) (rd := rd) (st := st) (wg := wg) (lo := lo) hI.1 hz (zg_in xs i 1) (zg_in xs i 2) hrr (Post := fun r u => ∃ (X1 X2 le la td wk wn cs : List Int) (kk cu rd st wg lo : Int), okZ X1 X2 le la td wk wn cs wg ∧ r = some (vI rr.1) ∧ u = mSt Y X1 X2 le la td wk wn cs kk cu rd st wg lo rr.2) (fun X1 X2 le la td wk wn cs kk cu rd st wg lo hz => ⟨X1, X2, le, la, td, wk, wn, cs, kk, cu, rd, st, wg, lo, hz, rfl, rfl⟩)
  refine lw_callv (ci := 4) (As := [vI (zg xs i 1), vI (zg xs i 2)]) (a := Y 0) (rest := [mv (vI rr.1)]) (φ := [29, 30, 31, 32, 33, 34, 35, 36, 37, 38, 39, 40, 41, 42, 43, 44, 45]) F (ct_X6_miner l) rfl rfl rfl (glV wd_972 wd_973 wd_974 wd_65 wd_975) rfl rfl (by decide +kernel) ⟨Nat.le_of_ble_eq_true rfl, Nat.le_of_ble_eq_true rfl⟩ dL_law_253 hP hD hS hl.1 rfl (Nat.le_of_ble_eq_true rfl) rfl lw_in.2 (by rw [lw_sy]; exact ⟨rfl, rfl⟩) (tr_sub lw_sy q2) (fun r u H1 locs1 hpost hP hD hS => ?_)
  obtain ⟨X1', X2', le', la', td', wk', wn', cs', kk', cu', rd', st', wg', lo', hz', rfl, rfl⟩ := hpost
  rw [lw_jy] at hP hD
  show lwW p l e s m below meth c b H1 locs1 (F0 m 256 ls [.int (zI rr.1), .int (zI rr.1)])
  refine lv_icmp_eq hx hb dL_law_256 (tgt := 1182) (by decide) (fun _ => ?_) (fun z => absurd rfl z)
  exact k _ _ _ _ _ _ _ _ _ _ _ _ _ _ _ _ _ _ _ hM' hf' hz' hP hD hS hl

set_option maxRecDepth 20000 in set_option maxHeartbeats 1000000 in
theorem lw_case_3 {p : Program} {l : Launch} {e : Env} {s : State} {m : MethodId} {below : List Frame} {meth : Method} {c : Code} {b L : Nat} {xs : Nat → Int32} {D : va_G} {cA : ClassId} {X Y : Nat → Nat} {i : Nat} {S : St} (F : lwF p s m meth c b L xs D cA) (hi : i + 6 ≤ L) (hL : L ≤ 3072) (hI : invZ S) (k : lwG p l e s m below meth c b D cA X Y i 1182 (r_pair (zg xs i 1) (zg xs i 2) S).2) : lwG p l e s m below meth c b D cA X Y i 261 S := by
  intro M fw X1 X2 le la td wk wn cs kk cu rd st wg lo H locs ls hM hf hz hP hD hS hl
  have hx := F.1
  have hb := F.2.1
  obtain ⟨rr, hrr⟩ : ∃ z, r_pair (zg xs i 1) (zg xs i 2) S = z := ⟨_, rfl⟩
  rw [hrr] at k
  refine lv_aload_n hx hb dL_law_261 rfl (lv_at hl 1 rfl) ?_
  refine lw_arg (k := 1) F hS hl (by omega) hL (by omega) dL_law_262 dL_law_263 dL_law_264 dL_law_265 dL_law_266 ?_
  refine lw_arg (k := 2) F hS hl (by omega) hL (by omega) dL_law_267 dL_law_268 dL_law_269 dL_law_270 dL_law_271 ?_
  have q1 := p_X5_pair (X := X) hI.1 hM hf (zg_in xs i 1) (zg_in xs i 2) hrr (Post := fun r u => ∃ (M' : Gal) (fw' : List Int), lenG M' ∧ fw'.length = 20 ∧ r = some (vI rr.1) ∧ u = xSt X M' fw' rr.2) (fun M' fw' a b => ⟨M', fw', a, b, rfl, rfl⟩)
  refine lw_callv (ci := 3) (As := [vI (zg xs i 1), vI (zg xs i 2)]) (a := X 0) (rest := []) (φ := [0, 1, 2, 3, 4, 5, 6, 7, 8, 9, 10, 11, 12, 13, 14, 15, 16, 17, 18, 19, 20, 21, 22, 23, 24, 25, 26, 27, 28]) F (ct_X5_pair l) rfl rfl rfl (glV wd_346 wd_347 wd_348 wd_60 wd_349) rfl rfl (by decide +kernel) ⟨Nat.le_of_ble_eq_true rfl, Nat.le_of_ble_eq_true rfl⟩ dL_law_272 hP hD hS hl.1 rfl (Nat.le_of_ble_eq_true rfl) rfl lw_in.1 (by rw [lw_sx]; exact ⟨rfl, rfl⟩) (tr_sub lw_sx q1) (fun r u H1 locs1 hpost hP hD hS => ?_)
  obtain ⟨M', fw', hM', hf', rfl, rfl⟩ := hpost
  rw [lw_jx] at hP hD
  refine lv_aload_n hx hb dL_law_275 rfl (lv_at hl 2 rfl) ?_
  refine lw_arg (k := 1) F hS hl (by omega) hL (by omega) dL_law_276 dL_law_277 dL_law_278 dL_law_279 dL_law_280 ?_
  refine lw_arg (k := 2) F hS hl (by omega) hL (by omega) dL_law_281 dL_law_282 dL_law_283 dL_law_284 dL_law_285 ?_
  have q2 := p_X6_pair (Y := Y) (X1 := X1) (X2 := X2) (le := le) (la := la) (td := td) (wk := wk) (wn := wn) (cs := cs) (kk := kk) (cu := cu) (rd := rd) (st := st) (wg := wg) (lo := lo) hI.1 hz (zg_in xs i 1) (zg_in xs i 2) hrr (Post := fun r u => ∃ (X1 X2 le la td wk wn cs : List Int) (kk cu rd st wg lo : Int), okZ X1 X2 le la td wk wn cs wg ∧ r = some (vI rr.1) ∧ u = mSt Y X1 X2 le la td wk wn cs kk cu rd st wg lo rr.2) (fun X1 X2 le la td wk wn cs kk cu rd st wg lo hz => ⟨X1, X2, le, la, td, wk, wn, cs, kk, cu, rd, st, wg, lo, hz, rfl, rfl⟩)
  refine lw_callv (ci := 4) (As := [vI (zg xs i 1), vI (zg xs i 2)]) (a := Y 0) (rest := [mv (vI rr.1)]) (φ := [29, 30, 31, 32, 33, 34, 35, 36, 37, 38, 39, 40, 41, 42, 43, 44, 45]) F (ct_X6_pair l) rfl rfl rfl (glV wd_976 wd_977 wd_978 wd_65 wd_979) rfl rfl (by decide +kernel) ⟨Nat.le_of_ble_eq_true rfl, Nat.le_of_ble_eq_true rfl⟩ dL_law_286 hP hD hS hl.1 rfl (Nat.le_of_ble_eq_true rfl) rfl lw_in.2 (by rw [lw_sy]; exact ⟨rfl, rfl⟩) (tr_sub lw_sy q2) (fun r u H1 locs1 hpost hP hD hS => ?_)
  obtain ⟨X1', X2', le', la', td', wk', wn', cs', kk', cu', rd', st', wg', lo', hz', rfl, rfl⟩ := hpost
  rw [lw_jy] at hP hD
  show lwW p l e s m below meth c b H1 locs1 (F0 m 289 ls [.int (zI rr.1), .int (zI rr.1)])
  refine lv_icmp_eq hx hb dL_law_289 (tgt := 1182) (by decide) (fun _ => ?_) (fun z => absurd rfl z)
  exact k _ _ _ _ _ _ _ _ _ _ _ _ _ _ _ _ _ _ _ hM' hf' hz' hP hD hS hl

set_option maxRecDepth 20000 in set_option maxHeartbeats 1000000 in
theorem lw_case_4 {p : Program} {l : Launch} {e : Env} {s : State} {m : MethodId} {below : List Frame} {meth : Method} {c : Code} {b L : Nat} {xs : Nat → Int32} {D : va_G} {cA : ClassId} {X Y : Nat → Nat} {i : Nat} {S : St} (F : lwF p s m meth c b L xs D cA) (hi : i + 6 ≤ L) (hL : L ≤ 3072) (hI : invZ S) (k : lwG p l e s m below meth c b D cA X Y i 1182 (r_beams (zg xs i 1) S).2) : lwG p l e s m below meth c b D cA X Y i 294 S := by
  intro M fw X1 X2 le la td wk wn cs kk cu rd st wg lo H locs ls hM hf hz hP hD hS hl
  have hx := F.1
  have hb := F.2.1
  obtain ⟨rr, hrr⟩ : ∃ z, r_beams (zg xs i 1) S = z := ⟨_, rfl⟩
  rw [hrr] at k
  refine lv_aload_n hx hb dL_law_294 rfl (lv_at hl 1 rfl) ?_
  refine lw_arg (k := 1) F hS hl (by omega) hL (by omega) dL_law_295 dL_law_296 dL_law_297 dL_law_298 dL_law_299 ?_
  have q1 := p_X5_beams (X := X) hI.1 hM hf (zg_in xs i 1) hrr (Post := fun r u => ∃ (M' : Gal) (fw' : List Int), lenG M' ∧ fw'.length = 20 ∧ r = some (vI rr.1) ∧ u = xSt X M' fw' rr.2) (fun M' fw' a b => ⟨M', fw', a, b, rfl, rfl⟩)
  refine lw_callv (ci := 3) (As := [vI (zg xs i 1)]) (a := X 0) (rest := []) (φ := [0, 1, 2, 3, 4, 5, 6, 7, 8, 9, 10, 11, 12, 13, 14, 15, 16, 17, 18, 19, 20, 21, 22, 23, 24, 25, 26, 27, 28]) F (ct_X5_beams l) rfl rfl rfl (glV wd_358 wd_359 wd_360 wd_60 wd_361) rfl rfl (by decide +kernel) ⟨Nat.le_of_ble_eq_true rfl, Nat.le_of_ble_eq_true rfl⟩ dL_law_300 hP hD hS hl.1 rfl (Nat.le_of_ble_eq_true rfl) rfl lw_in.1 (by rw [lw_sx]; exact ⟨rfl, rfl⟩) (tr_sub lw_sx q1) (fun r u H1 locs1 hpost hP hD hS => ?_)
  obtain ⟨M', fw', hM', hf', rfl, rfl⟩ := hpost
  rw [lw_jx] at hP hD
  refine lv_aload_n hx hb dL_law_303 rfl (lv_at hl 2 rfl) ?_
  refine lw_arg (k := 1) F hS hl (by omega) hL (by omega) dL_law_304 dL_law_305 dL_law_306 dL_law_307 dL_law_308 ?_
  have q2 := p_X6_beams (Y := Y) (X1 := X1) (X2 := X2) (le := le) (la := la) (td := td) (wk := wk) (wn := wn) (cs := cs) (kk := kk) (cu := cu) (rd := rd) (st := st) (wg := wg) (lo := lo) hI.1 hz (zg_in xs i 1) hrr (Post := fun r u => ∃ (X1 X2 le la td wk wn cs : List Int) (kk cu rd st wg lo : Int), okZ X1 X2 le la td wk wn cs wg ∧ r = some (vI rr.1) ∧ u = mSt Y X1 X2 le la td wk wn cs kk cu rd st wg lo rr.2) (fun X1 X2 le la td wk wn cs kk cu rd st wg lo hz => ⟨X1, X2, le, la, td, wk, wn, cs, kk, cu, rd, st, wg, lo, hz, rfl, rfl⟩)
  refine lw_callv (ci := 4) (As := [vI (zg xs i 1)]) (a := Y 0) (rest := [mv (vI rr.1)]) (φ := [29, 30, 31, 32, 33, 34, 35, 36, 37, 38, 39, 40, 41, 42, 43, 44, 45]) F (ct_X6_beams l) rfl rfl rfl (glV wd_980 wd_981 wd_982 wd_65 wd_983) rfl rfl (by decide +kernel) ⟨Nat.le_of_ble_eq_true rfl, Nat.le_of_ble_eq_true rfl⟩ dL_law_309 hP hD hS hl.1 rfl (Nat.le_of_ble_eq_true rfl) rfl lw_in.2 (by rw [lw_sy]; exact ⟨rfl, rfl⟩) (tr_sub lw_sy q2) (fun r u H1 locs1 hpost hP hD hS => ?_)
  obtain ⟨X1', X2', le', la', td', wk', wn', cs', kk', cu', rd', st', wg', lo', hz', rfl, rfl⟩ := hpost
  rw [lw_jy] at hP hD
  show lwW p l e s m below meth c b H1 locs1 (F0 m 312 ls [.int (zI rr.1), .int (zI rr.1)])
  refine lv_icmp_eq hx hb dL_law_312 (tgt := 1182) (by decide) (fun _ => ?_) (fun z => absurd rfl z)
  exact k _ _ _ _ _ _ _ _ _ _ _ _ _ _ _ _ _ _ _ hM' hf' hz' hP hD hS hl

set_option maxRecDepth 20000 in set_option maxHeartbeats 1000000 in
theorem lw_case_5 {p : Program} {l : Launch} {e : Env} {s : State} {m : MethodId} {below : List Frame} {meth : Method} {c : Code} {b L : Nat} {xs : Nat → Int32} {D : va_G} {cA : ClassId} {X Y : Nat → Nat} {i : Nat} {S : St} (F : lwF p s m meth c b L xs D cA) (hi : i + 6 ≤ L) (hL : L ≤ 3072) (hI : invZ S) (k : lwG p l e s m below meth c b D cA X Y i 1182 (r_props (zg xs i 1) (zg xs i 2) S).2) : lwG p l e s m below meth c b D cA X Y i 317 S := by
  intro M fw X1 X2 le la td wk wn cs kk cu rd st wg lo H locs ls hM hf hz hP hD hS hl
  have hx := F.1
  have hb := F.2.1
  obtain ⟨rr, hrr⟩ : ∃ z, r_props (zg xs i 1) (zg xs i 2) S = z := ⟨_, rfl⟩
  rw [hrr] at k
  refine lv_aload_n hx hb dL_law_317 rfl (lv_at hl 1 rfl) ?_
  refine lw_arg (k := 1) F hS hl (by omega) hL (by omega) dL_law_318 dL_law_319 dL_law_320 dL_law_321 dL_law_322 ?_
  refine lw_arg (k := 2) F hS hl (by omega) hL (by omega) dL_law_323 dL_law_324 dL_law_325 dL_law_326 dL_law_327 ?_
  have q1 := p_X5_props (X := X) hI.1 hM hf (zg_in xs i 1) (zg_in xs i 2) hrr (Post := fun r u => ∃ (M' : Gal) (fw' : List Int), lenG M' ∧ fw'.length = 20 ∧ r = some (vI rr.1) ∧ u = xSt X M' fw' rr.2) (fun M' fw' a b => ⟨M', fw', a, b, rfl, rfl⟩)
  refine lw_callv (ci := 3) (As := [vI (zg xs i 1), vI (zg xs i 2)]) (a := X 0) (rest := []) (φ := [0, 1, 2, 3, 4, 5, 6, 7, 8, 9, 10, 11, 12, 13, 14, 15, 16, 17, 18, 19, 20, 21, 22, 23, 24, 25, 26, 27, 28]) F (ct_X5_props l) rfl rfl rfl (glV wd_366 wd_367 wd_368 wd_60 wd_369) rfl rfl (by decide +kernel) ⟨Nat.le_of_ble_eq_true rfl, Nat.le_of_ble_eq_true rfl⟩ dL_law_328 hP hD hS hl.1 rfl (Nat.le_of_ble_eq_true rfl) rfl lw_in.1 (by rw [lw_sx]; exact ⟨rfl, rfl⟩) (tr_sub lw_sx q1) (fun r u H1 locs1 hpost hP hD hS => ?_)
  obtain ⟨M', fw', hM', hf', rfl, rfl⟩ := hpost
  rw [lw_jx] at hP hD
  refine lv_aload_n hx hb dL_law_331 rfl (lv_at hl 2 rfl) ?_
  refine lw_arg (k := 1) F hS hl (by omega) hL (by omega) dL_law_332 dL_law_333 dL_law_334 dL_law_335 dL_law_336 ?_
  refine lw_arg (k := 2) F hS hl (by omega) hL (by omega) dL_law_337 dL_law_338 dL_law_339 dL_law_340 dL_law_341 ?_
  have q2 := p_X6_props (Y := Y) (X1 := X1) (X2 := X2) (le := le) (la := la) (td := td) (wk := wk) (wn := wn) (cs := cs) (kk := kk) (cu := cu) (rd := rd) (st := st) (wg := wg) (lo := lo) hI.1 hz (zg_in xs i 1) (zg_in xs i 2) hrr (Post := fun r u => ∃ (X1 X2 le la td wk wn cs : List Int) (kk cu rd st wg lo : Int), okZ X1 X2 le la td wk wn cs wg ∧ r = some (vI rr.1) ∧ u = mSt Y X1 X2 le la td wk wn cs kk cu rd st wg lo rr.2) (fun X1 X2 le la td wk wn cs kk cu rd st wg lo hz => ⟨X1, X2, le, la, td, wk, wn, cs, kk, cu, rd, st, wg, lo, hz, rfl, rfl⟩)
  refine lw_callv (ci := 4) (As := [vI (zg xs i 1), vI (zg xs i 2)]) (a := Y 0) (rest := [mv (vI rr.1)]) (φ := [29, 30, 31, 32, 33, 34, 35, 36, 37, 38, 39, 40, 41, 42, 43, 44, 45]) F (ct_X6_props l) rfl rfl rfl (glV wd_984 wd_985 wd_986 wd_65 wd_987) rfl rfl (by decide +kernel) ⟨Nat.le_of_ble_eq_true rfl, Nat.le_of_ble_eq_true rfl⟩ dL_law_342 hP hD hS hl.1 rfl (Nat.le_of_ble_eq_true rfl) rfl lw_in.2 (by rw [lw_sy]; exact ⟨rfl, rfl⟩) (tr_sub lw_sy q2) (fun r u H1 locs1 hpost hP hD hS => ?_)
  obtain ⟨X1', X2', le', la', td', wk', wn', cs', kk', cu', rd', st', wg', lo', hz', rfl, rfl⟩ := hpost
  rw [lw_jy] at hP hD
  show lwW p l e s m below meth c b H1 locs1 (F0 m 345 ls [.int (zI rr.1), .int (zI rr.1)])
  refine lv_icmp_eq hx hb dL_law_345 (tgt := 1182) (by decide) (fun _ => ?_) (fun z => absurd rfl z)
  exact k _ _ _ _ _ _ _ _ _ _ _ _ _ _ _ _ _ _ _ hM' hf' hz' hP hD hS hl

set_option maxRecDepth 20000 in set_option maxHeartbeats 1000000 in
theorem lw_case_6 {p : Program} {l : Launch} {e : Env} {s : State} {m : MethodId} {below : List Frame} {meth : Method} {c : Code} {b L : Nat} {xs : Nat → Int32} {D : va_G} {cA : ClassId} {X Y : Nat → Nat} {i : Nat} {S : St} (F : lwF p s m meth c b L xs D cA) (hi : i + 6 ≤ L) (hL : L ≤ 3072) (hI : invZ S) (k : lwG p l e s m below meth c b D cA X Y i 1182 (r_stands (zg xs i 1) (zg xs i 2) S).2) : lwG p l e s m below meth c b D cA X Y i 350 S := by
  intro M fw X1 X2 le la td wk wn cs kk cu rd st wg lo H locs ls hM hf hz hP hD hS hl
  have hx := F.1
  have hb := F.2.1
  obtain ⟨rr, hrr⟩ : ∃ z, r_stands (zg xs i 1) (zg xs i 2) S = z := ⟨_, rfl⟩
  rw [hrr] at k
  refine lv_aload_n hx hb dL_law_350 rfl (lv_at hl 1 rfl) ?_
  refine lw_arg (k := 1) F hS hl (by omega) hL (by omega) dL_law_351 dL_law_352 dL_law_353 dL_law_354 dL_law_355 ?_
  refine lw_arg (k := 2) F hS hl (by omega) hL (by omega) dL_law_356 dL_law_357 dL_law_358 dL_law_359 dL_law_360 ?_
  have q1 := p_X5_stands (X := X) hI.1 hM hf (zg_in xs i 1) (zg_in xs i 2) hrr (Post := fun r u => ∃ (M' : Gal) (fw' : List Int), lenG M' ∧ fw'.length = 20 ∧ r = some (vI rr.1) ∧ u = xSt X M' fw' rr.2) (fun M' fw' a b => ⟨M', fw', a, b, rfl, rfl⟩)
  refine lw_callv (ci := 3) (As := [vI (zg xs i 1), vI (zg xs i 2)]) (a := X 0) (rest := []) (φ := [0, 1, 2, 3, 4, 5, 6, 7, 8, 9, 10, 11, 12, 13, 14, 15, 16, 17, 18, 19, 20, 21, 22, 23, 24, 25, 26, 27, 28]) F (ct_X5_stands l) rfl rfl rfl (glV wd_371 wd_372 wd_373 wd_60 wd_374) rfl rfl (by decide +kernel) ⟨Nat.le_of_ble_eq_true rfl, Nat.le_of_ble_eq_true rfl⟩ dL_law_361 hP hD hS hl.1 rfl (Nat.le_of_ble_eq_true rfl) rfl lw_in.1 (by rw [lw_sx]; exact ⟨rfl, rfl⟩) (tr_sub lw_sx q1) (fun r u H1 locs1 hpost hP hD hS => ?_)
  obtain ⟨M', fw', hM', hf', rfl, rfl⟩ := hpost
  rw [lw_jx] at hP hD
  refine lv_aload_n hx hb dL_law_364 rfl (lv_at hl 2 rfl) ?_
  refine lw_arg (k := 1) F hS hl (by omega) hL (by omega) dL_law_365 dL_law_366 dL_law_367 dL_law_368 dL_law_369 ?_
  refine lw_arg (k := 2) F hS hl (by omega) hL (by omega) dL_law_370 dL_law_371 dL_law_372 dL_law_373 dL_law_374 ?_
  have q2 := p_X6_stands (Y := Y) (X1 := X1) (X2 := X2) (le := le) (la := la) (td := td) (wk := wk) (wn := wn) (cs := cs) (kk := kk) (cu := cu) (rd := rd) (st := st) (wg := wg) (lo := lo) hI.1 hz (zg_in xs i 1) (zg_in xs i 2) hrr (Post := fun r u => ∃ (X1 X2 le la td wk wn cs : List Int) (kk cu rd st wg lo : Int), okZ X1 X2 le la td wk wn cs wg ∧ r = some (vI rr.1) ∧ u = mSt Y X1 X2 le la td wk wn cs kk cu rd st wg lo rr.2) (fun X1 X2 le la td wk wn cs kk cu rd st wg lo hz => ⟨X1, X2, le, la, td, wk, wn, cs, kk, cu, rd, st, wg, lo, hz, rfl, rfl⟩)
  refine lw_callv (ci := 4) (As := [vI (zg xs i 1), vI (zg xs i 2)]) (a := Y 0) (rest := [mv (vI rr.1)]) (φ := [29, 30, 31, 32, 33, 34, 35, 36, 37, 38, 39, 40, 41, 42, 43, 44, 45]) F (ct_X6_stands l) rfl rfl rfl (glV wd_988 wd_989 wd_990 wd_65 wd_991) rfl rfl (by decide +kernel) ⟨Nat.le_of_ble_eq_true rfl, Nat.le_of_ble_eq_true rfl⟩ dL_law_375 hP hD hS hl.1 rfl (Nat.le_of_ble_eq_true rfl) rfl lw_in.2 (by rw [lw_sy]; exact ⟨rfl, rfl⟩) (tr_sub lw_sy q2) (fun r u H1 locs1 hpost hP hD hS => ?_)
  obtain ⟨X1', X2', le', la', td', wk', wn', cs', kk', cu', rd', st', wg', lo', hz', rfl, rfl⟩ := hpost
  rw [lw_jy] at hP hD
  show lwW p l e s m below meth c b H1 locs1 (F0 m 378 ls [.int (zI rr.1), .int (zI rr.1)])
  refine lv_icmp_eq hx hb dL_law_378 (tgt := 1182) (by decide) (fun _ => ?_) (fun z => absurd rfl z)
  exact k _ _ _ _ _ _ _ _ _ _ _ _ _ _ _ _ _ _ _ hM' hf' hz' hP hD hS hl

set_option maxRecDepth 20000 in set_option maxHeartbeats 1000000 in
theorem lw_case_7 {p : Program} {l : Launch} {e : Env} {s : State} {m : MethodId} {below : List Frame} {meth : Method} {c : Code} {b L : Nat} {xs : Nat → Int32} {D : va_G} {cA : ClassId} {X Y : Nat → Nat} {i : Nat} {S : St} (F : lwF p s m meth c b L xs D cA) (hi : i + 6 ≤ L) (hL : L ≤ 3072) (hI : invZ S) (k : lwG p l e s m below meth c b D cA X Y i 1182 (r_adds (zg xs i 1) (zg xs i 2) S).2) : lwG p l e s m below meth c b D cA X Y i 383 S := by
  intro M fw X1 X2 le la td wk wn cs kk cu rd st wg lo H locs ls hM hf hz hP hD hS hl
  have hx := F.1
  have hb := F.2.1
  obtain ⟨rr, hrr⟩ : ∃ z, r_adds (zg xs i 1) (zg xs i 2) S = z := ⟨_, rfl⟩
  rw [hrr] at k
  refine lv_aload_n hx hb dL_law_383 rfl (lv_at hl 1 rfl) ?_
  refine lw_arg (k := 1) F hS hl (by omega) hL (by omega) dL_law_384 dL_law_385 dL_law_386 dL_law_387 dL_law_388 ?_
  refine lw_arg (k := 2) F hS hl (by omega) hL (by omega) dL_law_389 dL_law_390 dL_law_391 dL_law_392 dL_law_393 ?_
  have q1 := p_X5_adds (X := X) hI.1 hM hf (zg_in xs i 1) (zg_in xs i 2) hrr (Post := fun r u => ∃ (M' : Gal) (fw' : List Int), lenG M' ∧ fw'.length = 20 ∧ r = some (vI rr.1) ∧ u = xSt X M' fw' rr.2) (fun M' fw' a b => ⟨M', fw', a, b, rfl, rfl⟩)
  refine lw_callv (ci := 3) (As := [vI (zg xs i 1), vI (zg xs i 2)]) (a := X 0) (rest := []) (φ := [0, 1, 2, 3, 4, 5, 6, 7, 8, 9, 10, 11, 12, 13, 14, 15, 16, 17, 18, 19, 20, 21, 22, 23, 24, 25, 26, 27, 28]) F (ct_X5_adds l) rfl rfl rfl (glV wd_376 wd_377 wd_378 wd_60 wd_379) rfl rfl (by decide +kernel) ⟨Nat.le_of_ble_eq_true rfl, Nat.le_of_ble_eq_true rfl⟩ dL_law_394 hP hD hS hl.1 rfl (Nat.le_of_ble_eq_true rfl) rfl lw_in.1 (by rw [lw_sx]; exact ⟨rfl, rfl⟩) (tr_sub lw_sx q1) (fun r u H1 locs1 hpost hP hD hS => ?_)
  obtain ⟨M', fw', hM', hf', rfl, rfl⟩ := hpost
  rw [lw_jx] at hP hD
  refine lv_aload_n hx hb dL_law_397 rfl (lv_at hl 2 rfl) ?_
  refine lw_arg (k := 1) F hS hl (by omega) hL (by omega) dL_law_398 dL_law_399 dL_law_400 dL_law_401 dL_law_402 ?_
  refine lw_arg (k := 2) F hS hl (by omega) hL (by omega) dL_law_403 dL_law_404 dL_law_405 dL_law_406 dL_law_407 ?_
  have q2 := p_X6_adds (Y := Y) (X1 := X1) (X2 := X2) (le := le) (la := la) (td := td) (wk := wk) (wn := wn) (cs := cs) (kk := kk) (cu := cu) (rd := rd) (st := st) (wg := wg) (lo := lo) hI.1 hz (zg_in xs i 1) (zg_in xs i 2) hrr (Post := fun r u => ∃ (X1 X2 le la td wk wn cs : List Int) (kk cu rd st wg lo : Int), okZ X1 X2 le la td wk wn cs wg ∧ r = some (vI rr.1) ∧ u = mSt Y X1 X2 le la td wk wn cs kk cu rd st wg lo rr.2) (fun X1 X2 le la td wk wn cs kk cu rd st wg lo hz => ⟨X1, X2, le, la, td, wk, wn, cs, kk, cu, rd, st, wg, lo, hz, rfl, rfl⟩)
  refine lw_callv (ci := 4) (As := [vI (zg xs i 1), vI (zg xs i 2)]) (a := Y 0) (rest := [mv (vI rr.1)]) (φ := [29, 30, 31, 32, 33, 34, 35, 36, 37, 38, 39, 40, 41, 42, 43, 44, 45]) F (ct_X6_adds l) rfl rfl rfl (glV wd_992 wd_993 wd_994 wd_65 wd_995) rfl rfl (by decide +kernel) ⟨Nat.le_of_ble_eq_true rfl, Nat.le_of_ble_eq_true rfl⟩ dL_law_408 hP hD hS hl.1 rfl (Nat.le_of_ble_eq_true rfl) rfl lw_in.2 (by rw [lw_sy]; exact ⟨rfl, rfl⟩) (tr_sub lw_sy q2) (fun r u H1 locs1 hpost hP hD hS => ?_)
  obtain ⟨X1', X2', le', la', td', wk', wn', cs', kk', cu', rd', st', wg', lo', hz', rfl, rfl⟩ := hpost
  rw [lw_jy] at hP hD
  show lwW p l e s m below meth c b H1 locs1 (F0 m 411 ls [.int (zI rr.1), .int (zI rr.1)])
  refine lv_icmp_eq hx hb dL_law_411 (tgt := 1182) (by decide) (fun _ => ?_) (fun z => absurd rfl z)
  exact k _ _ _ _ _ _ _ _ _ _ _ _ _ _ _ _ _ _ _ hM' hf' hz' hP hD hS hl

set_option maxRecDepth 20000 in set_option maxHeartbeats 1000000 in
theorem lw_case_8 {p : Program} {l : Launch} {e : Env} {s : State} {m : MethodId} {below : List Frame} {meth : Method} {c : Code} {b L : Nat} {xs : Nat → Int32} {D : va_G} {cA : ClassId} {X Y : Nat → Nat} {i : Nat} {S : St} (F : lwF p s m meth c b L xs D cA) (hi : i + 6 ≤ L) (hL : L ≤ 3072) (hI : invZ S) (k : lwG p l e s m below meth c b D cA X Y i 1182 (r_swaps (zg xs i 1) (zg xs i 2) S).2) : lwG p l e s m below meth c b D cA X Y i 416 S := by
  intro M fw X1 X2 le la td wk wn cs kk cu rd st wg lo H locs ls hM hf hz hP hD hS hl
  have hx := F.1
  have hb := F.2.1
  obtain ⟨rr, hrr⟩ : ∃ z, r_swaps (zg xs i 1) (zg xs i 2) S = z := ⟨_, rfl⟩
  rw [hrr] at k
  refine lv_aload_n hx hb dL_law_416 rfl (lv_at hl 1 rfl) ?_
  refine lw_arg (k := 1) F hS hl (by omega) hL (by omega) dL_law_417 dL_law_418 dL_law_419 dL_law_420 dL_law_421 ?_
  refine lw_arg (k := 2) F hS hl (by omega) hL (by omega) dL_law_422 dL_law_423 dL_law_424 dL_law_425 dL_law_426 ?_
  have q1 := p_X5_swaps (X := X) hI.1 hM hf (zg_in xs i 1) (zg_in xs i 2) hrr (Post := fun r u => ∃ (M' : Gal) (fw' : List Int), lenG M' ∧ fw'.length = 20 ∧ r = some (vI rr.1) ∧ u = xSt X M' fw' rr.2) (fun M' fw' a b => ⟨M', fw', a, b, rfl, rfl⟩)
  refine lw_callv (ci := 3) (As := [vI (zg xs i 1), vI (zg xs i 2)]) (a := X 0) (rest := []) (φ := [0, 1, 2, 3, 4, 5, 6, 7, 8, 9, 10, 11, 12, 13, 14, 15, 16, 17, 18, 19, 20, 21, 22, 23, 24, 25, 26, 27, 28]) F (ct_X5_swaps l) rfl rfl rfl (glV wd_381 wd_382 wd_383 wd_60 wd_384) rfl rfl (by decide +kernel) ⟨Nat.le_of_ble_eq_true rfl, Nat.le_of_ble_eq_true rfl⟩ dL_law_427 hP hD hS hl.1 rfl (Nat.le_of_ble_eq_true rfl) rfl lw_in.1 (by rw [lw_sx]; exact ⟨rfl, rfl⟩) (tr_sub lw_sx q1) (fun r u H1 locs1 hpost hP hD hS => ?_)
  obtain ⟨M', fw', hM', hf', rfl, rfl⟩ := hpost
  rw [lw_jx] at hP hD
  refine lv_aload_n hx hb dL_law_430 rfl (lv_at hl 2 rfl) ?_
  refine lw_arg (k := 1) F hS hl (by omega) hL (by omega) dL_law_431 dL_law_432 dL_law_433 dL_law_434 dL_law_435 ?_
  refine lw_arg (k := 2) F hS hl (by omega) hL (by omega) dL_law_436 dL_law_437 dL_law_438 dL_law_439 dL_law_440 ?_
  have q2 := p_X6_swaps (Y := Y) (X1 := X1) (X2 := X2) (le := le) (la := la) (td := td) (wk := wk) (wn := wn) (cs := cs) (kk := kk) (cu := cu) (rd := rd) (st := st) (wg := wg) (lo := lo) hI.1 hz (zg_in xs i 1) (zg_in xs i 2) hrr (Post := fun r u => ∃ (X1 X2 le la td wk wn cs : List Int) (kk cu rd st wg lo : Int), okZ X1 X2 le la td wk wn cs wg ∧ r = some (vI rr.1) ∧ u = mSt Y X1 X2 le la td wk wn cs kk cu rd st wg lo rr.2) (fun X1 X2 le la td wk wn cs kk cu rd st wg lo hz => ⟨X1, X2, le, la, td, wk, wn, cs, kk, cu, rd, st, wg, lo, hz, rfl, rfl⟩)
  refine lw_callv (ci := 4) (As := [vI (zg xs i 1), vI (zg xs i 2)]) (a := Y 0) (rest := [mv (vI rr.1)]) (φ := [29, 30, 31, 32, 33, 34, 35, 36, 37, 38, 39, 40, 41, 42, 43, 44, 45]) F (ct_X6_swaps l) rfl rfl rfl (glV wd_996 wd_997 wd_998 wd_65 wd_999) rfl rfl (by decide +kernel) ⟨Nat.le_of_ble_eq_true rfl, Nat.le_of_ble_eq_true rfl⟩ dL_law_441 hP hD hS hl.1 rfl (Nat.le_of_ble_eq_true rfl) rfl lw_in.2 (by rw [lw_sy]; exact ⟨rfl, rfl⟩) (tr_sub lw_sy q2) (fun r u H1 locs1 hpost hP hD hS => ?_)
  obtain ⟨X1', X2', le', la', td', wk', wn', cs', kk', cu', rd', st', wg', lo', hz', rfl, rfl⟩ := hpost
  rw [lw_jy] at hP hD
  show lwW p l e s m below meth c b H1 locs1 (F0 m 444 ls [.int (zI rr.1), .int (zI rr.1)])
  refine lv_icmp_eq hx hb dL_law_444 (tgt := 1182) (by decide) (fun _ => ?_) (fun z => absurd rfl z)
  exact k _ _ _ _ _ _ _ _ _ _ _ _ _ _ _ _ _ _ _ hM' hf' hz' hP hD hS hl

set_option maxRecDepth 20000 in set_option maxHeartbeats 1000000 in
theorem lw_case_9 {p : Program} {l : Launch} {e : Env} {s : State} {m : MethodId} {below : List Frame} {meth : Method} {c : Code} {b L : Nat} {xs : Nat → Int32} {D : va_G} {cA : ClassId} {X Y : Nat → Nat} {i : Nat} {S : St} (F : lwF p s m meth c b L xs D cA) (hi : i + 6 ≤ L) (hL : L ≤ 3072) (hI : invZ S) (k : lwG p l e s m below meth c b D cA X Y i 1182 (r_turn (zg xs i 1) (zg xs i 2) (zg xs i 3) S).2) : lwG p l e s m below meth c b D cA X Y i 449 S := by
  intro M fw X1 X2 le la td wk wn cs kk cu rd st wg lo H locs ls hM hf hz hP hD hS hl
  have hx := F.1
  have hb := F.2.1
  obtain ⟨rr, hrr⟩ : ∃ z, r_turn (zg xs i 1) (zg xs i 2) (zg xs i 3) S = z := ⟨_, rfl⟩
  rw [hrr] at k
  refine lv_aload_n hx hb dL_law_449 rfl (lv_at hl 1 rfl) ?_
  refine lw_arg (k := 1) F hS hl (by omega) hL (by omega) dL_law_450 dL_law_451 dL_law_452 dL_law_453 dL_law_454 ?_
  refine lw_arg (k := 2) F hS hl (by omega) hL (by omega) dL_law_455 dL_law_456 dL_law_457 dL_law_458 dL_law_459 ?_
  refine lw_arg (k := 3) F hS hl (by omega) hL (by omega) dL_law_460 dL_law_461 dL_law_462 dL_law_463 dL_law_464 ?_
  have q1 := p_X5_turn (X := X) hI.1 hM hf (zg_in xs i 1) (zg_in xs i 2) (zg_in xs i 3) hrr (Post := fun r u => ∃ (M' : Gal) (fw' : List Int), lenG M' ∧ fw'.length = 20 ∧ r = some (vI rr.1) ∧ u = xSt X M' fw' rr.2) (fun M' fw' a b => ⟨M', fw', a, b, rfl, rfl⟩)
  refine lw_callv (ci := 3) (As := [vI (zg xs i 1), vI (zg xs i 2), vI (zg xs i 3)]) (a := X 0) (rest := []) (φ := [0, 1, 2, 3, 4, 5, 6, 7, 8, 9, 10, 11, 12, 13, 14, 15, 16, 17, 18, 19, 20, 21, 22, 23, 24, 25, 26, 27, 28]) F (ct_X5_turn l) rfl rfl rfl (glV wd_386 wd_387 wd_388 wd_60 wd_389) rfl rfl (by decide +kernel) ⟨Nat.le_of_ble_eq_true rfl, Nat.le_of_ble_eq_true rfl⟩ dL_law_465 hP hD hS hl.1 rfl (Nat.le_of_ble_eq_true rfl) rfl lw_in.1 (by rw [lw_sx]; exact ⟨rfl, rfl⟩) (tr_sub lw_sx q1) (fun r u H1 locs1 hpost hP hD hS => ?_)
  obtain ⟨M', fw', hM', hf', rfl, rfl⟩ := hpost
  rw [lw_jx] at hP hD
  refine lv_aload_n hx hb dL_law_468 rfl (lv_at hl 2 rfl) ?_
  refine lw_arg (k := 1) F hS hl (by omega) hL (by omega) dL_law_469 dL_law_470 dL_law_471 dL_law_472 dL_law_473 ?_
  refine lw_arg (k := 2) F hS hl (by omega) hL (by omega) dL_law_474 dL_law_475 dL_law_476 dL_law_477 dL_law_478 ?_
  refine lw_arg (k := 3) F hS hl (by omega) hL (by omega) dL_law_479 dL_law_480 dL_law_481 dL_law_482 dL_law_483 ?_
  have q2 := p_X6_turn (Y := Y) (X1 := X1) (X2 := X2) (le := le) (la := la) (td := td) (wk := wk) (wn := wn) (cs := cs) (kk := kk) (cu := cu) (rd := rd) (st := st) (wg := wg) (lo := lo) hI.1 hz (zg_in xs i 1) (zg_in xs i 2) (zg_in xs i 3) hrr (Post := fun r u => ∃ (X1 X2 le la td wk wn cs : List Int) (kk cu rd st wg lo : Int), okZ X1 X2 le la td wk wn cs wg ∧ r = some (vI rr.1) ∧ u = mSt Y X1 X2 le la td wk wn cs kk cu rd st wg lo rr.2) (fun X1 X2 le la td wk wn cs kk cu rd st wg lo hz => ⟨X1, X2, le, la, td, wk, wn, cs, kk, cu, rd, st, wg, lo, hz, rfl, rfl⟩)
  refine lw_callv (ci := 4) (As := [vI (zg xs i 1), vI (zg xs i 2), vI (zg xs i 3)]) (a := Y 0) (rest := [mv (vI rr.1)]) (φ := [29, 30, 31, 32, 33, 34, 35, 36, 37, 38, 39, 40, 41, 42, 43, 44, 45]) F (ct_X6_turn l) rfl rfl rfl (glV wd_1000 wd_1001 wd_1002 wd_65 wd_1003) rfl rfl (by decide +kernel) ⟨Nat.le_of_ble_eq_true rfl, Nat.le_of_ble_eq_true rfl⟩ dL_law_484 hP hD hS hl.1 rfl (Nat.le_of_ble_eq_true rfl) rfl lw_in.2 (by rw [lw_sy]; exact ⟨rfl, rfl⟩) (tr_sub lw_sy q2) (fun r u H1 locs1 hpost hP hD hS => ?_)
  obtain ⟨X1', X2', le', la', td', wk', wn', cs', kk', cu', rd', st', wg', lo', hz', rfl, rfl⟩ := hpost
  rw [lw_jy] at hP hD
  show lwW p l e s m below meth c b H1 locs1 (F0 m 487 ls [.int (zI rr.1), .int (zI rr.1)])
  refine lv_icmp_eq hx hb dL_law_487 (tgt := 1182) (by decide) (fun _ => ?_) (fun z => absurd rfl z)
  exact k _ _ _ _ _ _ _ _ _ _ _ _ _ _ _ _ _ _ _ hM' hf' hz' hP hD hS hl

set_option maxRecDepth 20000 in set_option maxHeartbeats 1000000 in
theorem lw_case_10 {p : Program} {l : Launch} {e : Env} {s : State} {m : MethodId} {below : List Frame} {meth : Method} {c : Code} {b L : Nat} {xs : Nat → Int32} {D : va_G} {cA : ClassId} {X Y : Nat → Nat} {i : Nat} {S : St} (F : lwF p s m meth c b L xs D cA) (hi : i + 6 ≤ L) (hL : L ≤ 3072) (hI : invZ S) (k : lwG p l e s m below meth c b D cA X Y i 1182 (r_minutes (zg xs i 1) S).2) : lwG p l e s m below meth c b D cA X Y i 492 S := by
  intro M fw X1 X2 le la td wk wn cs kk cu rd st wg lo H locs ls hM hf hz hP hD hS hl
  have hx := F.1
  have hb := F.2.1
  obtain ⟨rr, hrr⟩ : ∃ z, r_minutes (zg xs i 1) S = z := ⟨_, rfl⟩
  rw [hrr] at k
  refine lv_aload_n hx hb dL_law_492 rfl (lv_at hl 1 rfl) ?_
  refine lw_arg (k := 1) F hS hl (by omega) hL (by omega) dL_law_493 dL_law_494 dL_law_495 dL_law_496 dL_law_497 ?_
  have q1 := p_X5_minutes (X := X) hI.1 hM hf (zg_in xs i 1) hrr (Post := fun r u => ∃ (M' : Gal) (fw' : List Int), lenG M' ∧ fw'.length = 20 ∧ r = some (vI rr.1) ∧ u = xSt X M' fw' rr.2) (fun M' fw' a b => ⟨M', fw', a, b, rfl, rfl⟩)
  refine lw_callv (ci := 3) (As := [vI (zg xs i 1)]) (a := X 0) (rest := []) (φ := [0, 1, 2, 3, 4, 5, 6, 7, 8, 9, 10, 11, 12, 13, 14, 15, 16, 17, 18, 19, 20, 21, 22, 23, 24, 25, 26, 27, 28]) F (ct_X5_minutes l) rfl rfl rfl (glV wd_392 wd_393 wd_394 wd_60 wd_395) rfl rfl (by decide +kernel) ⟨Nat.le_of_ble_eq_true rfl, Nat.le_of_ble_eq_true rfl⟩ dL_law_498 hP hD hS hl.1 rfl (Nat.le_of_ble_eq_true rfl) rfl lw_in.1 (by rw [lw_sx]; exact ⟨rfl, rfl⟩) (tr_sub lw_sx q1) (fun r u H1 locs1 hpost hP hD hS => ?_)
  obtain ⟨M', fw', hM', hf', rfl, rfl⟩ := hpost
  rw [lw_jx] at hP hD
  refine lv_aload_n hx hb dL_law_501 rfl (lv_at hl 2 rfl) ?_
  refine lw_arg (k := 1) F hS hl (by omega) hL (by omega) dL_law_502 dL_law_503 dL_law_504 dL_law_505 dL_law_506 ?_
  have q2 := p_X6_minutes (Y := Y) (X1 := X1) (X2 := X2) (le := le) (la := la) (td := td) (wk := wk) (wn := wn) (cs := cs) (kk := kk) (cu := cu) (rd := rd) (st := st) (wg := wg) (lo := lo) hI.1 hz (zg_in xs i 1) hrr (Post := fun r u => ∃ (X1 X2 le la td wk wn cs : List Int) (kk cu rd st wg lo : Int), okZ X1 X2 le la td wk wn cs wg ∧ r = some (vI rr.1) ∧ u = mSt Y X1 X2 le la td wk wn cs kk cu rd st wg lo rr.2) (fun X1 X2 le la td wk wn cs kk cu rd st wg lo hz => ⟨X1, X2, le, la, td, wk, wn, cs, kk, cu, rd, st, wg, lo, hz, rfl, rfl⟩)
  refine lw_callv (ci := 4) (As := [vI (zg xs i 1)]) (a := Y 0) (rest := [mv (vI rr.1)]) (φ := [29, 30, 31, 32, 33, 34, 35, 36, 37, 38, 39, 40, 41, 42, 43, 44, 45]) F (ct_X6_minutes l) rfl rfl rfl (glV wd_1004 wd_1005 wd_1006 wd_65 wd_1007) rfl rfl (by decide +kernel) ⟨Nat.le_of_ble_eq_true rfl, Nat.le_of_ble_eq_true rfl⟩ dL_law_507 hP hD hS hl.1 rfl (Nat.le_of_ble_eq_true rfl) rfl lw_in.2 (by rw [lw_sy]; exact ⟨rfl, rfl⟩) (tr_sub lw_sy q2) (fun r u H1 locs1 hpost hP hD hS => ?_)
  obtain ⟨X1', X2', le', la', td', wk', wn', cs', kk', cu', rd', st', wg', lo', hz', rfl, rfl⟩ := hpost
  rw [lw_jy] at hP hD
  show lwW p l e s m below meth c b H1 locs1 (F0 m 510 ls [.int (zI rr.1), .int (zI rr.1)])
  refine lv_icmp_eq hx hb dL_law_510 (tgt := 1182) (by decide) (fun _ => ?_) (fun z => absurd rfl z)
  exact k _ _ _ _ _ _ _ _ _ _ _ _ _ _ _ _ _ _ _ hM' hf' hz' hP hD hS hl

set_option maxRecDepth 20000 in set_option maxHeartbeats 1000000 in
theorem lw_case_11 {p : Program} {l : Launch} {e : Env} {s : State} {m : MethodId} {below : List Frame} {meth : Method} {c : Code} {b L : Nat} {xs : Nat → Int32} {D : va_G} {cA : ClassId} {X Y : Nat → Nat} {i : Nat} {S : St} (F : lwF p s m meth c b L xs D cA) (hi : i + 6 ≤ L) (hL : L ≤ 3072) (hI : invZ S) (k : lwG p l e s m below meth c b D cA X Y i 1182 (r_pairThen (zg xs i 1) (zg xs i 2) (zg xs i 3) S).2) : lwG p l e s m below meth c b D cA X Y i 515 S := by
  intro M fw X1 X2 le la td wk wn cs kk cu rd st wg lo H locs ls hM hf hz hP hD hS hl
  have hx := F.1
  have hb := F.2.1
  obtain ⟨rr, hrr⟩ : ∃ z, r_pairThen (zg xs i 1) (zg xs i 2) (zg xs i 3) S = z := ⟨_, rfl⟩
  rw [hrr] at k
  refine lv_aload_n hx hb dL_law_515 rfl (lv_at hl 1 rfl) ?_
  refine lw_arg (k := 1) F hS hl (by omega) hL (by omega) dL_law_516 dL_law_517 dL_law_518 dL_law_519 dL_law_520 ?_
  refine lw_arg (k := 2) F hS hl (by omega) hL (by omega) dL_law_521 dL_law_522 dL_law_523 dL_law_524 dL_law_525 ?_
  refine lw_arg (k := 3) F hS hl (by omega) hL (by omega) dL_law_526 dL_law_527 dL_law_528 dL_law_529 dL_law_530 ?_
  have q1 := p_X5_pairThen (X := X) hI.1 hM hf (zg_in xs i 1) (zg_in xs i 2) (zg_in xs i 3) hrr (Post := fun r u => ∃ (M' : Gal) (fw' : List Int), lenG M' ∧ fw'.length = 20 ∧ r = some (vI rr.1) ∧ u = xSt X M' fw' rr.2) (fun M' fw' a b => ⟨M', fw', a, b, rfl, rfl⟩)
  refine lw_callv (ci := 3) (As := [vI (zg xs i 1), vI (zg xs i 2), vI (zg xs i 3)]) (a := X 0) (rest := []) (φ := [0, 1, 2, 3, 4, 5, 6, 7, 8, 9, 10, 11, 12, 13, 14, 15, 16, 17, 18, 19, 20, 21, 22, 23, 24, 25, 26, 27, 28]) F (ct_X5_pairThen l) rfl rfl rfl (glV wd_407 wd_408 wd_409 wd_60 wd_410) rfl rfl (by decide +kernel) ⟨Nat.le_of_ble_eq_true rfl, Nat.le_of_ble_eq_true rfl⟩ dL_law_531 hP hD hS hl.1 rfl (Nat.le_of_ble_eq_true rfl) rfl lw_in.1 (by rw [lw_sx]; exact ⟨rfl, rfl⟩) (tr_sub lw_sx q1) (fun r u H1 locs1 hpost hP hD hS => ?_)
  obtain ⟨M', fw', hM', hf', rfl, rfl⟩ := hpost
  rw [lw_jx] at hP hD
  refine lv_aload_n hx hb dL_law_534 rfl (lv_at hl 2 rfl) ?_
  refine lw_arg (k := 1) F hS hl (by omega) hL (by omega) dL_law_535 dL_law_536 dL_law_537 dL_law_538 dL_law_539 ?_
  refine lw_arg (k := 2) F hS hl (by omega) hL (by omega) dL_law_540 dL_law_541 dL_law_542 dL_law_543 dL_law_544 ?_
  refine lw_arg (k := 3) F hS hl (by omega) hL (by omega) dL_law_545 dL_law_546 dL_law_547 dL_law_548 dL_law_549 ?_
  have q2 := p_X6_pairThen (Y := Y) (X1 := X1) (X2 := X2) (le := le) (la := la) (td := td) (wk := wk) (wn := wn) (cs := cs) (kk := kk) (cu := cu) (rd := rd) (st := st) (wg := wg) (lo := lo) hI.1 hz (zg_in xs i 1) (zg_in xs i 2) (zg_in xs i 3) hrr (Post := fun r u => ∃ (X1 X2 le la td wk wn cs : List Int) (kk cu rd st wg lo : Int), okZ X1 X2 le la td wk wn cs wg ∧ r = some (vI rr.1) ∧ u = mSt Y X1 X2 le la td wk wn cs kk cu rd st wg lo rr.2) (fun X1 X2 le la td wk wn cs kk cu rd st wg lo hz => ⟨X1, X2, le, la, td, wk, wn, cs, kk, cu, rd, st, wg, lo, hz, rfl, rfl⟩)
  refine lw_callv (ci := 4) (As := [vI (zg xs i 1), vI (zg xs i 2), vI (zg xs i 3)]) (a := Y 0) (rest := [mv (vI rr.1)]) (φ := [29, 30, 31, 32, 33, 34, 35, 36, 37, 38, 39, 40, 41, 42, 43, 44, 45]) F (ct_X6_pairThen l) rfl rfl rfl (glV wd_1012 wd_1013 wd_1014 wd_65 wd_1015) rfl rfl (by decide +kernel) ⟨Nat.le_of_ble_eq_true rfl, Nat.le_of_ble_eq_true rfl⟩ dL_law_550 hP hD hS hl.1 rfl (Nat.le_of_ble_eq_true rfl) rfl lw_in.2 (by rw [lw_sy]; exact ⟨rfl, rfl⟩) (tr_sub lw_sy q2) (fun r u H1 locs1 hpost hP hD hS => ?_)
  obtain ⟨X1', X2', le', la', td', wk', wn', cs', kk', cu', rd', st', wg', lo', hz', rfl, rfl⟩ := hpost
  rw [lw_jy] at hP hD
  show lwW p l e s m below meth c b H1 locs1 (F0 m 553 ls [.int (zI rr.1), .int (zI rr.1)])
  refine lv_icmp_eq hx hb dL_law_553 (tgt := 1182) (by decide) (fun _ => ?_) (fun z => absurd rfl z)
  exact k _ _ _ _ _ _ _ _ _ _ _ _ _ _ _ _ _ _ _ hM' hf' hz' hP hD hS hl

set_option maxRecDepth 20000 in set_option maxHeartbeats 1000000 in
theorem lw_case_12 {p : Program} {l : Launch} {e : Env} {s : State} {m : MethodId} {below : List Frame} {meth : Method} {c : Code} {b L : Nat} {xs : Nat → Int32} {D : va_G} {cA : ClassId} {X Y : Nat → Nat} {i : Nat} {S : St} (F : lwF p s m meth c b L xs D cA) (hi : i + 6 ≤ L) (hL : L ≤ 3072) (hI : invZ S) (k : lwG p l e s m below meth c b D cA X Y i 1182 (r_bruisesThen (zg xs i 1) (zg xs i 2) S).2) : lwG p l e s m below meth c b D cA X Y i 558 S := by
  intro M fw X1 X2 le la td wk wn cs kk cu rd st wg lo H locs ls hM hf hz hP hD hS hl
  have hx := F.1
  have hb := F.2.1
  obtain ⟨rr, hrr⟩ : ∃ z, r_bruisesThen (zg xs i 1) (zg xs i 2) S = z := ⟨_, rfl⟩
  rw [hrr] at k
  refine lv_aload_n hx hb dL_law_558 rfl (lv_at hl 1 rfl) ?_
  refine lw_arg (k := 1) F hS hl (by omega) hL (by omega) dL_law_559 dL_law_560 dL_law_561 dL_law_562 dL_law_563 ?_
  refine lw_arg (k := 2) F hS hl (by omega) hL (by omega) dL_law_564 dL_law_565 dL_law_566 dL_law_567 dL_law_568 ?_
  have q1 := p_X5_bruisesThen (X := X) hI.1 hM hf (zg_in xs i 1) (zg_in xs i 2) hrr (Post := fun r u => ∃ (M' : Gal) (fw' : List Int), lenG M' ∧ fw'.length = 20 ∧ r = some (vI rr.1) ∧ u = xSt X M' fw' rr.2) (fun M' fw' a b => ⟨M', fw', a, b, rfl, rfl⟩)
  refine lw_callv (ci := 3) (As := [vI (zg xs i 1), vI (zg xs i 2)]) (a := X 0) (rest := []) (φ := [0, 1, 2, 3, 4, 5, 6, 7, 8, 9, 10, 11, 12, 13, 14, 15, 16, 17, 18, 19, 20, 21, 22, 23, 24, 25, 26, 27, 28]) F (ct_X5_bruisesThen l) rfl rfl rfl (glV wd_436 wd_437 wd_438 wd_60 wd_439) rfl rfl (by decide +kernel) ⟨Nat.le_of_ble_eq_true rfl, Nat.le_of_ble_eq_true rfl⟩ dL_law_569 hP hD hS hl.1 rfl (Nat.le_of_ble_eq_true rfl) rfl lw_in.1 (by rw [lw_sx]; exact ⟨rfl, rfl⟩) (tr_sub lw_sx q1) (fun r u H1 locs1 hpost hP hD hS => ?_)
  obtain ⟨M', fw', hM', hf', rfl, rfl⟩ := hpost
  rw [lw_jx] at hP hD
  refine lv_aload_n hx hb dL_law_572 rfl (lv_at hl 2 rfl) ?_
  refine lw_arg (k := 1) F hS hl (by omega) hL (by omega) dL_law_573 dL_law_574 dL_law_575 dL_law_576 dL_law_577 ?_
  refine lw_arg (k := 2) F hS hl (by omega) hL (by omega) dL_law_578 dL_law_579 dL_law_580 dL_law_581 dL_law_582 ?_
  have q2 := p_X6_bruisesThen (Y := Y) (X1 := X1) (X2 := X2) (le := le) (la := la) (td := td) (wk := wk) (wn := wn) (cs := cs) (kk := kk) (cu := cu) (rd := rd) (st := st) (wg := wg) (lo := lo) hI.1 hz (zg_in xs i 1) (zg_in xs i 2) hrr (Post := fun r u => ∃ (X1 X2 le la td wk wn cs : List Int) (kk cu rd st wg lo : Int), okZ X1 X2 le la td wk wn cs wg ∧ r = some (vI rr.1) ∧ u = mSt Y X1 X2 le la td wk wn cs kk cu rd st wg lo rr.2) (fun X1 X2 le la td wk wn cs kk cu rd st wg lo hz => ⟨X1, X2, le, la, td, wk, wn, cs, kk, cu, rd, st, wg, lo, hz, rfl, rfl⟩)
  refine lw_callv (ci := 4) (As := [vI (zg xs i 1), vI (zg xs i 2)]) (a := Y 0) (rest := [mv (vI rr.1)]) (φ := [29, 30, 31, 32, 33, 34, 35, 36, 37, 38, 39, 40, 41, 42, 43, 44, 45]) F (ct_X6_bruisesThen l) rfl rfl rfl (glV wd_1024 wd_1025 wd_1026 wd_65 wd_1027) rfl rfl (by decide +kernel) ⟨Nat.le_of_ble_eq_true rfl, Nat.le_of_ble_eq_true rfl⟩ dL_law_583 hP hD hS hl.1 rfl (Nat.le_of_ble_eq_true rfl) rfl lw_in.2 (by rw [lw_sy]; exact ⟨rfl, rfl⟩) (tr_sub lw_sy q2) (fun r u H1 locs1 hpost hP hD hS => ?_)
  obtain ⟨X1', X2', le', la', td', wk', wn', cs', kk', cu', rd', st', wg', lo', hz', rfl, rfl⟩ := hpost
  rw [lw_jy] at hP hD
  show lwW p l e s m below meth c b H1 locs1 (F0 m 586 ls [.int (zI rr.1), .int (zI rr.1)])
  refine lv_icmp_eq hx hb dL_law_586 (tgt := 1182) (by decide) (fun _ => ?_) (fun z => absurd rfl z)
  exact k _ _ _ _ _ _ _ _ _ _ _ _ _ _ _ _ _ _ _ hM' hf' hz' hP hD hS hl

set_option maxRecDepth 20000 in set_option maxHeartbeats 1000000 in
theorem lw_case_13 {p : Program} {l : Launch} {e : Env} {s : State} {m : MethodId} {below : List Frame} {meth : Method} {c : Code} {b L : Nat} {xs : Nat → Int32} {D : va_G} {cA : ClassId} {X Y : Nat → Nat} {i : Nat} {S : St} (F : lwF p s m meth c b L xs D cA) (hi : i + 6 ≤ L) (hL : L ≤ 3072) (hI : invZ S) (k : lwG p l e s m below meth c b D cA X Y i 1182 (r_faced (zg xs i 1) S).2) : lwG p l e s m below meth c b D cA X Y i 591 S := by
  intro M fw X1 X2 le la td wk wn cs kk cu rd st wg lo H locs ls hM hf hz hP hD hS hl
  have hx := F.1
  have hb := F.2.1
  obtain ⟨rr, hrr⟩ : ∃ z, r_faced (zg xs i 1) S = z := ⟨_, rfl⟩
  rw [hrr] at k
  refine lv_aload_n hx hb dL_law_591 rfl (lv_at hl 1 rfl) ?_
  refine lw_arg (k := 1) F hS hl (by omega) hL (by omega) dL_law_592 dL_law_593 dL_law_594 dL_law_595 dL_law_596 ?_
  have q1 := p_X5_faced (X := X) hI.1 hM hf (zg_in xs i 1) hrr (Post := fun r u => ∃ (M' : Gal) (fw' : List Int), lenG M' ∧ fw'.length = 20 ∧ r = some (vI rr.1) ∧ u = xSt X M' fw' rr.2) (fun M' fw' a b => ⟨M', fw', a, b, rfl, rfl⟩)
  refine lw_callv (ci := 3) (As := [vI (zg xs i 1)]) (a := X 0) (rest := []) (φ := [0, 1, 2, 3, 4, 5, 6, 7, 8, 9, 10, 11, 12, 13, 14, 15, 16, 17, 18, 19, 20, 21, 22, 23, 24, 25, 26, 27, 28]) F (ct_X5_faced l) rfl rfl rfl (glV wd_454 wd_455 wd_456 wd_60 wd_457) rfl rfl (by decide +kernel) ⟨Nat.le_of_ble_eq_true rfl, Nat.le_of_ble_eq_true rfl⟩ dL_law_597 hP hD hS hl.1 rfl (Nat.le_of_ble_eq_true rfl) rfl lw_in.1 (by rw [lw_sx]; exact ⟨rfl, rfl⟩) (tr_sub lw_sx q1) (fun r u H1 locs1 hpost hP hD hS => ?_)
  obtain ⟨M', fw', hM', hf', rfl, rfl⟩ := hpost
  rw [lw_jx] at hP hD
  refine lv_aload_n hx hb dL_law_600 rfl (lv_at hl 2 rfl) ?_
  refine lw_arg (k := 1) F hS hl (by omega) hL (by omega) dL_law_601 dL_law_602 dL_law_603 dL_law_604 dL_law_605 ?_
  have q2 := p_X6_faced (Y := Y) (X1 := X1) (X2 := X2) (le := le) (la := la) (td := td) (wk := wk) (wn := wn) (cs := cs) (kk := kk) (cu := cu) (rd := rd) (st := st) (wg := wg) (lo := lo) hI.1 hz (zg_in xs i 1) hrr (Post := fun r u => ∃ (X1 X2 le la td wk wn cs : List Int) (kk cu rd st wg lo : Int), okZ X1 X2 le la td wk wn cs wg ∧ r = some (vI rr.1) ∧ u = mSt Y X1 X2 le la td wk wn cs kk cu rd st wg lo rr.2) (fun X1 X2 le la td wk wn cs kk cu rd st wg lo hz => ⟨X1, X2, le, la, td, wk, wn, cs, kk, cu, rd, st, wg, lo, hz, rfl, rfl⟩)
  refine lw_callv (ci := 4) (As := [vI (zg xs i 1)]) (a := Y 0) (rest := [mv (vI rr.1)]) (φ := [29, 30, 31, 32, 33, 34, 35, 36, 37, 38, 39, 40, 41, 42, 43, 44, 45]) F (ct_X6_faced l) rfl rfl rfl (glV wd_1036 wd_1037 wd_1038 wd_65 wd_1039) rfl rfl (by decide +kernel) ⟨Nat.le_of_ble_eq_true rfl, Nat.le_of_ble_eq_true rfl⟩ dL_law_606 hP hD hS hl.1 rfl (Nat.le_of_ble_eq_true rfl) rfl lw_in.2 (by rw [lw_sy]; exact ⟨rfl, rfl⟩) (tr_sub lw_sy q2) (fun r u H1 locs1 hpost hP hD hS => ?_)
  obtain ⟨X1', X2', le', la', td', wk', wn', cs', kk', cu', rd', st', wg', lo', hz', rfl, rfl⟩ := hpost
  rw [lw_jy] at hP hD
  show lwW p l e s m below meth c b H1 locs1 (F0 m 609 ls [.int (zI rr.1), .int (zI rr.1)])
  refine lv_icmp_eq hx hb dL_law_609 (tgt := 1182) (by decide) (fun _ => ?_) (fun z => absurd rfl z)
  exact k _ _ _ _ _ _ _ _ _ _ _ _ _ _ _ _ _ _ _ hM' hf' hz' hP hD hS hl

set_option maxRecDepth 20000 in set_option maxHeartbeats 1000000 in
theorem lw_case_14 {p : Program} {l : Launch} {e : Env} {s : State} {m : MethodId} {below : List Frame} {meth : Method} {c : Code} {b L : Nat} {xs : Nat → Int32} {D : va_G} {cA : ClassId} {X Y : Nat → Nat} {i : Nat} {S : St} (F : lwF p s m meth c b L xs D cA) (hi : i + 6 ≤ L) (hL : L ≤ 3072) (hI : invZ S) (k : lwG p l e s m below meth c b D cA X Y i 1182 (r_done (zg xs i 1) S).2) : lwG p l e s m below meth c b D cA X Y i 614 S := by
  intro M fw X1 X2 le la td wk wn cs kk cu rd st wg lo H locs ls hM hf hz hP hD hS hl
  have hx := F.1
  have hb := F.2.1
  obtain ⟨rr, hrr⟩ : ∃ z, r_done (zg xs i 1) S = z := ⟨_, rfl⟩
  rw [hrr] at k
  refine lv_aload_n hx hb dL_law_614 rfl (lv_at hl 1 rfl) ?_
  refine lw_arg (k := 1) F hS hl (by omega) hL (by omega) dL_law_615 dL_law_616 dL_law_617 dL_law_618 dL_law_619 ?_
  have q1 := p_X5_done (X := X) hI.1 hM hf (zg_in xs i 1) hrr (Post := fun r u => ∃ (M' : Gal) (fw' : List Int), lenG M' ∧ fw'.length = 20 ∧ r = some (vI rr.1) ∧ u = xSt X M' fw' rr.2) (fun M' fw' a b => ⟨M', fw', a, b, rfl, rfl⟩)
  refine lw_callv (ci := 3) (As := [vI (zg xs i 1)]) (a := X 0) (rest := []) (φ := [0, 1, 2, 3, 4, 5, 6, 7, 8, 9, 10, 11, 12, 13, 14, 15, 16, 17, 18, 19, 20, 21, 22, 23, 24, 25, 26, 27, 28]) F (ct_X5_done l) rfl rfl rfl (glV wd_487 wd_488 wd_489 wd_60 wd_490) rfl rfl (by decide +kernel) ⟨Nat.le_of_ble_eq_true rfl, Nat.le_of_ble_eq_true rfl⟩ dL_law_620 hP hD hS hl.1 rfl (Nat.le_of_ble_eq_true rfl) rfl lw_in.1 (by rw [lw_sx]; exact ⟨rfl, rfl⟩) (tr_sub lw_sx q1) (fun r u H1 locs1 hpost hP hD hS => ?_)
  obtain ⟨M', fw', hM', hf', rfl, rfl⟩ := hpost
  rw [lw_jx] at hP hD
  refine lv_aload_n hx hb dL_law_623 rfl (lv_at hl 2 rfl) ?_
  refine lw_arg (k := 1) F hS hl (by omega) hL (by omega) dL_law_624 dL_law_625 dL_law_626 dL_law_627 dL_law_628 ?_
  have q2 := p_X6_done (Y := Y) (X1 := X1) (X2 := X2) (le := le) (la := la) (td := td) (wk := wk) (wn := wn) (cs := cs) (kk := kk) (cu := cu) (rd := rd) (st := st) (wg := wg) (lo := lo) hI.1 hz (zg_in xs i 1) hrr (Post := fun r u => ∃ (X1 X2 le la td wk wn cs : List Int) (kk cu rd st wg lo : Int), okZ X1 X2 le la td wk wn cs wg ∧ r = some (vI rr.1) ∧ u = mSt Y X1 X2 le la td wk wn cs kk cu rd st wg lo rr.2) (fun X1 X2 le la td wk wn cs kk cu rd st wg lo hz => ⟨X1, X2, le, la, td, wk, wn, cs, kk, cu, rd, st, wg, lo, hz, rfl, rfl⟩)
  refine lw_callv (ci := 4) (As := [vI (zg xs i 1)]) (a := Y 0) (rest := [mv (vI rr.1)]) (φ := [29, 30, 31, 32, 33, 34, 35, 36, 37, 38, 39, 40, 41, 42, 43, 44, 45]) F (ct_X6_done l) rfl rfl rfl (glV wd_1052 wd_1053 wd_1054 wd_65 wd_1055) rfl rfl (by decide +kernel) ⟨Nat.le_of_ble_eq_true rfl, Nat.le_of_ble_eq_true rfl⟩ dL_law_629 hP hD hS hl.1 rfl (Nat.le_of_ble_eq_true rfl) rfl lw_in.2 (by rw [lw_sy]; exact ⟨rfl, rfl⟩) (tr_sub lw_sy q2) (fun r u H1 locs1 hpost hP hD hS => ?_)
  obtain ⟨X1', X2', le', la', td', wk', wn', cs', kk', cu', rd', st', wg', lo', hz', rfl, rfl⟩ := hpost
  rw [lw_jy] at hP hD
  show lwW p l e s m below meth c b H1 locs1 (F0 m 632 ls [.int (zI rr.1), .int (zI rr.1)])
  refine lv_icmp_eq hx hb dL_law_632 (tgt := 1182) (by decide) (fun _ => ?_) (fun z => absurd rfl z)
  exact k _ _ _ _ _ _ _ _ _ _ _ _ _ _ _ _ _ _ _ hM' hf' hz' hP hD hS hl

set_option maxRecDepth 20000 in set_option maxHeartbeats 1000000 in
theorem lw_case_15 {p : Program} {l : Launch} {e : Env} {s : State} {m : MethodId} {below : List Frame} {meth : Method} {c : Code} {b L : Nat} {xs : Nat → Int32} {D : va_G} {cA : ClassId} {X Y : Nat → Nat} {i : Nat} {S : St} (F : lwF p s m meth c b L xs D cA) (hi : i + 6 ≤ L) (hL : L ≤ 3072) (hI : invZ S) (k : lwG p l e s m below meth c b D cA X Y i 1182 (r_hurt (zg xs i 1) (zg xs i 2) S).2) : lwG p l e s m below meth c b D cA X Y i 637 S := by
  intro M fw X1 X2 le la td wk wn cs kk cu rd st wg lo H locs ls hM hf hz hP hD hS hl
  have hx := F.1
  have hb := F.2.1
  obtain ⟨rr, hrr⟩ : ∃ z, r_hurt (zg xs i 1) (zg xs i 2) S = z := ⟨_, rfl⟩
  rw [hrr] at k
  refine lv_aload_n hx hb dL_law_637 rfl (lv_at hl 1 rfl) ?_
  refine lw_arg (k := 1) F hS hl (by omega) hL (by omega) dL_law_638 dL_law_639 dL_law_640 dL_law_641 dL_law_642 ?_
  refine lw_arg (k := 2) F hS hl (by omega) hL (by omega) dL_law_643 dL_law_644 dL_law_645 dL_law_646 dL_law_647 ?_
  have q1 := p_X5_hurt (X := X) hI.1 hM hf (zg_in xs i 1) (zg_in xs i 2) hrr (Post := fun r u => ∃ (M' : Gal) (fw' : List Int), lenG M' ∧ fw'.length = 20 ∧ r = some (vI rr.1) ∧ u = xSt X M' fw' rr.2) (fun M' fw' a b => ⟨M', fw', a, b, rfl, rfl⟩)
  refine lw_callv (ci := 3) (As := [vI (zg xs i 1), vI (zg xs i 2)]) (a := X 0) (rest := []) (φ := [0, 1, 2, 3, 4, 5, 6, 7, 8, 9, 10, 11, 12, 13, 14, 15, 16, 17, 18, 19, 20, 21, 22, 23, 24, 25, 26, 27, 28]) F (ct_X5_hurt l) rfl rfl rfl (glV wd_495 wd_496 wd_497 wd_60 wd_498) rfl rfl (by decide +kernel) ⟨Nat.le_of_ble_eq_true rfl, Nat.le_of_ble_eq_true rfl⟩ dL_law_648 hP hD hS hl.1 rfl (Nat.le_of_ble_eq_true rfl) rfl lw_in.1 (by rw [lw_sx]; exact ⟨rfl, rfl⟩) (tr_sub lw_sx q1) (fun r u H1 locs1 hpost hP hD hS => ?_)
  obtain ⟨M', fw', hM', hf', rfl, rfl⟩ := hpost
  rw [lw_jx] at hP hD
  refine lv_aload_n hx hb dL_law_651 rfl (lv_at hl 2 rfl) ?_
  refine lw_arg (k := 1) F hS hl (by omega) hL (by omega) dL_law_652 dL_law_653 dL_law_654 dL_law_655 dL_law_656 ?_
  refine lw_arg (k := 2) F hS hl (by omega) hL (by omega) dL_law_657 dL_law_658 dL_law_659 dL_law_660 dL_law_661 ?_
  have q2 := p_X6_hurt (Y := Y) (X1 := X1) (X2 := X2) (le := le) (la := la) (td := td) (wk := wk) (wn := wn) (cs := cs) (kk := kk) (cu := cu) (rd := rd) (st := st) (wg := wg) (lo := lo) hI.1 hz (zg_in xs i 1) (zg_in xs i 2) hrr (Post := fun r u => ∃ (X1 X2 le la td wk wn cs : List Int) (kk cu rd st wg lo : Int), okZ X1 X2 le la td wk wn cs wg ∧ r = some (vI rr.1) ∧ u = mSt Y X1 X2 le la td wk wn cs kk cu rd st wg lo rr.2) (fun X1 X2 le la td wk wn cs kk cu rd st wg lo hz => ⟨X1, X2, le, la, td, wk, wn, cs, kk, cu, rd, st, wg, lo, hz, rfl, rfl⟩)
  refine lw_callv (ci := 4) (As := [vI (zg xs i 1), vI (zg xs i 2)]) (a := Y 0) (rest := [mv (vI rr.1)]) (φ := [29, 30, 31, 32, 33, 34, 35, 36, 37, 38, 39, 40, 41, 42, 43, 44, 45]) F (ct_X6_hurt l) rfl rfl rfl (glV wd_1056 wd_1057 wd_1058 wd_65 wd_1059) rfl rfl (by decide +kernel) ⟨Nat.le_of_ble_eq_true rfl, Nat.le_of_ble_eq_true rfl⟩ dL_law_662 hP hD hS hl.1 rfl (Nat.le_of_ble_eq_true rfl) rfl lw_in.2 (by rw [lw_sy]; exact ⟨rfl, rfl⟩) (tr_sub lw_sy q2) (fun r u H1 locs1 hpost hP hD hS => ?_)
  obtain ⟨X1', X2', le', la', td', wk', wn', cs', kk', cu', rd', st', wg', lo', hz', rfl, rfl⟩ := hpost
  rw [lw_jy] at hP hD
  show lwW p l e s m below meth c b H1 locs1 (F0 m 665 ls [.int (zI rr.1), .int (zI rr.1)])
  refine lv_icmp_eq hx hb dL_law_665 (tgt := 1182) (by decide) (fun _ => ?_) (fun z => absurd rfl z)
  exact k _ _ _ _ _ _ _ _ _ _ _ _ _ _ _ _ _ _ _ hM' hf' hz' hP hD hS hl

set_option maxRecDepth 20000 in set_option maxHeartbeats 1000000 in
theorem lw_case_16 {p : Program} {l : Launch} {e : Env} {s : State} {m : MethodId} {below : List Frame} {meth : Method} {c : Code} {b L : Nat} {xs : Nat → Int32} {D : va_G} {cA : ClassId} {X Y : Nat → Nat} {i : Nat} {S : St} (F : lwF p s m meth c b L xs D cA) (hi : i + 6 ≤ L) (hL : L ≤ 3072) (hI : invZ S) (k : lwG p l e s m below meth c b D cA X Y i 1182 (r_begins (zg xs i 1) S).2) : lwG p l e s m below meth c b D cA X Y i 670 S := by
  intro M fw X1 X2 le la td wk wn cs kk cu rd st wg lo H locs ls hM hf hz hP hD hS hl
  have hx := F.1
  have hb := F.2.1
  obtain ⟨rr, hrr⟩ : ∃ z, r_begins (zg xs i 1) S = z := ⟨_, rfl⟩
  rw [hrr] at k
  refine lv_aload_n hx hb dL_law_670 rfl (lv_at hl 1 rfl) ?_
  refine lw_arg (k := 1) F hS hl (by omega) hL (by omega) dL_law_671 dL_law_672 dL_law_673 dL_law_674 dL_law_675 ?_
  have q1 := p_X5_begins (X := X) hI.1 hM hf (zg_in xs i 1) hrr (Post := fun r u => ∃ (M' : Gal) (fw' : List Int), lenG M' ∧ fw'.length = 20 ∧ r = some (vI rr.1) ∧ u = xSt X M' fw' rr.2) (fun M' fw' a b => ⟨M', fw', a, b, rfl, rfl⟩)
  refine lw_callv (ci := 3) (As := [vI (zg xs i 1)]) (a := X 0) (rest := []) (φ := [0, 1, 2, 3, 4, 5, 6, 7, 8, 9, 10, 11, 12, 13, 14, 15, 16, 17, 18, 19, 20, 21, 22, 23, 24, 25, 26, 27, 28]) F (ct_X5_begins l) rfl rfl rfl (glV wd_503 wd_504 wd_505 wd_60 wd_506) rfl rfl (by decide +kernel) ⟨Nat.le_of_ble_eq_true rfl, Nat.le_of_ble_eq_true rfl⟩ dL_law_676 hP hD hS hl.1 rfl (Nat.le_of_ble_eq_true rfl) rfl lw_in.1 (by rw [lw_sx]; exact ⟨rfl, rfl⟩) (tr_sub lw_sx q1) (fun r u H1 locs1 hpost hP hD hS => ?_)
  obtain ⟨M', fw', hM', hf', rfl, rfl⟩ := hpost
  rw [lw_jx] at hP hD
  refine lv_aload_n hx hb dL_law_679 rfl (lv_at hl 2 rfl) ?_
  refine lw_arg (k := 1) F hS hl (by omega) hL (by omega) dL_law_680 dL_law_681 dL_law_682 dL_law_683 dL_law_684 ?_
  have q2 := p_X6_begins (Y := Y) (X1 := X1) (X2 := X2) (le := le) (la := la) (td := td) (wk := wk) (wn := wn) (cs := cs) (kk := kk) (cu := cu) (rd := rd) (st := st) (wg := wg) (lo := lo) hI.1 hz (zg_in xs i 1) hrr (Post := fun r u => ∃ (X1 X2 le la td wk wn cs : List Int) (kk cu rd st wg lo : Int), okZ X1 X2 le la td wk wn cs wg ∧ r = some (vI rr.1) ∧ u = mSt Y X1 X2 le la td wk wn cs kk cu rd st wg lo rr.2) (fun X1 X2 le la td wk wn cs kk cu rd st wg lo hz => ⟨X1, X2, le, la, td, wk, wn, cs, kk, cu, rd, st, wg, lo, hz, rfl, rfl⟩)
  refine lw_callv (ci := 4) (As := [vI (zg xs i 1)]) (a := Y 0) (rest := [mv (vI rr.1)]) (φ := [29, 30, 31, 32, 33, 34, 35, 36, 37, 38, 39, 40, 41, 42, 43, 44, 45]) F (ct_X6_begins l) rfl rfl rfl (glV wd_1060 wd_1061 wd_1062 wd_65 wd_1063) rfl rfl (by decide +kernel) ⟨Nat.le_of_ble_eq_true rfl, Nat.le_of_ble_eq_true rfl⟩ dL_law_685 hP hD hS hl.1 rfl (Nat.le_of_ble_eq_true rfl) rfl lw_in.2 (by rw [lw_sy]; exact ⟨rfl, rfl⟩) (tr_sub lw_sy q2) (fun r u H1 locs1 hpost hP hD hS => ?_)
  obtain ⟨X1', X2', le', la', td', wk', wn', cs', kk', cu', rd', st', wg', lo', hz', rfl, rfl⟩ := hpost
  rw [lw_jy] at hP hD
  show lwW p l e s m below meth c b H1 locs1 (F0 m 688 ls [.int (zI rr.1), .int (zI rr.1)])
  refine lv_icmp_eq hx hb dL_law_688 (tgt := 1182) (by decide) (fun _ => ?_) (fun z => absurd rfl z)
  exact k _ _ _ _ _ _ _ _ _ _ _ _ _ _ _ _ _ _ _ hM' hf' hz' hP hD hS hl

set_option maxRecDepth 20000 in set_option maxHeartbeats 1000000 in
theorem lw_case_17 {p : Program} {l : Launch} {e : Env} {s : State} {m : MethodId} {below : List Frame} {meth : Method} {c : Code} {b L : Nat} {xs : Nat → Int32} {D : va_G} {cA : ClassId} {X Y : Nat → Nat} {i : Nat} {S : St} (F : lwF p s m meth c b L xs D cA) (hi : i + 6 ≤ L) (hL : L ≤ 3072) (hI : invZ S) (k : lwG p l e s m below meth c b D cA X Y i 1182 (r_clears (zg xs i 1) S).2) : lwG p l e s m below meth c b D cA X Y i 693 S := by
  intro M fw X1 X2 le la td wk wn cs kk cu rd st wg lo H locs ls hM hf hz hP hD hS hl
  have hx := F.1
  have hb := F.2.1
  obtain ⟨rr, hrr⟩ : ∃ z, r_clears (zg xs i 1) S = z := ⟨_, rfl⟩
  rw [hrr] at k
  refine lv_aload_n hx hb dL_law_693 rfl (lv_at hl 1 rfl) ?_
  refine lw_arg (k := 1) F hS hl (by omega) hL (by omega) dL_law_694 dL_law_695 dL_law_696 dL_law_697 dL_law_698 ?_
  have q1 := p_X5_clears (X := X) hI.1 hM hf (zg_in xs i 1) hrr (Post := fun r u => ∃ (M' : Gal) (fw' : List Int), lenG M' ∧ fw'.length = 20 ∧ r = some (vI rr.1) ∧ u = xSt X M' fw' rr.2) (fun M' fw' a b => ⟨M', fw', a, b, rfl, rfl⟩)
  refine lw_callv (ci := 3) (As := [vI (zg xs i 1)]) (a := X 0) (rest := []) (φ := [0, 1, 2, 3, 4, 5, 6, 7, 8, 9, 10, 11, 12, 13, 14, 15, 16, 17, 18, 19, 20, 21, 22, 23, 24, 25, 26, 27, 28]) F (ct_X5_clears l) rfl rfl rfl (glV wd_512 wd_513 wd_514 wd_60 wd_515) rfl rfl (by decide +kernel) ⟨Nat.le_of_ble_eq_true rfl, Nat.le_of_ble_eq_true rfl⟩ dL_law_699 hP hD hS hl.1 rfl (Nat.le_of_ble_eq_true rfl) rfl lw_in.1 (by rw [lw_sx]; exact ⟨rfl, rfl⟩) (tr_sub lw_sx q1) (fun r u H1 locs1 hpost hP hD hS => ?_)
  obtain ⟨M', fw', hM', hf', rfl, rfl⟩ := hpost
  rw [lw_jx] at hP hD
  refine lv_aload_n hx hb dL_law_702 rfl (lv_at hl 2 rfl) ?_
  refine lw_arg (k := 1) F hS hl (by omega) hL (by omega) dL_law_703 dL_law_704 dL_law_705 dL_law_706 dL_law_707 ?_
  have q2 := p_X6_clears (Y := Y) (X1 := X1) (X2 := X2) (le := le) (la := la) (td := td) (wk := wk) (wn := wn) (cs := cs) (kk := kk) (cu := cu) (rd := rd) (st := st) (wg := wg) (lo := lo) hI.1 hz (zg_in xs i 1) hrr (Post := fun r u => ∃ (X1 X2 le la td wk wn cs : List Int) (kk cu rd st wg lo : Int), okZ X1 X2 le la td wk wn cs wg ∧ r = some (vI rr.1) ∧ u = mSt Y X1 X2 le la td wk wn cs kk cu rd st wg lo rr.2) (fun X1 X2 le la td wk wn cs kk cu rd st wg lo hz => ⟨X1, X2, le, la, td, wk, wn, cs, kk, cu, rd, st, wg, lo, hz, rfl, rfl⟩)
  refine lw_callv (ci := 4) (As := [vI (zg xs i 1)]) (a := Y 0) (rest := [mv (vI rr.1)]) (φ := [29, 30, 31, 32, 33, 34, 35, 36, 37, 38, 39, 40, 41, 42, 43, 44, 45]) F (ct_X6_clears l) rfl rfl rfl (glV wd_1068 wd_1069 wd_1070 wd_65 wd_1071) rfl rfl (by decide +kernel) ⟨Nat.le_of_ble_eq_true rfl, Nat.le_of_ble_eq_true rfl⟩ dL_law_708 hP hD hS hl.1 rfl (Nat.le_of_ble_eq_true rfl) rfl lw_in.2 (by rw [lw_sy]; exact ⟨rfl, rfl⟩) (tr_sub lw_sy q2) (fun r u H1 locs1 hpost hP hD hS => ?_)
  obtain ⟨X1', X2', le', la', td', wk', wn', cs', kk', cu', rd', st', wg', lo', hz', rfl, rfl⟩ := hpost
  rw [lw_jy] at hP hD
  show lwW p l e s m below meth c b H1 locs1 (F0 m 711 ls [.int (zI rr.1), .int (zI rr.1)])
  refine lv_icmp_eq hx hb dL_law_711 (tgt := 1182) (by decide) (fun _ => ?_) (fun z => absurd rfl z)
  exact k _ _ _ _ _ _ _ _ _ _ _ _ _ _ _ _ _ _ _ hM' hf' hz' hP hD hS hl
