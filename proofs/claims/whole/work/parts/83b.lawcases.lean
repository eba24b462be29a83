/-! ===== the law's cases, further ===== -/
set_option maxRecDepth 20000 in set_option maxHeartbeats 1000000 in
theorem lw_case_18 {p : Program} {l : Launch} {e : Env} {s : State} {m : MethodId} {below : List Frame} {meth : Method} {c : Code} {b L : Nat} {xs : Nat → Int32} {D : va_G} {cA : ClassId} {X Y : Nat → Nat} {i : Nat} {S : St} (F : lwF p s m meth c b L xs D cA) (hi : i + 6 ≤ L) (hL : L ≤ 3072) (hI : invZ S) (k : lwG p l e s m below meth c b D cA X Y i 1182 (r_change S).2) : lwG p l e s m below meth c b D cA X Y i 716 S := by
  intro M fw X1 X2 le la td wk wn cs kk cu rd st wg lo H locs ls hM hf hz hP hD hS hl
  have hx := F.1
  have hb := F.2.1
  obtain ⟨rr, hrr⟩ : ∃ z, r_change S = z := ⟨_, rfl⟩
  rw [hrr] at k
  refine lv_aload_n hx hb dL_law_716 rfl (lv_at hl 1 rfl) ?_
  have q1 := p_X5_change (X := X) hI.1 hM hf  hrr (Post := fun r u => ∃ (M' : Gal) (fw' : List Int), lenG M' ∧ fw'.length = 20 ∧ r = some (vI rr.1) ∧ u = xSt X M' fw' rr.2) (fun M' fw' a b => ⟨M', fw', a, b, rfl, rfl⟩)
  refine lw_callv (ci := 3) (As := []) (a := X 0) (rest := []) (φ := [0, 1, 2, 3, 4, 5, 6, 7, 8, 9, 10, 11, 12, 13, 14, 15, 16, 17, 18, 19, 20, 21, 22, 23, 24, 25, 26, 27, 28]) F (ct_X5_change l) rfl rfl rfl (glV wd_521 wd_522 wd_523 wd_60 wd_524) rfl rfl (by decide +kernel) ⟨Nat.le_of_ble_eq_true rfl, Nat.le_of_ble_eq_true rfl⟩ dL_law_717 hP hD hS hl.1 rfl (Nat.le_of_ble_eq_true rfl) rfl lw_in.1 (by rw [lw_sx]; exact ⟨rfl, rfl⟩) (tr_sub lw_sx q1) (fun r u H1 locs1 hpost hP hD hS => ?_)
  obtain ⟨M', fw', hM', hf', rfl, rfl⟩ := hpost
  rw [lw_jx] at hP hD
  refine lv_aload_n hx hb dL_law_720 rfl (lv_at hl 2 rfl) ?_
  have q2 := p_X6_change (Y := Y) (X1 := X1) (X2 := X2) (le := le) (la := la) (td := td) (wk := wk) (wn := wn) (cs := cs) (kk := kk) (cu := cu) (rd := rd) (st := st) (wg := wg) (lo := lo) hI.1 hz  hrr (Post := fun r u => ∃ (X1 X2 le la td wk wn cs : List Int) (kk cu rd st wg lo : Int), okZ X1 X2 le la td wk wn cs wg ∧ r = some (vI rr.1) ∧ u = mSt Y X1 X2 le la td wk wn cs kk cu rd st wg lo rr.2) (fun X1 X2 le la td wk wn cs kk cu rd st wg lo hz => ⟨X1, X2, le, la, td, wk, wn, cs, kk, cu, rd, st, wg, lo, hz, rfl, rfl⟩)
  refine lw_callv (ci := 4) (As := []) (a := Y 0) (rest := [mv (vI rr.1)]) (φ := [29, 30, 31, 32, 33, 34, 35, 36, 37, 38, 39, 40, 41, 42, 43, 44, 45]) F (ct_X6_change l) rfl rfl rfl (glV wd_1072 wd_1073 wd_1074 wd_65 wd_1075) rfl rfl (by decide +kernel) ⟨Nat.le_of_ble_eq_true rfl, Nat.le_of_ble_eq_true rfl⟩ dL_law_721 hP hD hS hl.1 rfl (Nat.le_of_ble_eq_true rfl) rfl lw_in.2 (by rw [lw_sy]; exact ⟨rfl, rfl⟩) (tr_sub lw_sy q2) (fun r u H1 locs1 hpost hP hD hS => ?_)
  obtain ⟨X1', X2', le', la', td', wk', wn', cs', kk', cu', rd', st', wg', lo', hz', rfl, rfl⟩ := hpost
  rw [lw_jy] at hP hD
  show lwW p l e s m below meth c b H1 locs1 (F0 m 724 ls [.int (zI rr.1), .int (zI rr.1)])
  refine lv_icmp_eq hx hb dL_law_724 (tgt := 1182) (by decide) (fun _ => ?_) (fun z => absurd rfl z)
  exact k _ _ _ _ _ _ _ _ _ _ _ _ _ _ _ _ _ _ _ hM' hf' hz' hP hD hS hl

set_option maxRecDepth 20000 in set_option maxHeartbeats 1000000 in
theorem lw_case_19 {p : Program} {l : Launch} {e : Env} {s : State} {m : MethodId} {below : List Frame} {meth : Method} {c : Code} {b L : Nat} {xs : Nat → Int32} {D : va_G} {cA : ClassId} {X Y : Nat → Nat} {i : Nat} {S : St} (F : lwF p s m meth c b L xs D cA) (hi : i + 6 ≤ L) (hL : L ≤ 3072) (hI : invZ S) (k : lwG p l e s m below meth c b D cA X Y i 1182 (r_bestKind (zg xs i 1) (zg xs i 2) S).2) : lwG p l e s m below meth c b D cA X Y i 729 S := by
  intro M fw X1 X2 le la td wk wn cs kk cu rd st wg lo H locs ls hM hf hz hP hD hS hl
  have hx := F.1
  have hb := F.2.1
  obtain ⟨rr, hrr⟩ : ∃ z, r_bestKind (zg xs i 1) (zg xs i 2) S = z := ⟨_, rfl⟩
  rw [hrr] at k
  refine lv_aload_n hx hb dL_law_729 rfl (lv_at hl 1 rfl) ?_
  refine lw_arg (k := 1) F hS hl (by omega) hL (by omega) dL_law_730 dL_law_731 dL_law_732 dL_law_733 dL_law_734 ?_
  refine lw_arg (k := 2) F hS hl (by omega) hL (by omega) dL_law_735 dL_law_736 dL_law_737 dL_law_738 dL_law_739 ?_
  have q1 := p_X5_bestKind (X := X) hI.1 hM hf (zg_in xs i 1) (zg_in xs i 2) hrr (Post := fun r u => ∃ (M' : Gal) (fw' : List Int), lenG M' ∧ fw'.length = 20 ∧ r = some (vI rr.1) ∧ u = xSt X M' fw' rr.2) (fun M' fw' a b => ⟨M', fw', a, b, rfl, rfl⟩)
  refine lw_callv (ci := 3) (As := [vI (zg xs i 1), vI (zg xs i 2)]) (a := X 0) (rest := []) (φ := [0, 1, 2, 3, 4, 5, 6, 7, 8, 9, 10, 11, 12, 13, 14, 15, 16, 17, 18, 19, 20, 21, 22, 23, 24, 25, 26, 27, 28]) F (ct_X5_bestKind l) rfl rfl rfl (glV wd_532 wd_533 wd_534 wd_60 wd_535) rfl rfl (by decide +kernel) ⟨Nat.le_of_ble_eq_true rfl, Nat.le_of_ble_eq_true rfl⟩ dL_law_740 hP hD hS hl.1 rfl (Nat.le_of_ble_eq_true rfl) rfl lw_in.1 (by rw [lw_sx]; exact ⟨rfl, rfl⟩) (tr_sub lw_sx q1) (fun r u H1 locs1 hpost hP hD hS => ?_)
  obtain ⟨M', fw', hM', hf', rfl, rfl⟩ := hpost
  rw [lw_jx] at hP hD
  refine lv_aload_n hx hb dL_law_743 rfl (lv_at hl 2 rfl) ?_
  refine lw_arg (k := 1) F hS hl (by omega) hL (by omega) dL_law_744 dL_law_745 dL_law_746 dL_law_747 dL_law_748 ?_
  refine lw_arg (k := 2) F hS hl (by omega) hL (by omega) dL_law_749 dL_law_750 dL_law_751 dL_law_752 dL_law_753 ?_
  have q2 := p_X6_bestKind (Y := Y) (X1 := X1) (X2 := X2) (le := le) (la := la) (td := td) (wk := wk) (wn := wn) (cs := cs) (kk := kk) (cu := cu) (rd := rd) (st := st) (wg := wg) (lo := lo) hI.1 hz (zg_in xs i 1) (zg_in xs i 2) hrr (Post := fun r u => ∃ (X1 X2 le la td wk wn cs : List Int) (kk cu rd st wg lo : Int), okZ X1 X2 le la td wk wn cs wg ∧ r = some (vI rr.1) ∧ u = mSt Y X1 X2 le la td wk wn cs kk cu rd st wg lo rr.2) (fun X1 X2 le la td wk wn cs kk cu rd st wg lo hz => ⟨X1, X2, le, la, td, wk, wn, cs, kk, cu, rd, st, wg, lo, hz, rfl, rfl⟩)
  refine lw_callv (ci := 4) (As := [vI (zg xs i 1), vI (zg xs i 2)]) (a := Y 0) (rest := [mv (vI rr.1)]) (φ := [29, 30, 31, 32, 33, 34, 35, 36, 37, 38, 39, 40, 41, 42, 43, 44, 45]) F (ct_X6_bestKind l) rfl rfl rfl (glV wd_1076 wd_1077 wd_1078 wd_65 wd_1079) rfl rfl (by decide +kernel) ⟨Nat.le_of_ble_eq_true rfl, Nat.le_of_ble_eq_true rfl⟩ dL_law_754 hP hD hS hl.1 rfl (Nat.le_of_ble_eq_true rfl) rfl lw_in.2 (by rw [lw_sy]; exact ⟨rfl, rfl⟩) (tr_sub lw_sy q2) (fun r u H1 locs1 hpost hP hD hS => ?_)
  obtain ⟨X1', X2', le', la', td', wk', wn', cs', kk', cu', rd', st', wg', lo', hz', rfl, rfl⟩ := hpost
  rw [lw_jy] at hP hD
  show lwW p l e s m below meth c b H1 locs1 (F0 m 757 ls [.int (zI rr.1), .int (zI rr.1)])
  refine lv_icmp_eq hx hb dL_law_757 (tgt := 1182) (by decide) (fun _ => ?_) (fun z => absurd rfl z)
  exact k _ _ _ _ _ _ _ _ _ _ _ _ _ _ _ _ _ _ _ hM' hf' hz' hP hD hS hl

set_option maxRecDepth 20000 in set_option maxHeartbeats 1000000 in
theorem lw_case_20 {p : Program} {l : Launch} {e : Env} {s : State} {m : MethodId} {below : List Frame} {meth : Method} {c : Code} {b L : Nat} {xs : Nat → Int32} {D : va_G} {cA : ClassId} {X Y : Nat → Nat} {i : Nat} {S : St} (F : lwF p s m meth c b L xs D cA) (hi : i + 6 ≤ L) (hL : L ≤ 3072) (hI : invZ S) (k : lwG p l e s m below meth c b D cA X Y i 1182 (r_bestCell (zg xs i 1) (zg xs i 2) S).2) : lwG p l e s m below meth c b D cA X Y i 762 S := by
  intro M fw X1 X2 le la td wk wn cs kk cu rd st wg lo H locs ls hM hf hz hP hD hS hl
  have hx := F.1
  have hb := F.2.1
  obtain ⟨rr, hrr⟩ : ∃ z, r_bestCell (zg xs i 1) (zg xs i 2) S = z := ⟨_, rfl⟩
  rw [hrr] at k
  refine lv_aload_n hx hb dL_law_762 rfl (lv_at hl 1 rfl) ?_
  refine lw_arg (k := 1) F hS hl (by omega) hL (by omega) dL_law_763 dL_law_764 dL_law_765 dL_law_766 dL_law_767 ?_
  refine lw_arg (k := 2) F hS hl (by omega) hL (by omega) dL_law_768 dL_law_769 dL_law_770 dL_law_771 dL_law_772 ?_
  have q1 := p_X5_bestCell (X := X) hI.1 hM hf (zg_in xs i 1) (zg_in xs i 2) hrr (Post := fun r u => ∃ (M' : Gal) (fw' : List Int), lenG M' ∧ fw'.length = 20 ∧ r = some (vI rr.1) ∧ u = xSt X M' fw' rr.2) (fun M' fw' a b => ⟨M', fw', a, b, rfl, rfl⟩)
  refine lw_callv (ci := 3) (As := [vI (zg xs i 1), vI (zg xs i 2)]) (a := X 0) (rest := []) (φ := [0, 1, 2, 3, 4, 5, 6, 7, 8, 9, 10, 11, 12, 13, 14, 15, 16, 17, 18, 19, 20, 21, 22, 23, 24, 25, 26, 27, 28]) F (ct_X5_bestCell l) rfl rfl rfl (glV wd_541 wd_542 wd_543 wd_60 wd_544) rfl rfl (by decide +kernel) ⟨Nat.le_of_ble_eq_true rfl, Nat.le_of_ble_eq_true rfl⟩ dL_law_773 hP hD hS hl.1 rfl (Nat.le_of_ble_eq_true rfl) rfl lw_in.1 (by rw [lw_sx]; exact ⟨rfl, rfl⟩) (tr_sub lw_sx q1) (fun r u H1 locs1 hpost hP hD hS => ?_)
  obtain ⟨M', fw', hM', hf', rfl, rfl⟩ := hpost
  rw [lw_jx] at hP hD
  refine lv_aload_n hx hb dL_law_776 rfl (lv_at hl 2 rfl) ?_
  refine lw_arg (k := 1) F hS hl (by omega) hL (by omega) dL_law_777 dL_law_778 dL_law_779 dL_law_780 dL_law_781 ?_
  refine lw_arg (k := 2) F hS hl (by omega) hL (by omega) dL_law_782 dL_law_783 dL_law_784 dL_law_785 dL_law_786 ?_
  have q2 := p_X6_bestCell (Y := Y) (X1 := X1) (X2 := X2) (le := le) (la := la) (td := td) (wk := wk) (wn := wn) (cs := cs) (kk := kk) (cu := cu) (rd := rd) (st := st) (wg := wg) (lo := lo) hI.1 hz (zg_in xs i 1) (zg_in xs i 2) hrr (Post := fun r u => ∃ (X1 X2 le la td wk wn cs : List Int) (kk cu rd st wg lo : Int), okZ X1 X2 le la td wk wn cs wg ∧ r = some (vI rr.1) ∧ u = mSt Y X1 X2 le la td wk wn cs kk cu rd st wg lo rr.2) (fun X1 X2 le la td wk wn cs kk cu rd st wg lo hz => ⟨X1, X2, le, la, td, wk, wn, cs, kk, cu, rd, st, wg, lo, hz, rfl, rfl⟩)
  refine lw_callv (ci := 4) (As := [vI (zg xs i 1), vI (zg xs i 2)]) (a := Y 0) (rest := [mv (vI rr.1)]) (φ := [29, 30, 31, 32, 33, 34, 35, 36, 37, 38, 39, 40, 41, 42, 43, 44, 45]) F (ct_X6_bestCell l) rfl rfl rfl (glV wd_1080 wd_1081 wd_1082 wd_65 wd_1083) rfl rfl (by decide +kernel) ⟨Nat.le_of_ble_eq_true rfl, Nat.le_of_ble_eq_true rfl⟩ dL_law_787 hP hD hS hl.1 rfl (Nat.le_of_ble_eq_true rfl) rfl lw_in.2 (by rw [lw_sy]; exact ⟨rfl, rfl⟩) (tr_sub lw_sy q2) (fun r u H1 locs1 hpost hP hD hS => ?_)
  obtain ⟨X1', X2', le', la', td', wk', wn', cs', kk', cu', rd', st', wg', lo', hz', rfl, rfl⟩ := hpost
  rw [lw_jy] at hP hD
  show lwW p l e s m below meth c b H1 locs1 (F0 m 790 ls [.int (zI rr.1), .int (zI rr.1)])
  refine lv_icmp_eq hx hb dL_law_790 (tgt := 1182) (by decide) (fun _ => ?_) (fun z => absurd rfl z)
  exact k _ _ _ _ _ _ _ _ _ _ _ _ _ _ _ _ _ _ _ hM' hf' hz' hP hD hS hl

set_option maxRecDepth 20000 in set_option maxHeartbeats 1000000 in
theorem lw_case_21 {p : Program} {l : Launch} {e : Env} {s : State} {m : MethodId} {below : List Frame} {meth : Method} {c : Code} {b L : Nat} {xs : Nat → Int32} {D : va_G} {cA : ClassId} {X Y : Nat → Nat} {i : Nat} {S : St} (F : lwF p s m meth c b L xs D cA) (hi : i + 6 ≤ L) (hL : L ≤ 3072) (hI : invZ S) (k : lwG p l e s m below meth c b D cA X Y i 1182 (r_hum (zg xs i 1) (zg xs i 2) S).2) : lwG p l e s m below meth c b D cA X Y i 795 S := by
  intro M fw X1 X2 le la td wk wn cs kk cu rd st wg lo H locs ls hM hf hz hP hD hS hl
  have hx := F.1
  have hb := F.2.1
  obtain ⟨rr, hrr⟩ : ∃ z, r_hum (zg xs i 1) (zg xs i 2) S = z := ⟨_, rfl⟩
  rw [hrr] at k
  refine lv_aload_n hx hb dL_law_795 rfl (lv_at hl 1 rfl) ?_
  refine lw_arg (k := 1) F hS hl (by omega) hL (by omega) dL_law_796 dL_law_797 dL_law_798 dL_law_799 dL_law_800 ?_
  refine lw_arg (k := 2) F hS hl (by omega) hL (by omega) dL_law_801 dL_law_802 dL_law_803 dL_law_804 dL_law_805 ?_
  have q1 := p_X5_hum (X := X) hI.1 hM hf (zg_in xs i 1) (zg_in xs i 2) hrr (Post := fun r u => ∃ (M' : Gal) (fw' : List Int), lenG M' ∧ fw'.length = 20 ∧ r = some (vI rr.1) ∧ u = xSt X M' fw' rr.2) (fun M' fw' a b => ⟨M', fw', a, b, rfl, rfl⟩)
  refine lw_callv (ci := 3) (As := [vI (zg xs i 1), vI (zg xs i 2)]) (a := X 0) (rest := []) (φ := [0, 1, 2, 3, 4, 5, 6, 7, 8, 9, 10, 11, 12, 13, 14, 15, 16, 17, 18, 19, 20, 21, 22, 23, 24, 25, 26, 27, 28]) F (ct_X5_hum l) rfl rfl rfl (glV wd_557 wd_558 wd_559 wd_60 wd_560) rfl rfl (by decide +kernel) ⟨Nat.le_of_ble_eq_true rfl, Nat.le_of_ble_eq_true rfl⟩ dL_law_806 hP hD hS hl.1 rfl (Nat.le_of_ble_eq_true rfl) rfl lw_in.1 (by rw [lw_sx]; exact ⟨rfl, rfl⟩) (tr_sub lw_sx q1) (fun r u H1 locs1 hpost hP hD hS => ?_)
  obtain ⟨M', fw', hM', hf', rfl, rfl⟩ := hpost
  rw [lw_jx] at hP hD
  refine lv_aload_n hx hb dL_law_809 rfl (lv_at hl 2 rfl) ?_
  refine lw_arg (k := 1) F hS hl (by omega) hL (by omega) dL_law_810 dL_law_811 dL_law_812 dL_law_813 dL_law_814 ?_
  refine lw_arg (k := 2) F hS hl (by omega) hL (by omega) dL_law_815 dL_law_816 dL_law_817 dL_law_818 dL_law_819 ?_
  have q2 := p_X6_hum (Y := Y) (X1 := X1) (X2 := X2) (le := le) (la := la) (td := td) (wk := wk) (wn := wn) (cs := cs) (kk := kk) (cu := cu) (rd := rd) (st := st) (wg := wg) (lo := lo) hI.1 hz (zg_in xs i 1) (zg_in xs i 2) hrr (Post := fun r u => ∃ (X1 X2 le la td wk wn cs : List Int) (kk cu rd st wg lo : Int), okZ X1 X2 le la td wk wn cs wg ∧ r = some (vI rr.1) ∧ u = mSt Y X1 X2 le la td wk wn cs kk cu rd st wg lo rr.2) (fun X1 X2 le la td wk wn cs kk cu rd st wg lo hz => ⟨X1, X2, le, la, td, wk, wn, cs, kk, cu, rd, st, wg, lo, hz, rfl, rfl⟩)
  refine lw_callv (ci := 4) (As := [vI (zg xs i 1), vI (zg xs i 2)]) (a := Y 0) (rest := [mv (vI rr.1)]) (φ := [29, 30, 31, 32, 33, 34, 35, 36, 37, 38, 39, 40, 41, 42, 43, 44, 45]) F (ct_X6_hum l) rfl rfl rfl (glV wd_1088 wd_1089 wd_1090 wd_65 wd_1091) rfl rfl (by decide +kernel) ⟨Nat.le_of_ble_eq_true rfl, Nat.le_of_ble_eq_true rfl⟩ dL_law_820 hP hD hS hl.1 rfl (Nat.le_of_ble_eq_true rfl) rfl lw_in.2 (by rw [lw_sy]; exact ⟨rfl, rfl⟩) (tr_sub lw_sy q2) (fun r u H1 locs1 hpost hP hD hS => ?_)
  obtain ⟨X1', X2', le', la', td', wk', wn', cs', kk', cu', rd', st', wg', lo', hz', rfl, rfl⟩ := hpost
  rw [lw_jy] at hP hD
  show lwW p l e s m below meth c b H1 locs1 (F0 m 823 ls [.int (zI rr.1), .int (zI rr.1)])
  refine lv_icmp_eq hx hb dL_law_823 (tgt := 1182) (by decide) (fun _ => ?_) (fun z => absurd rfl z)
  exact k _ _ _ _ _ _ _ _ _ _ _ _ _ _ _ _ _ _ _ hM' hf' hz' hP hD hS hl

set_option maxRecDepth 20000 in set_option maxHeartbeats 1000000 in
theorem lw_case_22 {p : Program} {l : Launch} {e : Env} {s : State} {m : MethodId} {below : List Frame} {meth : Method} {c : Code} {b L : Nat} {xs : Nat → Int32} {D : va_G} {cA : ClassId} {X Y : Nat → Nat} {i : Nat} {S : St} (F : lwF p s m meth c b L xs D cA) (hi : i + 6 ≤ L) (hL : L ≤ 3072) (hI : invZ S) (k : lwG p l e s m below meth c b D cA X Y i 1182 (r_first (zg xs i 1) S).2) : lwG p l e s m below meth c b D cA X Y i 828 S := by
  intro M fw X1 X2 le la td wk wn cs kk cu rd st wg lo H locs ls hM hf hz hP hD hS hl
  have hx := F.1
  have hb := F.2.1
  obtain ⟨rr, hrr⟩ : ∃ z, r_first (zg xs i 1) S = z := ⟨_, rfl⟩
  rw [hrr] at k
  refine lv_aload_n hx hb dL_law_828 rfl (lv_at hl 1 rfl) ?_
  refine lw_arg (k := 1) F hS hl (by omega) hL (by omega) dL_law_829 dL_law_830 dL_law_831 dL_law_832 dL_law_833 ?_
  have q1 := p_X5_first (X := X) hI.1 hM hf (zg_in xs i 1) hrr (Post := fun r u => ∃ (M' : Gal) (fw' : List Int), lenG M' ∧ fw'.length = 20 ∧ r = some (vI rr.1) ∧ u = xSt X M' fw' rr.2) (fun M' fw' a b => ⟨M', fw', a, b, rfl, rfl⟩)
  refine lw_callv (ci := 3) (As := [vI (zg xs i 1)]) (a := X 0) (rest := []) (φ := [0, 1, 2, 3, 4, 5, 6, 7, 8, 9, 10, 11, 12, 13, 14, 15, 16, 17, 18, 19, 20, 21, 22, 23, 24, 25, 26, 27, 28]) F (ct_X5_first l) rfl rfl rfl (glV wd_575 wd_576 wd_577 wd_60 wd_578) rfl rfl (by decide +kernel) ⟨Nat.le_of_ble_eq_true rfl, Nat.le_of_ble_eq_true rfl⟩ dL_law_834 hP hD hS hl.1 rfl (Nat.le_of_ble_eq_true rfl) rfl lw_in.1 (by rw [lw_sx]; exact ⟨rfl, rfl⟩) (tr_sub lw_sx q1) (fun r u H1 locs1 hpost hP hD hS => ?_)
  obtain ⟨M', fw', hM', hf', rfl, rfl⟩ := hpost
  rw [lw_jx] at hP hD
  refine lv_aload_n hx hb dL_law_837 rfl (lv_at hl 2 rfl) ?_
  refine lw_arg (k := 1) F hS hl (by omega) hL (by omega) dL_law_838 dL_law_839 dL_law_840 dL_law_841 dL_law_842 ?_
  have q2 := p_X6_first (Y := Y) (X1 := X1) (X2 := X2) (le := le) (la := la) (td := td) (wk := wk) (wn := wn) (cs := cs) (kk := kk) (cu := cu) (rd := rd) (st := st) (wg := wg) (lo := lo) hI.1 hz (zg_in xs i 1) hrr (Post := fun r u => ∃ (X1 X2 le la td wk wn cs : List Int) (kk cu rd st wg lo : Int), okZ X1 X2 le la td wk wn cs wg ∧ r = some (vI rr.1) ∧ u = mSt Y X1 X2 le la td wk wn cs kk cu rd st wg lo rr.2) (fun X1 X2 le la td wk wn cs kk cu rd st wg lo hz => ⟨X1, X2, le, la, td, wk, wn, cs, kk, cu, rd, st, wg, lo, hz, rfl, rfl⟩)
  refine lw_callv (ci := 4) (As := [vI (zg xs i 1)]) (a := Y 0) (rest := [mv (vI rr.1)]) (φ := [29, 30, 31, 32, 33, 34, 35, 36, 37, 38, 39, 40, 41, 42, 43, 44, 45]) F (ct_X6_first l) rfl rfl rfl (glV wd_1100 wd_1101 wd_1102 wd_65 wd_1103) rfl rfl (by decide +kernel) ⟨Nat.le_of_ble_eq_true rfl, Nat.le_of_ble_eq_true rfl⟩ dL_law_843 hP hD hS hl.1 rfl (Nat.le_of_ble_eq_true rfl) rfl lw_in.2 (by rw [lw_sy]; exact ⟨rfl, rfl⟩) (tr_sub lw_sy q2) (fun r u H1 locs1 hpost hP hD hS => ?_)
  obtain ⟨X1', X2', le', la', td', wk', wn', cs', kk', cu', rd', st', wg', lo', hz', rfl, rfl⟩ := hpost
  rw [lw_jy] at hP hD
  show lwW p l e s m below meth c b H1 locs1 (F0 m 846 ls [.int (zI rr.1), .int (zI rr.1)])
  refine lv_icmp_eq hx hb dL_law_846 (tgt := 1182) (by decide) (fun _ => ?_) (fun z => absurd rfl z)
  exact k _ _ _ _ _ _ _ _ _ _ _ _ _ _ _ _ _ _ _ hM' hf' hz' hP hD hS hl

set_option maxRecDepth 20000 in set_option maxHeartbeats 1000000 in
theorem lw_case_23 {p : Program} {l : Launch} {e : Env} {s : State} {m : MethodId} {below : List Frame} {meth : Method} {c : Code} {b L : Nat} {xs : Nat → Int32} {D : va_G} {cA : ClassId} {X Y : Nat → Nat} {i : Nat} {S : St} (F : lwF p s m meth c b L xs D cA) (hi : i + 6 ≤ L) (hL : L ≤ 3072) (hI : invZ S) (k : lwG p l e s m below meth c b D cA X Y i 1182 (r_timber (zg xs i 1) S).2) : lwG p l e s m below meth c b D cA X Y i 851 S := by
  intro M fw X1 X2 le la td wk wn cs kk cu rd st wg lo H locs ls hM hf hz hP hD hS hl
  have hx := F.1
  have hb := F.2.1
  obtain ⟨rr, hrr⟩ : ∃ z, r_timber (zg xs i 1) S = z := ⟨_, rfl⟩
  rw [hrr] at k
  refine lv_aload_n hx hb dL_law_851 rfl (lv_at hl 1 rfl) ?_
  refine lw_arg (k := 1) F hS hl (by omega) hL (by omega) dL_law_852 dL_law_853 dL_law_854 dL_law_855 dL_law_856 ?_
  have q1 := p_X5_timber (X := X) hI.1 hM hf (zg_in xs i 1) hrr (Post := fun r u => ∃ (M' : Gal) (fw' : List Int), lenG M' ∧ fw'.length = 20 ∧ r = some (vI rr.1) ∧ u = xSt X M' fw' rr.2) (fun M' fw' a b => ⟨M', fw', a, b, rfl, rfl⟩)
  refine lw_callv (ci := 3) (As := [vI (zg xs i 1)]) (a := X 0) (rest := []) (φ := [0, 1, 2, 3, 4, 5, 6, 7, 8, 9, 10, 11, 12, 13, 14, 15, 16, 17, 18, 19, 20, 21, 22, 23, 24, 25, 26, 27, 28]) F (ct_X5_timber l) rfl rfl rfl (glV wd_595 wd_596 wd_597 wd_60 wd_598) rfl rfl (by decide +kernel) ⟨Nat.le_of_ble_eq_true rfl, Nat.le_of_ble_eq_true rfl⟩ dL_law_857 hP hD hS hl.1 rfl (Nat.le_of_ble_eq_true rfl) rfl lw_in.1 (by rw [lw_sx]; exact ⟨rfl, rfl⟩) (tr_sub lw_sx q1) (fun r u H1 locs1 hpost hP hD hS => ?_)
  obtain ⟨M', fw', hM', hf', rfl, rfl⟩ := hpost
  rw [lw_jx] at hP hD
  refine lv_aload_n hx hb dL_law_860 rfl (lv_at hl 2 rfl) ?_
  refine lw_arg (k := 1) F hS hl (by omega) hL (by omega) dL_law_861 dL_law_862 dL_law_863 dL_law_864 dL_law_865 ?_
  have q2 := p_X6_timber (Y := Y) (X1 := X1) (X2 := X2) (le := le) (la := la) (td := td) (wk := wk) (wn := wn) (cs := cs) (kk := kk) (cu := cu) (rd := rd) (st := st) (wg := wg) (lo := lo) hI.1 hz (zg_in xs i 1) hrr (Post := fun r u => ∃ (X1 X2 le la td wk wn cs : List Int) (kk cu rd st wg lo : Int), okZ X1 X2 le la td wk wn cs wg ∧ r = some (vI rr.1) ∧ u = mSt Y X1 X2 le la td wk wn cs kk cu rd st wg lo rr.2) (fun X1 X2 le la td wk wn cs kk cu rd st wg lo hz => ⟨X1, X2, le, la, td, wk, wn, cs, kk, cu, rd, st, wg, lo, hz, rfl, rfl⟩)
  refine lw_callv (ci := 4) (As := [vI (zg xs i 1)]) (a := Y 0) (rest := [mv (vI rr.1)]) (φ := [29, 30, 31, 32, 33, 34, 35, 36, 37, 38, 39, 40, 41, 42, 43, 44, 45]) F (ct_X6_timber l) rfl rfl rfl (glV wd_1120 wd_1121 wd_1122 wd_65 wd_1123) rfl rfl (by decide +kernel) ⟨Nat.le_of_ble_eq_true rfl, Nat.le_of_ble_eq_true rfl⟩ dL_law_866 hP hD hS hl.1 rfl (Nat.le_of_ble_eq_true rfl) rfl lw_in.2 (by rw [lw_sy]; exact ⟨rfl, rfl⟩) (tr_sub lw_sy q2) (fun r u H1 locs1 hpost hP hD hS => ?_)
  obtain ⟨X1', X2', le', la', td', wk', wn', cs', kk', cu', rd', st', wg', lo', hz', rfl, rfl⟩ := hpost
  rw [lw_jy] at hP hD
  show lwW p l e s m below meth c b H1 locs1 (F0 m 869 ls [.int (zI rr.1), .int (zI rr.1)])
  refine lv_icmp_eq hx hb dL_law_869 (tgt := 1182) (by decide) (fun _ => ?_) (fun z => absurd rfl z)
  exact k _ _ _ _ _ _ _ _ _ _ _ _ _ _ _ _ _ _ _ hM' hf' hz' hP hD hS hl

set_option maxRecDepth 20000 in set_option maxHeartbeats 1000000 in
theorem lw_case_24 {p : Program} {l : Launch} {e : Env} {s : State} {m : MethodId} {below : List Frame} {meth : Method} {c : Code} {b L : Nat} {xs : Nat → Int32} {D : va_G} {cA : ClassId} {X Y : Nat → Nat} {i : Nat} {S : St} (F : lwF p s m meth c b L xs D cA) (hi : i + 6 ≤ L) (hL : L ≤ 3072) (hI : invZ S) (k : lwG p l e s m below meth c b D cA X Y i 1182 (r_eager S).2) : lwG p l e s m below meth c b D cA X Y i 874 S := by
  intro M fw X1 X2 le la td wk wn cs kk cu rd st wg lo H locs ls hM hf hz hP hD hS hl
  have hx := F.1
  have hb := F.2.1
  obtain ⟨rr, hrr⟩ : ∃ z, r_eager S = z := ⟨_, rfl⟩
  rw [hrr] at k
  refine lv_aload_n hx hb dL_law_874 rfl (lv_at hl 1 rfl) ?_
  have q1 := p_X5_eager (X := X) hI.1 hM hf  hrr (Post := fun r u => ∃ (M' : Gal) (fw' : List Int), lenG M' ∧ fw'.length = 20 ∧ r = some (vI rr.1) ∧ u = xSt X M' fw' rr.2) (fun M' fw' a b => ⟨M', fw', a, b, rfl, rfl⟩)
  refine lw_callv (ci := 3) (As := []) (a := X 0) (rest := []) (φ := [0, 1, 2, 3, 4, 5, 6, 7, 8, 9, 10, 11, 12, 13, 14, 15, 16, 17, 18, 19, 20, 21, 22, 23, 24, 25, 26, 27, 28]) F (ct_X5_eager l) rfl rfl rfl (glV wd_611 wd_612 wd_613 wd_60 wd_614) rfl rfl (by decide +kernel) ⟨Nat.le_of_ble_eq_true rfl, Nat.le_of_ble_eq_true rfl⟩ dL_law_875 hP hD hS hl.1 rfl (Nat.le_of_ble_eq_true rfl) rfl lw_in.1 (by rw [lw_sx]; exact ⟨rfl, rfl⟩) (tr_sub lw_sx q1) (fun r u H1 locs1 hpost hP hD hS => ?_)
  obtain ⟨M', fw', hM', hf', rfl, rfl⟩ := hpost
  rw [lw_jx] at hP hD
  refine lv_aload_n hx hb dL_law_878 rfl (lv_at hl 2 rfl) ?_
  have q2 := p_X6_eagerP (Y := Y) (X1 := X1) (X2 := X2) (le := le) (la := la) (td := td) (wk := wk) (wn := wn) (cs := cs) (kk := kk) (cu := cu) (rd := rd) (st := st) (wg := wg) (lo := lo) hI.1 hz  hrr (Post := fun r u => ∃ (X1 X2 le la td wk wn cs : List Int) (kk cu rd st wg lo : Int), okZ X1 X2 le la td wk wn cs wg ∧ r = some (vI rr.1) ∧ u = mSt Y X1 X2 le la td wk wn cs kk cu rd st wg lo rr.2) (fun X1 X2 le la td wk wn cs kk cu rd st wg lo hz => ⟨X1, X2, le, la, td, wk, wn, cs, kk, cu, rd, st, wg, lo, hz, rfl, rfl⟩)
  refine lw_callv (ci := 4) (As := []) (a := Y 0) (rest := [mv (vI rr.1)]) (φ := [29, 30, 31, 32, 33, 34, 35, 36, 37, 38, 39, 40, 41, 42, 43, 44, 45]) F (ct_X6_eager l) rfl rfl rfl (glV wd_1128 wd_1129 wd_1130 wd_65 wd_1131) rfl rfl (by decide +kernel) ⟨Nat.le_of_ble_eq_true rfl, Nat.le_of_ble_eq_true rfl⟩ dL_law_879 hP hD hS hl.1 rfl (Nat.le_of_ble_eq_true rfl) rfl lw_in.2 (by rw [lw_sy]; exact ⟨rfl, rfl⟩) (tr_sub lw_sy q2) (fun r u H1 locs1 hpost hP hD hS => ?_)
  obtain ⟨X1', X2', le', la', td', wk', wn', cs', kk', cu', rd', st', wg', lo', hz', rfl, rfl⟩ := hpost
  rw [lw_jy] at hP hD
  show lwW p l e s m below meth c b H1 locs1 (F0 m 882 ls [.int (zI rr.1), .int (zI rr.1)])
  refine lv_icmp_eq hx hb dL_law_882 (tgt := 1182) (by decide) (fun _ => ?_) (fun z => absurd rfl z)
  exact k _ _ _ _ _ _ _ _ _ _ _ _ _ _ _ _ _ _ _ hM' hf' hz' hP hD hS hl

set_option maxRecDepth 20000 in set_option maxHeartbeats 1000000 in
theorem lw_case_25 {p : Program} {l : Launch} {e : Env} {s : State} {m : MethodId} {below : List Frame} {meth : Method} {c : Code} {b L : Nat} {xs : Nat → Int32} {D : va_G} {cA : ClassId} {X Y : Nat → Nat} {i : Nat} {S : St} (F : lwF p s m meth c b L xs D cA) (hi : i + 6 ≤ L) (hL : L ≤ 3072) (hI : invZ S) (k : lwG p l e s m below meth c b D cA X Y i 1182 (r_two (zg xs i 1) (zg xs i 2) S).2) : lwG p l e s m below meth c b D cA X Y i 887 S := by
  intro M fw X1 X2 le la td wk wn cs kk cu rd st wg lo H locs ls hM hf hz hP hD hS hl
  have hx := F.1
  have hb := F.2.1
  obtain ⟨rr, hrr⟩ : ∃ z, r_two (zg xs i 1) (zg xs i 2) S = z := ⟨_, rfl⟩
  rw [hrr] at k
  refine lv_aload_n hx hb dL_law_887 rfl (lv_at hl 1 rfl) ?_
  refine lw_arg (k := 1) F hS hl (by omega) hL (by omega) dL_law_888 dL_law_889 dL_law_890 dL_law_891 dL_law_892 ?_
  refine lw_arg (k := 2) F hS hl (by omega) hL (by omega) dL_law_893 dL_law_894 dL_law_895 dL_law_896 dL_law_897 ?_
  have q1 := p_X5_two (X := X) hI.1 hM hf (zg_in xs i 1) (zg_in xs i 2) hrr (Post := fun r u => ∃ (M' : Gal) (fw' : List Int), lenG M' ∧ fw'.length = 20 ∧ r = some (vI rr.1) ∧ u = xSt X M' fw' rr.2) (fun M' fw' a b => ⟨M', fw', a, b, rfl, rfl⟩)
  refine lw_callv (ci := 3) (As := [vI (zg xs i 1), vI (zg xs i 2)]) (a := X 0) (rest := []) (φ := [0, 1, 2, 3, 4, 5, 6, 7, 8, 9, 10, 11, 12, 13, 14, 15, 16, 17, 18, 19, 20, 21, 22, 23, 24, 25, 26, 27, 28]) F (ct_X5_two l) rfl rfl rfl (glV wd_619 wd_620 wd_621 wd_60 wd_622) rfl rfl (by decide +kernel) ⟨Nat.le_of_ble_eq_true rfl, Nat.le_of_ble_eq_true rfl⟩ dL_law_898 hP hD hS hl.1 rfl (Nat.le_of_ble_eq_true rfl) rfl lw_in.1 (by rw [lw_sx]; exact ⟨rfl, rfl⟩) (tr_sub lw_sx q1) (fun r u H1 locs1 hpost hP hD hS => ?_)
  obtain ⟨M', fw', hM', hf', rfl, rfl⟩ := hpost
  rw [lw_jx] at hP hD
  refine lv_aload_n hx hb dL_law_901 rfl (lv_at hl 2 rfl) ?_
  refine lw_arg (k := 1) F hS hl (by omega) hL (by omega) dL_law_902 dL_law_903 dL_law_904 dL_law_905 dL_law_906 ?_
  refine lw_arg (k := 2) F hS hl (by omega) hL (by omega) dL_law_907 dL_law_908 dL_law_909 dL_law_910 dL_law_911 ?_
  have q2 := p_X6_two (Y := Y) (X1 := X1) (X2 := X2) (le := le) (la := la) (td := td) (wk := wk) (wn := wn) (cs := cs) (kk := kk) (cu := cu) (rd := rd) (st := st) (wg := wg) (lo := lo) hI.1 hz (zg_in xs i 1) (zg_in xs i 2) hrr (Post := fun r u => ∃ (X1 X2 le la td wk wn cs : List Int) (kk cu rd st wg lo : Int), okZ X1 X2 le la td wk wn cs wg ∧ r = some (vI rr.1) ∧ u = mSt Y X1 X2 le la td wk wn cs kk cu rd st wg lo rr.2) (fun X1 X2 le la td wk wn cs kk cu rd st wg lo hz => ⟨X1, X2, le, la, td, wk, wn, cs, kk, cu, rd, st, wg, lo, hz, rfl, rfl⟩)
  refine lw_callv (ci := 4) (As := [vI (zg xs i 1), vI (zg xs i 2)]) (a := Y 0) (rest := [mv (vI rr.1)]) (φ := [29, 30, 31, 32, 33, 34, 35, 36, 37, 38, 39, 40, 41, 42, 43, 44, 45]) F (ct_X6_two l) rfl rfl rfl (glV wd_1132 wd_1133 wd_1134 wd_65 wd_1135) rfl rfl (by decide +kernel) ⟨Nat.le_of_ble_eq_true rfl, Nat.le_of_ble_eq_true rfl⟩ dL_law_912 hP hD hS hl.1 rfl (Nat.le_of_ble_eq_true rfl) rfl lw_in.2 (by rw [lw_sy]; exact ⟨rfl, rfl⟩) (tr_sub lw_sy q2) (fun r u H1 locs1 hpost hP hD hS => ?_)
  obtain ⟨X1', X2', le', la', td', wk', wn', cs', kk', cu', rd', st', wg', lo', hz', rfl, rfl⟩ := hpost
  rw [lw_jy] at hP hD
  show lwW p l e s m below meth c b H1 locs1 (F0 m 915 ls [.int (zI rr.1), .int (zI rr.1)])
  refine lv_icmp_eq hx hb dL_law_915 (tgt := 1182) (by decide) (fun _ => ?_) (fun z => absurd rfl z)
  exact k _ _ _ _ _ _ _ _ _ _ _ _ _ _ _ _ _ _ _ hM' hf' hz' hP hD hS hl

set_option maxRecDepth 20000 in set_option maxHeartbeats 1000000 in
theorem lw_case_26 {p : Program} {l : Launch} {e : Env} {s : State} {m : MethodId} {below : List Frame} {meth : Method} {c : Code} {b L : Nat} {xs : Nat → Int32} {D : va_G} {cA : ClassId} {X Y : Nat → Nat} {i : Nat} {S : St} (F : lwF p s m meth c b L xs D cA) (hi : i + 6 ≤ L) (hL : L ≤ 3072) (hI : invZ S) (k : lwG p l e s m below meth c b D cA X Y i 1182 (r_cough (zg xs i 1) (zg xs i 2) (zg xs i 3) (zg xs i 4) (zg xs i 5) S).2) : lwG p l e s m below meth c b D cA X Y i 920 S := by
  intro M fw X1 X2 le la td wk wn cs kk cu rd st wg lo H locs ls hM hf hz hP hD hS hl
  have hx := F.1
  have hb := F.2.1
  obtain ⟨rr, hrr⟩ : ∃ z, r_cough (zg xs i 1) (zg xs i 2) (zg xs i 3) (zg xs i 4) (zg xs i 5) S = z := ⟨_, rfl⟩
  rw [hrr] at k
  refine lv_aload_n hx hb dL_law_920 rfl (lv_at hl 1 rfl) ?_
  refine lw_arg (k := 1) F hS hl (by omega) hL (by omega) dL_law_921 dL_law_922 dL_law_923 dL_law_924 dL_law_925 ?_
  refine lw_arg (k := 2) F hS hl (by omega) hL (by omega) dL_law_926 dL_law_927 dL_law_928 dL_law_929 dL_law_930 ?_
  refine lw_arg (k := 3) F hS hl (by omega) hL (by omega) dL_law_931 dL_law_932 dL_law_933 dL_law_934 dL_law_935 ?_
  refine lw_arg (k := 4) F hS hl (by omega) hL (by omega) dL_law_936 dL_law_937 dL_law_938 dL_law_939 dL_law_940 ?_
  refine lw_arg (k := 5) F hS hl (by omega) hL (by omega) dL_law_941 dL_law_942 dL_law_943 dL_law_944 dL_law_945 ?_
  have q1 := p_X5_cough (X := X) hI.1 hM hf (zg_in xs i 1) (zg_in xs i 2) (zg_in xs i 3) (zg_in xs i 4) (zg_in xs i 5) hrr (Post := fun r u => ∃ (M' : Gal) (fw' : List Int), lenG M' ∧ fw'.length = 20 ∧ r = some (vL rr.1) ∧ u = xSt X M' fw' rr.2) (fun M' fw' a b => ⟨M', fw', a, b, rfl, rfl⟩)
  refine lw_callv (ci := 3) (As := [vI (zg xs i 1), vI (zg xs i 2), vI (zg xs i 3), vI (zg xs i 4), vI (zg xs i 5)]) (a := X 0) (rest := []) (φ := [0, 1, 2, 3, 4, 5, 6, 7, 8, 9, 10, 11, 12, 13, 14, 15, 16, 17, 18, 19, 20, 21, 22, 23, 24, 25, 26, 27, 28]) F (ct_X5_cough l) rfl rfl rfl (glV wd_632 wd_633 wd_634 wd_60 wd_635) rfl rfl (by decide +kernel) ⟨Nat.le_of_ble_eq_true rfl, Nat.le_of_ble_eq_true rfl⟩ dL_law_946 hP hD hS hl.1 rfl (Nat.le_of_ble_eq_true rfl) rfl lw_in.1 (by rw [lw_sx]; exact ⟨rfl, rfl⟩) (tr_sub lw_sx q1) (fun r u H1 locs1 hpost hP hD hS => ?_)
  obtain ⟨M', fw', hM', hf', rfl, rfl⟩ := hpost
  rw [lw_jx] at hP hD
  refine lv_aload_n hx hb dL_law_949 rfl (lv_at hl 2 rfl) ?_
  refine lw_arg (k := 1) F hS hl (by omega) hL (by omega) dL_law_950 dL_law_951 dL_law_952 dL_law_953 dL_law_954 ?_
  refine lw_arg (k := 2) F hS hl (by omega) hL (by omega) dL_law_955 dL_law_956 dL_law_957 dL_law_958 dL_law_959 ?_
  refine lw_arg (k := 3) F hS hl (by omega) hL (by omega) dL_law_960 dL_law_961 dL_law_962 dL_law_963 dL_law_964 ?_
  refine lw_arg (k := 4) F hS hl (by omega) hL (by omega) dL_law_965 dL_law_966 dL_law_967 dL_law_968 dL_law_969 ?_
  refine lw_arg (k := 5) F hS hl (by omega) hL (by omega) dL_law_970 dL_law_971 dL_law_972 dL_law_973 dL_law_974 ?_
  have q2 := p_X6_cough (Y := Y) (X1 := X1) (X2 := X2) (le := le) (la := la) (td := td) (wk := wk) (wn := wn) (cs := cs) (kk := kk) (cu := cu) (rd := rd) (st := st) (wg := wg) (lo := lo) hI.1 hz (zg_in xs i 1) (zg_in xs i 2) (zg_in xs i 3) (zg_in xs i 4) (zg_in xs i 5) hrr (Post := fun r u => ∃ (X1 X2 le la td wk wn cs : List Int) (kk cu rd st wg lo : Int), okZ X1 X2 le la td wk wn cs wg ∧ r = some (vL rr.1) ∧ u = mSt Y X1 X2 le la td wk wn cs kk cu rd st wg lo rr.2) (fun X1 X2 le la td wk wn cs kk cu rd st wg lo hz => ⟨X1, X2, le, la, td, wk, wn, cs, kk, cu, rd, st, wg, lo, hz, rfl, rfl⟩)
  refine lw_callv (ci := 4) (As := [vI (zg xs i 1), vI (zg xs i 2), vI (zg xs i 3), vI (zg xs i 4), vI (zg xs i 5)]) (a := Y 0) (rest := [mv (vL rr.1)]) (φ := [29, 30, 31, 32, 33, 34, 35, 36, 37, 38, 39, 40, 41, 42, 43, 44, 45]) F (ct_X6_cough l) rfl rfl rfl (glV wd_1140 wd_1141 wd_1142 wd_65 wd_1143) rfl rfl (by decide +kernel) ⟨Nat.le_of_ble_eq_true rfl, Nat.le_of_ble_eq_true rfl⟩ dL_law_975 hP hD hS hl.1 rfl (Nat.le_of_ble_eq_true rfl) rfl lw_in.2 (by rw [lw_sy]; exact ⟨rfl, rfl⟩) (tr_sub lw_sy q2) (fun r u H1 locs1 hpost hP hD hS => ?_)
  obtain ⟨X1', X2', le', la', td', wk', wn', cs', kk', cu', rd', st', wg', lo', hz', rfl, rfl⟩ := hpost
  rw [lw_jy] at hP hD
  show lwW p l e s m below meth c b H1 locs1 (F0 m 978 ls [.long (zL rr.1), .long (zL rr.1)])
  refine W.lcmp hx hb dL_law_978 ?_
  refine lv_if_eq hx hb dL_law_979 (tgt := 1182) (by decide) (fun _ => ?_) (fun z => absurd (lw_cmp _) z)
  exact k _ _ _ _ _ _ _ _ _ _ _ _ _ _ _ _ _ _ _ hM' hf' hz' hP hD hS hl

set_option maxRecDepth 20000 in set_option maxHeartbeats 1000000 in
theorem lw_case_27 {p : Program} {l : Launch} {e : Env} {s : State} {m : MethodId} {below : List Frame} {meth : Method} {c : Code} {b L : Nat} {xs : Nat → Int32} {D : va_G} {cA : ClassId} {X Y : Nat → Nat} {i : Nat} {S : St} (F : lwF p s m meth c b L xs D cA) (hi : i + 6 ≤ L) (hL : L ≤ 3072) (hI : invZ S) (k : lwG p l e s m below meth c b D cA X Y i 1182 (r_mean (zg xs i 1) S).2) : lwG p l e s m below meth c b D cA X Y i 984 S := by
  intro M fw X1 X2 le la td wk wn cs kk cu rd st wg lo H locs ls hM hf hz hP hD hS hl
  have hx := F.1
  have hb := F.2.1
  obtain ⟨rr, hrr⟩ : ∃ z, r_mean (zg xs i 1) S = z := ⟨_, rfl⟩
  rw [hrr] at k
  refine lv_aload_n hx hb dL_law_984 rfl (lv_at hl 1 rfl) ?_
  refine lw_arg (k := 1) F hS hl (by omega) hL (by omega) dL_law_985 dL_law_986 dL_law_987 dL_law_988 dL_law_989 ?_
  have q1 := p_X5_mean (X := X) hI.1 hM hf (zg_in xs i 1) hrr (Post := fun r u => ∃ (M' : Gal) (fw' : List Int), lenG M' ∧ fw'.length = 20 ∧ r = some (vL rr.1) ∧ u = xSt X M' fw' rr.2) (fun M' fw' a b => ⟨M', fw', a, b, rfl, rfl⟩)
  refine lw_callv (ci := 3) (As := [vI (zg xs i 1)]) (a := X 0) (rest := []) (φ := [0, 1, 2, 3, 4, 5, 6, 7, 8, 9, 10, 11, 12, 13, 14, 15, 16, 17, 18, 19, 20, 21, 22, 23, 24, 25, 26, 27, 28]) F (ct_X5_mean l) rfl rfl rfl (glV wd_660 wd_661 wd_662 wd_60 wd_663) rfl rfl (by decide +kernel) ⟨Nat.le_of_ble_eq_true rfl, Nat.le_of_ble_eq_true rfl⟩ dL_law_990 hP hD hS hl.1 rfl (Nat.le_of_ble_eq_true rfl) rfl lw_in.1 (by rw [lw_sx]; exact ⟨rfl, rfl⟩) (tr_sub lw_sx q1) (fun r u H1 locs1 hpost hP hD hS => ?_)
  obtain ⟨M', fw', hM', hf', rfl, rfl⟩ := hpost
  rw [lw_jx] at hP hD
  refine lv_aload_n hx hb dL_law_993 rfl (lv_at hl 2 rfl) ?_
  refine lw_arg (k := 1) F hS hl (by omega) hL (by omega) dL_law_994 dL_law_995 dL_law_996 dL_law_997 dL_law_998 ?_
  have q2 := p_X6_mean (Y := Y) (X1 := X1) (X2 := X2) (le := le) (la := la) (td := td) (wk := wk) (wn := wn) (cs := cs) (kk := kk) (cu := cu) (rd := rd) (st := st) (wg := wg) (lo := lo) hI.1 hz (zg_in xs i 1) hrr (Post := fun r u => ∃ (X1 X2 le la td wk wn cs : List Int) (kk cu rd st wg lo : Int), okZ X1 X2 le la td wk wn cs wg ∧ r = some (vL rr.1) ∧ u = mSt Y X1 X2 le la td wk wn cs kk cu rd st wg lo rr.2) (fun X1 X2 le la td wk wn cs kk cu rd st wg lo hz => ⟨X1, X2, le, la, td, wk, wn, cs, kk, cu, rd, st, wg, lo, hz, rfl, rfl⟩)
  refine lw_callv (ci := 4) (As := [vI (zg xs i 1)]) (a := Y 0) (rest := [mv (vL rr.1)]) (φ := [29, 30, 31, 32, 33, 34, 35, 36, 37, 38, 39, 40, 41, 42, 43, 44, 45]) F (ct_X6_mean l) rfl rfl rfl (glV wd_1155 wd_1156 wd_1157 wd_65 wd_1158) rfl rfl (by decide +kernel) ⟨Nat.le_of_ble_eq_true rfl, Nat.le_of_ble_eq_true rfl⟩ dL_law_999 hP hD hS hl.1 rfl (Nat.le_of_ble_eq_true rfl) rfl lw_in.2 (by rw [lw_sy]; exact ⟨rfl, rfl⟩) (tr_sub lw_sy q2) (fun r u H1 locs1 hpost hP hD hS => ?_)
  obtain ⟨X1', X2', le', la', td', wk', wn', cs', kk', cu', rd', st', wg', lo', hz', rfl, rfl⟩ := hpost
  rw [lw_jy] at hP hD
  show lwW p l e s m below meth c b H1 locs1 (F0 m 1002 ls [.long (zL rr.1), .long (zL rr.1)])
  refine W.lcmp hx hb dL_law_1002 ?_
  refine lv_if_eq hx hb dL_law_1003 (tgt := 1182) (by decide) (fun _ => ?_) (fun z => absurd (lw_cmp _) z)
  exact k _ _ _ _ _ _ _ _ _ _ _ _ _ _ _ _ _ _ _ hM' hf' hz' hP hD hS hl

set_option maxRecDepth 20000 in set_option maxHeartbeats 1000000 in
theorem lw_case_28 {p : Program} {l : Launch} {e : Env} {s : State} {m : MethodId} {below : List Frame} {meth : Method} {c : Code} {b L : Nat} {xs : Nat → Int32} {D : va_G} {cA : ClassId} {X Y : Nat → Nat} {i : Nat} {S : St} (F : lwF p s m meth c b L xs D cA) (hi : i + 6 ≤ L) (hL : L ≤ 3072) (hI : invZ S) (k : lwG p l e s m below meth c b D cA X Y i 1182 (r_whatIs (zg xs i 1) (zg xs i 2) S).2) : lwG p l e s m below meth c b D cA X Y i 1008 S := by
  intro M fw X1 X2 le la td wk wn cs kk cu rd st wg lo H locs ls hM hf hz hP hD hS hl
  have hx := F.1
  have hb := F.2.1
  obtain ⟨rr, hrr⟩ : ∃ z, r_whatIs (zg xs i 1) (zg xs i 2) S = z := ⟨_, rfl⟩
  rw [hrr] at k
  refine lv_aload_n hx hb dL_law_1008 rfl (lv_at hl 1 rfl) ?_
  refine lw_arg (k := 1) F hS hl (by omega) hL (by omega) dL_law_1009 dL_law_1010 dL_law_1011 dL_law_1012 dL_law_1013 ?_
  refine lw_arg (k := 2) F hS hl (by omega) hL (by omega) dL_law_1014 dL_law_1015 dL_law_1016 dL_law_1017 dL_law_1018 ?_
  have q1 := p_X5_whatIs (X := X) hI.1 hM hf (zg_in xs i 1) (zg_in xs i 2) hrr (Post := fun r u => ∃ (M' : Gal) (fw' : List Int), lenG M' ∧ fw'.length = 20 ∧ r = some (vI rr.1) ∧ u = xSt X M' fw' rr.2) (fun M' fw' a b => ⟨M', fw', a, b, rfl, rfl⟩)
  refine lw_callv (ci := 3) (As := [vI (zg xs i 1), vI (zg xs i 2)]) (a := X 0) (rest := []) (φ := [0, 1, 2, 3, 4, 5, 6, 7, 8, 9, 10, 11, 12, 13, 14, 15, 16, 17, 18, 19, 20, 21, 22, 23, 24, 25, 26, 27, 28]) F (ct_X5_whatIs l) rfl rfl rfl (glV wd_667 wd_668 wd_669 wd_60 wd_670) rfl rfl (by decide +kernel) ⟨Nat.le_of_ble_eq_true rfl, Nat.le_of_ble_eq_true rfl⟩ dL_law_1019 hP hD hS hl.1 rfl (Nat.le_of_ble_eq_true rfl) rfl lw_in.1 (by rw [lw_sx]; exact ⟨rfl, rfl⟩) (tr_sub lw_sx q1) (fun r u H1 locs1 hpost hP hD hS => ?_)
  obtain ⟨M', fw', hM', hf', rfl, rfl⟩ := hpost
  rw [lw_jx] at hP hD
  refine lv_aload_n hx hb dL_law_1022 rfl (lv_at hl 2 rfl) ?_
  refine lw_arg (k := 1) F hS hl (by omega) hL (by omega) dL_law_1023 dL_law_1024 dL_law_1025 dL_law_1026 dL_law_1027 ?_
  refine lw_arg (k := 2) F hS hl (by omega) hL (by omega) dL_law_1028 dL_law_1029 dL_law_1030 dL_law_1031 dL_law_1032 ?_
  have q2 := p_X6_whatIs (Y := Y) (X1 := X1) (X2 := X2) (le := le) (la := la) (td := td) (wk := wk) (wn := wn) (cs := cs) (kk := kk) (cu := cu) (rd := rd) (st := st) (wg := wg) (lo := lo) hI.1 hz (zg_in xs i 1) (zg_in xs i 2) hrr (Post := fun r u => ∃ (X1 X2 le la td wk wn cs : List Int) (kk cu rd st wg lo : Int), okZ X1 X2 le la td wk wn cs wg ∧ r = some (vI rr.1) ∧ u = mSt Y X1 X2 le la td wk wn cs kk cu rd st wg lo rr.2) (fun X1 X2 le la td wk wn cs kk cu rd st wg lo hz => ⟨X1, X2, le, la, td, wk, wn, cs, kk, cu, rd, st, wg, lo, hz, rfl, rfl⟩)
  refine lw_callv (ci := 4) (As := [vI (zg xs i 1), vI (zg xs i 2)]) (a := Y 0) (rest := [mv (vI rr.1)]) (φ := [29, 30, 31, 32, 33, 34, 35, 36, 37, 38, 39, 40, 41, 42, 43, 44, 45]) F (ct_X6_whatIs l) rfl rfl rfl (glV wd_1159 wd_1160 wd_1161 wd_65 wd_1162) rfl rfl (by decide +kernel) ⟨Nat.le_of_ble_eq_true rfl, Nat.le_of_ble_eq_true rfl⟩ dL_law_1033 hP hD hS hl.1 rfl (Nat.le_of_ble_eq_true rfl) rfl lw_in.2 (by rw [lw_sy]; exact ⟨rfl, rfl⟩) (tr_sub lw_sy q2) (fun r u H1 locs1 hpost hP hD hS => ?_)
  obtain ⟨X1', X2', le', la', td', wk', wn', cs', kk', cu', rd', st', wg', lo', hz', rfl, rfl⟩ := hpost
  rw [lw_jy] at hP hD
  show lwW p l e s m below meth c b H1 locs1 (F0 m 1036 ls [.int (zI rr.1), .int (zI rr.1)])
  refine lv_icmp_eq hx hb dL_law_1036 (tgt := 1182) (by decide) (fun _ => ?_) (fun z => absurd rfl z)
  exact k _ _ _ _ _ _ _ _ _ _ _ _ _ _ _ _ _ _ _ hM' hf' hz' hP hD hS hl

set_option maxRecDepth 20000 in set_option maxHeartbeats 1000000 in
theorem lw_case_29 {p : Program} {l : Launch} {e : Env} {s : State} {m : MethodId} {below : List Frame} {meth : Method} {c : Code} {b L : Nat} {xs : Nat → Int32} {D : va_G} {cA : ClassId} {X Y : Nat → Nat} {i : Nat} {S : St} (F : lwF p s m meth c b L xs D cA) (hi : i + 6 ≤ L) (hL : L ≤ 3072) (hI : invZ S) (k : lwG p l e s m below meth c b D cA X Y i 1182 (r_row (zg xs i 1) S).2) : lwG p l e s m below meth c b D cA X Y i 1041 S := by
  intro M fw X1 X2 le la td wk wn cs kk cu rd st wg lo H locs ls hM hf hz hP hD hS hl
  have hx := F.1
  have hb := F.2.1
  obtain ⟨rr, hrr⟩ : ∃ z, r_row (zg xs i 1) S = z := ⟨_, rfl⟩
  rw [hrr] at k
  refine lv_aload_n hx hb dL_law_1041 rfl (lv_at hl 1 rfl) ?_
  refine lw_arg (k := 1) F hS hl (by omega) hL (by omega) dL_law_1042 dL_law_1043 dL_law_1044 dL_law_1045 dL_law_1046 ?_
  have q1 := p_X5_row (X := X) hI.1 hM hf (zg_in xs i 1) hrr (Post := fun r u => ∃ (M' : Gal) (fw' : List Int), lenG M' ∧ fw'.length = 20 ∧ r = some (vI rr.1) ∧ u = xSt X M' fw' rr.2) (fun M' fw' a b => ⟨M', fw', a, b, rfl, rfl⟩)
  refine lw_callv (ci := 3) (As := [vI (zg xs i 1)]) (a := X 0) (rest := []) (φ := [0, 1, 2, 3, 4, 5, 6, 7, 8, 9, 10, 11, 12, 13, 14, 15, 16, 17, 18, 19, 20, 21, 22, 23, 24, 25, 26, 27, 28]) F (ct_X5_row l) rfl rfl rfl (glV wd_686 wd_687 wd_688 wd_60 wd_689) rfl rfl (by decide +kernel) ⟨Nat.le_of_ble_eq_true rfl, Nat.le_of_ble_eq_true rfl⟩ dL_law_1047 hP hD hS hl.1 rfl (Nat.le_of_ble_eq_true rfl) rfl lw_in.1 (by rw [lw_sx]; exact ⟨rfl, rfl⟩) (tr_sub lw_sx q1) (fun r u H1 locs1 hpost hP hD hS => ?_)
  obtain ⟨M', fw', hM', hf', rfl, rfl⟩ := hpost
  rw [lw_jx] at hP hD
  refine lv_aload_n hx hb dL_law_1050 rfl (lv_at hl 2 rfl) ?_
  refine lw_arg (k := 1) F hS hl (by omega) hL (by omega) dL_law_1051 dL_law_1052 dL_law_1053 dL_law_1054 dL_law_1055 ?_
  have q2 := p_X6_row (Y := Y) (X1 := X1) (X2 := X2) (le := le) (la := la) (td := td) (wk := wk) (wn := wn) (cs := cs) (kk := kk) (cu := cu) (rd := rd) (st := st) (wg := wg) (lo := lo) hI.1 hz (zg_in xs i 1) hrr (Post := fun r u => ∃ (X1 X2 le la td wk wn cs : List Int) (kk cu rd st wg lo : Int), okZ X1 X2 le la td wk wn cs wg ∧ r = some (vI rr.1) ∧ u = mSt Y X1 X2 le la td wk wn cs kk cu rd st wg lo rr.2) (fun X1 X2 le la td wk wn cs kk cu rd st wg lo hz => ⟨X1, X2, le, la, td, wk, wn, cs, kk, cu, rd, st, wg, lo, hz, rfl, rfl⟩)
  refine lw_callv (ci := 4) (As := [vI (zg xs i 1)]) (a := Y 0) (rest := [mv (vI rr.1)]) (φ := [29, 30, 31, 32, 33, 34, 35, 36, 37, 38, 39, 40, 41, 42, 43, 44, 45]) F (ct_X6_row l) rfl rfl rfl (glV wd_1171 wd_1172 wd_1173 wd_65 wd_1174) rfl rfl (by decide +kernel) ⟨Nat.le_of_ble_eq_true rfl, Nat.le_of_ble_eq_true rfl⟩ dL_law_1056 hP hD hS hl.1 rfl (Nat.le_of_ble_eq_true rfl) rfl lw_in.2 (by rw [lw_sy]; exact ⟨rfl, rfl⟩) (tr_sub lw_sy q2) (fun r u H1 locs1 hpost hP hD hS => ?_)
  obtain ⟨X1', X2', le', la', td', wk', wn', cs', kk', cu', rd', st', wg', lo', hz', rfl, rfl⟩ := hpost
  rw [lw_jy] at hP hD
  show lwW p l e s m below meth c b H1 locs1 (F0 m 1059 ls [.int (zI rr.1), .int (zI rr.1)])
  refine lv_icmp_eq hx hb dL_law_1059 (tgt := 1182) (by decide) (fun _ => ?_) (fun z => absurd rfl z)
  exact k _ _ _ _ _ _ _ _ _ _ _ _ _ _ _ _ _ _ _ hM' hf' hz' hP hD hS hl

set_option maxRecDepth 20000 in set_option maxHeartbeats 1000000 in
theorem lw_case_30 {p : Program} {l : Launch} {e : Env} {s : State} {m : MethodId} {below : List Frame} {meth : Method} {c : Code} {b L : Nat} {xs : Nat → Int32} {D : va_G} {cA : ClassId} {X Y : Nat → Nat} {i : Nat} {S : St} (F : lwF p s m meth c b L xs D cA) (hi : i + 6 ≤ L) (hL : L ≤ 3072) (hI : invZ S) (k : lwG p l e s m below meth c b D cA X Y i 1182 (r_judge S).2) : lwG p l e s m below meth c b D cA X Y i 1064 S := by
  intro M fw X1 X2 le la td wk wn cs kk cu rd st wg lo H locs ls hM hf hz hP hD hS hl
  have hx := F.1
  have hb := F.2.1
  obtain ⟨rr, hrr⟩ : ∃ z, r_judge S = z := ⟨_, rfl⟩
  rw [hrr] at k
  refine lv_aload_n hx hb dL_law_1064 rfl (lv_at hl 1 rfl) ?_
  have q1 := p_X5_judge (X := X) hI.1 hM hf  hrr (Post := fun r u => ∃ (M' : Gal) (fw' : List Int), lenG M' ∧ fw'.length = 20 ∧ r = some (vI rr.1) ∧ u = xSt X M' fw' rr.2) (fun M' fw' a b => ⟨M', fw', a, b, rfl, rfl⟩)
  refine lw_callv (ci := 3) (As := []) (a := X 0) (rest := []) (φ := [0, 1, 2, 3, 4, 5, 6, 7, 8, 9, 10, 11, 12, 13, 14, 15, 16, 17, 18, 19, 20, 21, 22, 23, 24, 25, 26, 27, 28]) F (ct_X5_judge l) rfl rfl rfl (glV wd_690 wd_691 wd_692 wd_60 wd_693) rfl rfl (by decide +kernel) ⟨Nat.le_of_ble_eq_true rfl, Nat.le_of_ble_eq_true rfl⟩ dL_law_1065 hP hD hS hl.1 rfl (Nat.le_of_ble_eq_true rfl) rfl lw_in.1 (by rw [lw_sx]; exact ⟨rfl, rfl⟩) (tr_sub lw_sx q1) (fun r u H1 locs1 hpost hP hD hS => ?_)
  obtain ⟨M', fw', hM', hf', rfl, rfl⟩ := hpost
  rw [lw_jx] at hP hD
  refine lv_aload_n hx hb dL_law_1068 rfl (lv_at hl 2 rfl) ?_
  have q2 := p_X6_judge (Y := Y) (X1 := X1) (X2 := X2) (le := le) (la := la) (td := td) (wk := wk) (wn := wn) (cs := cs) (kk := kk) (cu := cu) (rd := rd) (st := st) (wg := wg) (lo := lo) hI.1 hz  hrr (Post := fun r u => ∃ (X1 X2 le la td wk wn cs : List Int) (kk cu rd st wg lo : Int), okZ X1 X2 le la td wk wn cs wg ∧ r = some (vI rr.1) ∧ u = mSt Y X1 X2 le la td wk wn cs kk cu rd st wg lo rr.2) (fun X1 X2 le la td wk wn cs kk cu rd st wg lo hz => ⟨X1, X2, le, la, td, wk, wn, cs, kk, cu, rd, st, wg, lo, hz, rfl, rfl⟩)
  refine lw_callv (ci := 4) (As := []) (a := Y 0) (rest := [mv (vI rr.1)]) (φ := [29, 30, 31, 32, 33, 34, 35, 36, 37, 38, 39, 40, 41, 42, 43, 44, 45]) F (ct_X6_judge l) rfl rfl rfl (glV wd_1175 wd_1176 wd_1177 wd_65 wd_1178) rfl rfl (by decide +kernel) ⟨Nat.le_of_ble_eq_true rfl, Nat.le_of_ble_eq_true rfl⟩ dL_law_1069 hP hD hS hl.1 rfl (Nat.le_of_ble_eq_true rfl) rfl lw_in.2 (by rw [lw_sy]; exact ⟨rfl, rfl⟩) (tr_sub lw_sy q2) (fun r u H1 locs1 hpost hP hD hS => ?_)
  obtain ⟨X1', X2', le', la', td', wk', wn', cs', kk', cu', rd', st', wg', lo', hz', rfl, rfl⟩ := hpost
  rw [lw_jy] at hP hD
  show lwW p l e s m below meth c b H1 locs1 (F0 m 1072 ls [.int (zI rr.1), .int (zI rr.1)])
  refine lv_icmp_eq hx hb dL_law_1072 (tgt := 1182) (by decide) (fun _ => ?_) (fun z => absurd rfl z)
  exact k _ _ _ _ _ _ _ _ _ _ _ _ _ _ _ _ _ _ _ hM' hf' hz' hP hD hS hl

set_option maxRecDepth 20000 in set_option maxHeartbeats 1000000 in
theorem lw_case_31 {p : Program} {l : Launch} {e : Env} {s : State} {m : MethodId} {below : List Frame} {meth : Method} {c : Code} {b L : Nat} {xs : Nat → Int32} {D : va_G} {cA : ClassId} {X Y : Nat → Nat} {i : Nat} {S : St} (F : lwF p s m meth c b L xs D cA) (hi : i + 6 ≤ L) (hL : L ≤ 3072) (hI : invZ S) (k : lwG p l e s m below meth c b D cA X Y i 1182 (r_clear S).2) : lwG p l e s m below meth c b D cA X Y i 1077 S := by
  intro M fw X1 X2 le la td wk wn cs kk cu rd st wg lo H locs ls hM hf hz hP hD hS hl
  have hx := F.1
  have hb := F.2.1
  obtain ⟨rr, hrr⟩ : ∃ z, r_clear S = z := ⟨_, rfl⟩
  rw [hrr] at k
  refine lv_aload_n hx hb dL_law_1077 rfl (lv_at hl 1 rfl) ?_
  have q1 := p_X5_clear (X := X) hI.1 hM hf  hrr (Post := fun r u => ∃ (M' : Gal) (fw' : List Int), lenG M' ∧ fw'.length = 20 ∧ r = some (vI rr.1) ∧ u = xSt X M' fw' rr.2) (fun M' fw' a b => ⟨M', fw', a, b, rfl, rfl⟩)
  refine lw_callv (ci := 3) (As := []) (a := X 0) (rest := []) (φ := [0, 1, 2, 3, 4, 5, 6, 7, 8, 9, 10, 11, 12, 13, 14, 15, 16, 17, 18, 19, 20, 21, 22, 23, 24, 25, 26, 27, 28]) F (ct_X5_clear l) rfl rfl rfl (glV wd_700 wd_701 wd_702 wd_60 wd_703) rfl rfl (by decide +kernel) ⟨Nat.le_of_ble_eq_true rfl, Nat.le_of_ble_eq_true rfl⟩ dL_law_1078 hP hD hS hl.1 rfl (Nat.le_of_ble_eq_true rfl) rfl lw_in.1 (by rw [lw_sx]; exact ⟨rfl, rfl⟩) (tr_sub lw_sx q1) (fun r u H1 locs1 hpost hP hD hS => ?_)
  obtain ⟨M', fw', hM', hf', rfl, rfl⟩ := hpost
  rw [lw_jx] at hP hD
  refine lv_aload_n hx hb dL_law_1081 rfl (lv_at hl 2 rfl) ?_
  have q2 := p_X6_clear (Y := Y) (X1 := X1) (X2 := X2) (le := le) (la := la) (td := td) (wk := wk) (wn := wn) (cs := cs) (kk := kk) (cu := cu) (rd := rd) (st := st) (wg := wg) (lo := lo) hI.1 hz  hrr (Post := fun r u => ∃ (X1 X2 le la td wk wn cs : List Int) (kk cu rd st wg lo : Int), okZ X1 X2 le la td wk wn cs wg ∧ r = some (vI rr.1) ∧ u = mSt Y X1 X2 le la td wk wn cs kk cu rd st wg lo rr.2) (fun X1 X2 le la td wk wn cs kk cu rd st wg lo hz => ⟨X1, X2, le, la, td, wk, wn, cs, kk, cu, rd, st, wg, lo, hz, rfl, rfl⟩)
  refine lw_callv (ci := 4) (As := []) (a := Y 0) (rest := [mv (vI rr.1)]) (φ := [29, 30, 31, 32, 33, 34, 35, 36, 37, 38, 39, 40, 41, 42, 43, 44, 45]) F (ct_X6_clear l) rfl rfl rfl (glV wd_1179 wd_1180 wd_1181 wd_65 wd_1182) rfl rfl (by decide +kernel) ⟨Nat.le_of_ble_eq_true rfl, Nat.le_of_ble_eq_true rfl⟩ dL_law_1082 hP hD hS hl.1 rfl (Nat.le_of_ble_eq_true rfl) rfl lw_in.2 (by rw [lw_sy]; exact ⟨rfl, rfl⟩) (tr_sub lw_sy q2) (fun r u H1 locs1 hpost hP hD hS => ?_)
  obtain ⟨X1', X2', le', la', td', wk', wn', cs', kk', cu', rd', st', wg', lo', hz', rfl, rfl⟩ := hpost
  rw [lw_jy] at hP hD
  show lwW p l e s m below meth c b H1 locs1 (F0 m 1085 ls [.int (zI rr.1), .int (zI rr.1)])
  refine lv_icmp_eq hx hb dL_law_1085 (tgt := 1182) (by decide) (fun _ => ?_) (fun z => absurd rfl z)
  exact k _ _ _ _ _ _ _ _ _ _ _ _ _ _ _ _ _ _ _ hM' hf' hz' hP hD hS hl

set_option maxRecDepth 20000 in set_option maxHeartbeats 1000000 in
theorem lw_case_32 {p : Program} {l : Launch} {e : Env} {s : State} {m : MethodId} {below : List Frame} {meth : Method} {c : Code} {b L : Nat} {xs : Nat → Int32} {D : va_G} {cA : ClassId} {X Y : Nat → Nat} {i : Nat} {S : St} (F : lwF p s m meth c b L xs D cA) (hi : i + 6 ≤ L) (hL : L ≤ 3072) (hI : invZ S) (k : lwG p l e s m below meth c b D cA X Y i 1182 (r_lots (zg xs i 1) (zg xs i 2) (zg xs i 3) S).2) : lwG p l e s m below meth c b D cA X Y i 1090 S := by
  intro M fw X1 X2 le la td wk wn cs kk cu rd st wg lo H locs ls hM hf hz hP hD hS hl
  have hx := F.1
  have hb := F.2.1
  obtain ⟨rr, hrr⟩ : ∃ z, r_lots (zg xs i 1) (zg xs i 2) (zg xs i 3) S = z := ⟨_, rfl⟩
  rw [hrr] at k
  refine lv_aload_n hx hb dL_law_1090 rfl (lv_at hl 1 rfl) ?_
  refine lw_arg (k := 1) F hS hl (by omega) hL (by omega) dL_law_1091 dL_law_1092 dL_law_1093 dL_law_1094 dL_law_1095 ?_
  refine lw_arg (k := 2) F hS hl (by omega) hL (by omega) dL_law_1096 dL_law_1097 dL_law_1098 dL_law_1099 dL_law_1100 ?_
  refine lw_arg (k := 3) F hS hl (by omega) hL (by omega) dL_law_1101 dL_law_1102 dL_law_1103 dL_law_1104 dL_law_1105 ?_
  have q1 := p_X5_lots (X := X) hI.1 hM hf (zg_in xs i 1) (zg_in xs i 2) (zg_in xs i 3) hrr (Post := fun r u => ∃ (M' : Gal) (fw' : List Int), lenG M' ∧ fw'.length = 20 ∧ r = some (vI rr.1) ∧ u = xSt X M' fw' rr.2) (fun M' fw' a b => ⟨M', fw', a, b, rfl, rfl⟩)
  refine lw_callv (ci := 3) (As := [vI (zg xs i 1), vI (zg xs i 2), vI (zg xs i 3)]) (a := X 0) (rest := []) (φ := [0, 1, 2, 3, 4, 5, 6, 7, 8, 9, 10, 11, 12, 13, 14, 15, 16, 17, 18, 19, 20, 21, 22, 23, 24, 25, 26, 27, 28]) F (ct_X5_lots l) rfl rfl rfl (glV wd_705 wd_706 wd_707 wd_60 wd_708) rfl rfl (by decide +kernel) ⟨Nat.le_of_ble_eq_true rfl, Nat.le_of_ble_eq_true rfl⟩ dL_law_1106 hP hD hS hl.1 rfl (Nat.le_of_ble_eq_true rfl) rfl lw_in.1 (by rw [lw_sx]; exact ⟨rfl, rfl⟩) (tr_sub lw_sx q1) (fun r u H1 locs1 hpost hP hD hS => ?_)
  obtain ⟨M', fw', hM', hf', rfl, rfl⟩ := hpost
  rw [lw_jx] at hP hD
  refine lv_aload_n hx hb dL_law_1109 rfl (lv_at hl 2 rfl) ?_
  refine lw_arg (k := 1) F hS hl (by omega) hL (by omega) dL_law_1110 dL_law_1111 dL_law_1112 dL_law_1113 dL_law_1114 ?_
  refine lw_arg (k := 2) F hS hl (by omega) hL (by omega) dL_law_1115 dL_law_1116 dL_law_1117 dL_law_1118 dL_law_1119 ?_
  refine lw_arg (k := 3) F hS hl (by omega) hL (by omega) dL_law_1120 dL_law_1121 dL_law_1122 dL_law_1123 dL_law_1124 ?_
  have q2 := p_X6_lots (Y := Y) (X1 := X1) (X2 := X2) (le := le) (la := la) (td := td) (wk := wk) (wn := wn) (cs := cs) (kk := kk) (cu := cu) (rd := rd) (st := st) (wg := wg) (lo := lo) hI.1 hz (zg_in xs i 1) (zg_in xs i 2) (zg_in xs i 3) hrr (Post := fun r u => ∃ (X1 X2 le la td wk wn cs : List Int) (kk cu rd st wg lo : Int), okZ X1 X2 le la td wk wn cs wg ∧ r = some (vI rr.1) ∧ u = mSt Y X1 X2 le la td wk wn cs kk cu rd st wg lo rr.2) (fun X1 X2 le la td wk wn cs kk cu rd st wg lo hz => ⟨X1, X2, le, la, td, wk, wn, cs, kk, cu, rd, st, wg, lo, hz, rfl, rfl⟩)
  refine lw_callv (ci := 4) (As := [vI (zg xs i 1), vI (zg xs i 2), vI (zg xs i 3)]) (a := Y 0) (rest := [mv (vI rr.1)]) (φ := [29, 30, 31, 32, 33, 34, 35, 36, 37, 38, 39, 40, 41, 42, 43, 44, 45]) F (ct_X6_lots l) rfl rfl rfl (glV wd_1183 wd_1184 wd_1185 wd_65 wd_1186) rfl rfl (by decide +kernel) ⟨Nat.le_of_ble_eq_true rfl, Nat.le_of_ble_eq_true rfl⟩ dL_law_1125 hP hD hS hl.1 rfl (Nat.le_of_ble_eq_true rfl) rfl lw_in.2 (by rw [lw_sy]; exact ⟨rfl, rfl⟩) (tr_sub lw_sy q2) (fun r u H1 locs1 hpost hP hD hS => ?_)
  obtain ⟨X1', X2', le', la', td', wk', wn', cs', kk', cu', rd', st', wg', lo', hz', rfl, rfl⟩ := hpost
  rw [lw_jy] at hP hD
  show lwW p l e s m below meth c b H1 locs1 (F0 m 1128 ls [.int (zI rr.1), .int (zI rr.1)])
  refine lv_icmp_eq hx hb dL_law_1128 (tgt := 1182) (by decide) (fun _ => ?_) (fun z => absurd rfl z)
  exact k _ _ _ _ _ _ _ _ _ _ _ _ _ _ _ _ _ _ _ hM' hf' hz' hP hD hS hl

set_option maxRecDepth 20000 in set_option maxHeartbeats 1000000 in
theorem lw_case_33 {p : Program} {l : Launch} {e : Env} {s : State} {m : MethodId} {below : List Frame} {meth : Method} {c : Code} {b L : Nat} {xs : Nat → Int32} {D : va_G} {cA : ClassId} {X Y : Nat → Nat} {i : Nat} {S : St} (F : lwF p s m meth c b L xs D cA) (hi : i + 6 ≤ L) (hL : L ≤ 3072) (hI : invZ S) (k : lwG p l e s m below meth c b D cA X Y i 1182 (r_image S).2) : lwG p l e s m below meth c b D cA X Y i 1133 S := by
  intro M fw X1 X2 le la td wk wn cs kk cu rd st wg lo H locs ls hM hf hz hP hD hS hl
  have hx := F.1
  have hb := F.2.1
  obtain ⟨rr, hrr⟩ : ∃ z, r_image S = z := ⟨_, rfl⟩
  rw [hrr] at k
  refine lv_aload_n hx hb dL_law_1133 rfl (lv_at hl 1 rfl) ?_
  have q1 := p_X5_image (X := X) hI.1 hM hf  hrr (Post := fun r u => ∃ (M' : Gal) (fw' : List Int), lenG M' ∧ fw'.length = 20 ∧ r = some (vI rr.1) ∧ u = xSt X M' fw' rr.2) (fun M' fw' a b => ⟨M', fw', a, b, rfl, rfl⟩)
  refine lw_callv (ci := 3) (As := []) (a := X 0) (rest := []) (φ := [0, 1, 2, 3, 4, 5, 6, 7, 8, 9, 10, 11, 12, 13, 14, 15, 16, 17, 18, 19, 20, 21, 22, 23, 24, 25, 26, 27, 28]) F (ct_X5_image l) rfl rfl rfl (glV wd_723 wd_724 wd_725 wd_60 wd_726) rfl rfl (by decide +kernel) ⟨Nat.le_of_ble_eq_true rfl, Nat.le_of_ble_eq_true rfl⟩ dL_law_1134 hP hD hS hl.1 rfl (Nat.le_of_ble_eq_true rfl) rfl lw_in.1 (by rw [lw_sx]; exact ⟨rfl, rfl⟩) (tr_sub lw_sx q1) (fun r u H1 locs1 hpost hP hD hS => ?_)
  obtain ⟨M', fw', hM', hf', rfl, rfl⟩ := hpost
  rw [lw_jx] at hP hD
  refine lv_aload_n hx hb dL_law_1137 rfl (lv_at hl 2 rfl) ?_
  have q2 := p_X6_image (Y := Y) (X1 := X1) (X2 := X2) (le := le) (la := la) (td := td) (wk := wk) (wn := wn) (cs := cs) (kk := kk) (cu := cu) (rd := rd) (st := st) (wg := wg) (lo := lo) hI.1 hz  hrr (Post := fun r u => ∃ (X1 X2 le la td wk wn cs : List Int) (kk cu rd st wg lo : Int), okZ X1 X2 le la td wk wn cs wg ∧ r = some (vI rr.1) ∧ u = mSt Y X1 X2 le la td wk wn cs kk cu rd st wg lo rr.2) (fun X1 X2 le la td wk wn cs kk cu rd st wg lo hz => ⟨X1, X2, le, la, td, wk, wn, cs, kk, cu, rd, st, wg, lo, hz, rfl, rfl⟩)
  refine lw_callv (ci := 4) (As := []) (a := Y 0) (rest := [mv (vI rr.1)]) (φ := [29, 30, 31, 32, 33, 34, 35, 36, 37, 38, 39, 40, 41, 42, 43, 44, 45]) F (ct_X6_image l) rfl rfl rfl (glV wd_964 wd_965 wd_966 wd_65 wd_967) rfl rfl (by decide +kernel) ⟨Nat.le_of_ble_eq_true rfl, Nat.le_of_ble_eq_true rfl⟩ dL_law_1138 hP hD hS hl.1 rfl (Nat.le_of_ble_eq_true rfl) rfl lw_in.2 (by rw [lw_sy]; exact ⟨rfl, rfl⟩) (tr_sub lw_sy q2) (fun r u H1 locs1 hpost hP hD hS => ?_)
  obtain ⟨X1', X2', le', la', td', wk', wn', cs', kk', cu', rd', st', wg', lo', hz', rfl, rfl⟩ := hpost
  rw [lw_jy] at hP hD
  show lwW p l e s m below meth c b H1 locs1 (F0 m 1141 ls [.int (zI rr.1), .int (zI rr.1)])
  refine lv_icmp_eq hx hb dL_law_1141 (tgt := 1182) (by decide) (fun _ => ?_) (fun z => absurd rfl z)
  exact k _ _ _ _ _ _ _ _ _ _ _ _ _ _ _ _ _ _ _ hM' hf' hz' hP hD hS hl

set_option maxRecDepth 20000 in set_option maxHeartbeats 1000000 in
theorem lw_case_34 {p : Program} {l : Launch} {e : Env} {s : State} {m : MethodId} {below : List Frame} {meth : Method} {c : Code} {b L : Nat} {xs : Nat → Int32} {D : va_G} {cA : ClassId} {X Y : Nat → Nat} {i : Nat} {S : St} (F : lwF p s m meth c b L xs D cA) (hi : i + 6 ≤ L) (hL : L ≤ 3072) (hI : invZ S) (k : lwG p l e s m below meth c b D cA X Y i 1182 (r_on S).2) : lwG p l e s m below meth c b D cA X Y i 1146 S := by
  intro M fw X1 X2 le la td wk wn cs kk cu rd st wg lo H locs ls hM hf hz hP hD hS hl
  have hx := F.1
  have hb := F.2.1
  obtain ⟨rr, hrr⟩ : ∃ z, r_on S = z := ⟨_, rfl⟩
  rw [hrr] at k
  refine lv_aload_n hx hb dL_law_1146 rfl (lv_at hl 1 rfl) ?_
  have q1 := p_X5_on (X := X) hI.1 hM hf  hrr (Post := fun r u => ∃ (M' : Gal) (fw' : List Int), lenG M' ∧ fw'.length = 20 ∧ r = some (vI rr.1) ∧ u = xSt X M' fw' rr.2) (fun M' fw' a b => ⟨M', fw', a, b, rfl, rfl⟩)
  refine lw_callv (ci := 3) (As := []) (a := X 0) (rest := []) (φ := [0, 1, 2, 3, 4, 5, 6, 7, 8, 9, 10, 11, 12, 13, 14, 15, 16, 17, 18, 19, 20, 21, 22, 23, 24, 25, 26, 27, 28]) F (ct_X5_on l) rfl rfl rfl (glV wd_728 wd_729 wd_730 wd_60 wd_731) rfl rfl (by decide +kernel) ⟨Nat.le_of_ble_eq_true rfl, Nat.le_of_ble_eq_true rfl⟩ dL_law_1147 hP hD hS hl.1 rfl (Nat.le_of_ble_eq_true rfl) rfl lw_in.1 (by rw [lw_sx]; exact ⟨rfl, rfl⟩) (tr_sub lw_sx q1) (fun r u H1 locs1 hpost hP hD hS => ?_)
  obtain ⟨M', fw', hM', hf', rfl, rfl⟩ := hpost
  rw [lw_jx] at hP hD
  refine lv_aload_n hx hb dL_law_1150 rfl (lv_at hl 2 rfl) ?_
  have q2 := p_X6_on (Y := Y) (X1 := X1) (X2 := X2) (le := le) (la := la) (td := td) (wk := wk) (wn := wn) (cs := cs) (kk := kk) (cu := cu) (rd := rd) (st := st) (wg := wg) (lo := lo) hI.1 hz  hrr (Post := fun r u => ∃ (X1 X2 le la td wk wn cs : List Int) (kk cu rd st wg lo : Int), okZ X1 X2 le la td wk wn cs wg ∧ r = some (vI rr.1) ∧ u = mSt Y X1 X2 le la td wk wn cs kk cu rd st wg lo rr.2) (fun X1 X2 le la td wk wn cs kk cu rd st wg lo hz => ⟨X1, X2, le, la, td, wk, wn, cs, kk, cu, rd, st, wg, lo, hz, rfl, rfl⟩)
  refine lw_callv (ci := 4) (As := []) (a := Y 0) (rest := [mv (vI rr.1)]) (φ := [29, 30, 31, 32, 33, 34, 35, 36, 37, 38, 39, 40, 41, 42, 43, 44, 45]) F (ct_X6_on l) rfl rfl rfl (glV wd_968 wd_969 wd_970 wd_65 wd_971) rfl rfl (by decide +kernel) ⟨Nat.le_of_ble_eq_true rfl, Nat.le_of_ble_eq_true rfl⟩ dL_law_1151 hP hD hS hl.1 rfl (Nat.le_of_ble_eq_true rfl) rfl lw_in.2 (by rw [lw_sy]; exact ⟨rfl, rfl⟩) (tr_sub lw_sy q2) (fun r u H1 locs1 hpost hP hD hS => ?_)
  obtain ⟨X1', X2', le', la', td', wk', wn', cs', kk', cu', rd', st', wg', lo', hz', rfl, rfl⟩ := hpost
  rw [lw_jy] at hP hD
  show lwW p l e s m below meth c b H1 locs1 (F0 m 1154 ls [.int (zI rr.1), .int (zI rr.1)])
  refine lv_icmp_eq hx hb dL_law_1154 (tgt := 1182) (by decide) (fun _ => ?_) (fun z => absurd rfl z)
  exact k _ _ _ _ _ _ _ _ _ _ _ _ _ _ _ _ _ _ _ hM' hf' hz' hP hD hS hl

set_option maxRecDepth 20000 in set_option maxHeartbeats 1000000 in
theorem lw_case_35 {p : Program} {l : Launch} {e : Env} {s : State} {m : MethodId} {below : List Frame} {meth : Method} {c : Code} {b L : Nat} {xs : Nat → Int32} {D : va_G} {cA : ClassId} {X Y : Nat → Nat} {i : Nat} {S : St} (F : lwF p s m meth c b L xs D cA) (hi : i + 6 ≤ L) (hL : L ≤ 3072) (hI : invZ S) (k : lwG p l e s m below meth c b D cA X Y i 1182 (r_count (zg xs i 1) S).2) : lwG p l e s m below meth c b D cA X Y i 1159 S := by
  intro M fw X1 X2 le la td wk wn cs kk cu rd st wg lo H locs ls hM hf hz hP hD hS hl
  have hx := F.1
  have hb := F.2.1
  obtain ⟨rr, hrr⟩ : ∃ z, r_count (zg xs i 1) S = z := ⟨_, rfl⟩
  rw [hrr] at k
  refine lv_aload_n hx hb dL_law_1159 rfl (lv_at hl 1 rfl) ?_
  refine lw_arg (k := 1) F hS hl (by omega) hL (by omega) dL_law_1160 dL_law_1161 dL_law_1162 dL_law_1163 dL_law_1164 ?_
  have q1 := p_X5_count (X := X) hI.1 hM hf (zg_in xs i 1) hrr (Post := fun r u => ∃ (M' : Gal) (fw' : List Int), lenG M' ∧ fw'.length = 20 ∧ r = some (vI rr.1) ∧ u = xSt X M' fw' rr.2) (fun M' fw' a b => ⟨M', fw', a, b, rfl, rfl⟩)
  refine lw_callv (ci := 3) (As := [vI (zg xs i 1)]) (a := X 0) (rest := []) (φ := [0, 1, 2, 3, 4, 5, 6, 7, 8, 9, 10, 11, 12, 13, 14, 15, 16, 17, 18, 19, 20, 21, 22, 23, 24, 25, 26, 27, 28]) F (ct_X5_count l) rfl rfl rfl (glV wd_732 wd_733 wd_734 wd_60 wd_735) rfl rfl (by decide +kernel) ⟨Nat.le_of_ble_eq_true rfl, Nat.le_of_ble_eq_true rfl⟩ dL_law_1165 hP hD hS hl.1 rfl (Nat.le_of_ble_eq_true rfl) rfl lw_in.1 (by rw [lw_sx]; exact ⟨rfl, rfl⟩) (tr_sub lw_sx q1) (fun r u H1 locs1 hpost hP hD hS => ?_)
  obtain ⟨M', fw', hM', hf', rfl, rfl⟩ := hpost
  rw [lw_jx] at hP hD
  refine lv_aload_n hx hb dL_law_1168 rfl (lv_at hl 2 rfl) ?_
  refine lw_arg (k := 1) F hS hl (by omega) hL (by omega) dL_law_1169 dL_law_1170 dL_law_1171 dL_law_1172 dL_law_1173 ?_
  have q2 := p_X6_count (Y := Y) (X1 := X1) (X2 := X2) (le := le) (la := la) (td := td) (wk := wk) (wn := wn) (cs := cs) (kk := kk) (cu := cu) (rd := rd) (st := st) (wg := wg) (lo := lo) hI.1 hz (zg_in xs i 1) hrr (Post := fun r u => ∃ (X1 X2 le la td wk wn cs : List Int) (kk cu rd st wg lo : Int), okZ X1 X2 le la td wk wn cs wg ∧ r = some (vI rr.1) ∧ u = mSt Y X1 X2 le la td wk wn cs kk cu rd st wg lo rr.2) (fun X1 X2 le la td wk wn cs kk cu rd st wg lo hz => ⟨X1, X2, le, la, td, wk, wn, cs, kk, cu, rd, st, wg, lo, hz, rfl, rfl⟩)
  refine lw_callv (ci := 4) (As := [vI (zg xs i 1)]) (a := Y 0) (rest := [mv (vI rr.1)]) (φ := [29, 30, 31, 32, 33, 34, 35, 36, 37, 38, 39, 40, 41, 42, 43, 44, 45]) F (ct_X6_count l) rfl rfl rfl (glV wd_1194 wd_1195 wd_1196 wd_65 wd_1197) rfl rfl (by decide +kernel) ⟨Nat.le_of_ble_eq_true rfl, Nat.le_of_ble_eq_true rfl⟩ dL_law_1174 hP hD hS hl.1 rfl (Nat.le_of_ble_eq_true rfl) rfl lw_in.2 (by rw [lw_sy]; exact ⟨rfl, rfl⟩) (tr_sub lw_sy q2) (fun r u H1 locs1 hpost hP hD hS => ?_)
  obtain ⟨X1', X2', le', la', td', wk', wn', cs', kk', cu', rd', st', wg', lo', hz', rfl, rfl⟩ := hpost
  rw [lw_jy] at hP hD
  show lwW p l e s m below meth c b H1 locs1 (F0 m 1177 ls [.int (zI rr.1), .int (zI rr.1)])
  refine lv_icmp_eq hx hb dL_law_1177 (tgt := 1182) (by decide) (fun _ => ?_) (fun z => absurd rfl z)
  exact k _ _ _ _ _ _ _ _ _ _ _ _ _ _ _ _ _ _ _ hM' hf' hz' hP hD hS hl
