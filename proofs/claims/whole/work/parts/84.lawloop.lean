/-! ===== the law's loop ===== -/
theorem lw_ofNat {L : Nat} (h : L ≤ 3072) : Int32.ofNat L = zI (L : Int) := by
  apply Int32.toInt_inj.mp
  rw [zI_toInt ⟨by omega, by omega⟩, Int32.toInt_ofNat_of_lt (by omega)]
set_option maxRecDepth 20000 in set_option maxHeartbeats 4000000 in
theorem lw_loop {p : Program} {l : Launch} {e : Env} {s : State} {m : MethodId} {below : List Frame} {meth : Method} {c : Code} {b L : Nat} {xs : Nat → Int32} {D : va_G} {cA : ClassId} {X Y : Nat → Nat} (F : lwF p s m meth c b L xs D cA) (hL : L ≤ 3072) : ∀ (n i : Nat) (S : St), L ≤ i + n → i ≤ 4000 → invZ S → lwG p l e s m below meth c b D cA X Y i 18 S := by
  intro n
  induction n with
  | zero =>
    intro i S hn hi hI M fw X1 X2 le la td wk wn cs kk cu rd st wg lo H locs ls hM hf hz hP hD hS hl
    obtain ⟨hx, hb, hown, hts, hK, hml, hnw, hX, hbl, hr, hlocks⟩ := id F
    refine lv_iload_n hx hb dL_law_18 rfl (lv_at hl 3 rfl) ?_
    refine lv_aload_n hx hb dL_law_19 rfl (lv_at hl 0 rfl) ?_
    refine va_slen hx hb hX hbl (Nat.not_le.mpr hbl) hS dL_law_20 ?_
    refine lv_bipush (v := zI 6) hx hb dL_law_21 (by decide) ?_
    refine lv_isub hx hb dL_law_23 ?_
    rw [lw_ofNat hL, ← zI_sub]
    refine lv_icmp_gt hx hb dL_law_24 (tgt := 1188) (by decide) (fun z => ?_) (fun z => ?_)
    · refine lv_iconst (v := 1) hx hb dL_law_1188 (by decide) ?_
      refine va_forget hS.2.2 ?_
      refine W.widen (k := 600000) (n := 7302250) (Nat.le_of_ble_eq_true rfl) (Nat.le_of_ble_eq_true rfl) ?_
      exact lw_ret hx hb hr hlocks dL_law_1189
    · have e9 := zI_lt (a := (L : Int) - 6) (b := (i : Int)) ⟨by omega, by omega⟩ ⟨by omega, by omega⟩
      rw [e9] at z
      omega
  | succ n ih =>
    intro i S hn hi hI M fw X1 X2 le la td wk wn cs kk cu rd st wg lo H locs ls hM hf hz hP hD hS hl
    obtain ⟨hx, hb, hown, hts, hK, hml, hnw, hX, hbl, hr, hlocks⟩ := id F
    refine lv_iload_n hx hb dL_law_18 rfl (lv_at hl 3 rfl) ?_
    refine lv_aload_n hx hb dL_law_19 rfl (lv_at hl 0 rfl) ?_
    refine va_slen hx hb hX hbl (Nat.not_le.mpr hbl) hS dL_law_20 ?_
    refine lv_bipush (v := zI 6) hx hb dL_law_21 (by decide) ?_
    refine lv_isub hx hb dL_law_23 ?_
    rw [lw_ofNat hL, ← zI_sub]
    refine lv_icmp_gt hx hb dL_law_24 (tgt := 1188) (by decide) (fun z => ?_) (fun z => ?_)
    · refine lv_iconst (v := 1) hx hb dL_law_1188 (by decide) ?_
      refine va_forget hS.2.2 ?_
      refine W.widen (k := 600000) (n := 7302250) (Nat.le_of_ble_eq_true rfl) (Nat.le_of_ble_eq_true rfl) ?_
      exact lw_ret hx hb hr hlocks dL_law_1189
    have e9 := zI_lt (a := (L : Int) - 6) (b := (i : Int)) ⟨by omega, by omega⟩ ⟨by omega, by omega⟩
    rw [e9] at z
    have h9 : vp_in (zI (i : Int)) L := zI_in (by omega) (by omega) (by omega)
    refine lv_aload_n hx hb dL_law_27 rfl (lv_at hl 0 rfl) ?_
    refine lv_iload_n hx hb dL_law_28 rfl (lv_at hl 3 rfl) ?_
    refine va_sld hx hb hX hbl (Nat.not_le.mpr hbl) hS h9 dL_law_29 ?_
    refine lv_bipush (v := 63) hx hb dL_law_30 (by decide) ?_
    refine lv_iand hx hb dL_law_32 ?_
    generalize xs (zI (i : Int)).toNatClampNeg &&& 63 = x
    have k1182 : ∀ S', invZ S' → lwG p l e s m below meth c b D cA X Y i 1182 S' := by
      intro S' hI' M fw X1 X2 le la td wk wn cs kk cu rd st wg lo H locs ls hM hf hz hP hD hS hl
      refine lv_iinc (v := zI ((i + 6 : Nat) : Int)) (lv' := [(3, .int (zI ((i + 6 : Nat) : Int))), (0, .ref b), (1, .ref (X 0)), (2, .ref (Y 0))]) hx hb dL_law_1182 hl (k := 3) rfl (by rw [show ((i + 6 : Nat) : Int) = (i : Int) + 6 by omega, zI_add]; rfl) (by decide) rfl (fun ls hl => ?_)
      refine lv_goto (tgt := 18) hx hb dL_law_1185 (by decide) ?_
      exact ih (i + 6) S' (by omega) (by omega) hI' _ _ _ _ _ _ _ _ _ _ _ _ _ _ _ _ _ _ _ hM hf hz hP hD hS (lv_sub hl [1, 2, 3, 0] rfl)
    rcases (by omega : (x.toInt < 0 ∨ 35 < x.toInt) ∨ x.toInt = 0 ∨ x.toInt = 1 ∨ x.toInt = 2 ∨ x.toInt = 3 ∨ x.toInt = 4 ∨ x.toInt = 5 ∨ x.toInt = 6 ∨ x.toInt = 7 ∨ x.toInt = 8 ∨ x.toInt = 9 ∨ x.toInt = 10 ∨ x.toInt = 11 ∨ x.toInt = 12 ∨ x.toInt = 13 ∨ x.toInt = 14 ∨ x.toInt = 15 ∨ x.toInt = 16 ∨ x.toInt = 17 ∨ x.toInt = 18 ∨ x.toInt = 19 ∨ x.toInt = 20 ∨ x.toInt = 21 ∨ x.toInt = 22 ∨ x.toInt = 23 ∨ x.toInt = 24 ∨ x.toInt = 25 ∨ x.toInt = 26 ∨ x.toInt = 27 ∨ x.toInt = 28 ∨ x.toInt = 29 ∨ x.toInt = 30 ∨ x.toInt = 31 ∨ x.toInt = 32 ∨ x.toInt = 33 ∨ x.toInt = 34 ∨ x.toInt = 35) with ho | hk | hk | hk | hk | hk | hk | hk | hk | hk | hk | hk | hk | hk | hk | hk | hk | hk | hk | hk | hk | hk | hk | hk | hk | hk | hk | hk | hk | hk | hk | hk | hk | hk | hk | hk | hk
    · refine lv_tableOut hx hb dL_law_33 ho (tgt := 1182) (by decide) ?_
      exact k1182 S hI _ _ _ _ _ _ _ _ _ _ _ _ _ _ _ _ _ _ _ hM hf hz hP hD hS hl
    · refine lv_tableIn hx hb dL_law_33 (by omega) (by omega) (off := 159) (by rw [hk] <;> rfl) (tgt := 192) (by decide) ?_
      exact lw_case_0 F (by omega) hL hI (k1182 _ (inv_letter hI)) _ _ _ _ _ _ _ _ _ _ _ _ _ _ _ _ _ _ _ hM hf hz hP hD hS hl
    · refine lv_tableIn hx hb dL_law_33 (by omega) (by omega) (off := 182) (by rw [hk] <;> rfl) (tgt := 215) (by decide) ?_
      exact lw_case_1 F (by omega) hL hI (k1182 _ (inv_mine hI)) _ _ _ _ _ _ _ _ _ _ _ _ _ _ _ _ _ _ _ hM hf hz hP hD hS hl
    · refine lv_tableIn hx hb dL_law_33 (by omega) (by omega) (off := 195) (by rw [hk] <;> rfl) (tgt := 228) (by decide) ?_
      exact lw_case_2 F (by omega) hL hI (k1182 _ (inv_miner hI)) _ _ _ _ _ _ _ _ _ _ _ _ _ _ _ _ _ _ _ hM hf hz hP hD hS hl
    · refine lv_tableIn hx hb dL_law_33 (by omega) (by omega) (off := 228) (by rw [hk] <;> rfl) (tgt := 261) (by decide) ?_
      exact lw_case_3 F (by omega) hL hI (k1182 _ (inv_pair hI)) _ _ _ _ _ _ _ _ _ _ _ _ _ _ _ _ _ _ _ hM hf hz hP hD hS hl
    · refine lv_tableIn hx hb dL_law_33 (by omega) (by omega) (off := 261) (by rw [hk] <;> rfl) (tgt := 294) (by decide) ?_
      exact lw_case_4 F (by omega) hL hI (k1182 _ (inv_beams hI)) _ _ _ _ _ _ _ _ _ _ _ _ _ _ _ _ _ _ _ hM hf hz hP hD hS hl
    · refine lv_tableIn hx hb dL_law_33 (by omega) (by omega) (off := 284) (by rw [hk] <;> rfl) (tgt := 317) (by decide) ?_
      exact lw_case_5 F (by omega) hL hI (k1182 _ (inv_props hI)) _ _ _ _ _ _ _ _ _ _ _ _ _ _ _ _ _ _ _ hM hf hz hP hD hS hl
    · refine lv_tableIn hx hb dL_law_33 (by omega) (by omega) (off := 317) (by rw [hk] <;> rfl) (tgt := 350) (by decide) ?_
      exact lw_case_6 F (by omega) hL hI (k1182 _ (inv_stands hI)) _ _ _ _ _ _ _ _ _ _ _ _ _ _ _ _ _ _ _ hM hf hz hP hD hS hl
    · refine lv_tableIn hx hb dL_law_33 (by omega) (by omega) (off := 350) (by rw [hk] <;> rfl) (tgt := 383) (by decide) ?_
      exact lw_case_7 F (by omega) hL hI (k1182 _ (inv_adds hI)) _ _ _ _ _ _ _ _ _ _ _ _ _ _ _ _ _ _ _ hM hf hz hP hD hS hl
    · refine lv_tableIn hx hb dL_law_33 (by omega) (by omega) (off := 383) (by rw [hk] <;> rfl) (tgt := 416) (by decide) ?_
      exact lw_case_8 F (by omega) hL hI (k1182 _ (inv_swaps hI)) _ _ _ _ _ _ _ _ _ _ _ _ _ _ _ _ _ _ _ hM hf hz hP hD hS hl
    · refine lv_tableIn hx hb dL_law_33 (by omega) (by omega) (off := 416) (by rw [hk] <;> rfl) (tgt := 449) (by decide) ?_
      exact lw_case_9 F (by omega) hL hI (k1182 _ (inv_turn hI)) _ _ _ _ _ _ _ _ _ _ _ _ _ _ _ _ _ _ _ hM hf hz hP hD hS hl
    · refine lv_tableIn hx hb dL_law_33 (by omega) (by omega) (off := 459) (by rw [hk] <;> rfl) (tgt := 492) (by decide) ?_
      exact lw_case_10 F (by omega) hL hI (k1182 _ (inv_minutes hI)) _ _ _ _ _ _ _ _ _ _ _ _ _ _ _ _ _ _ _ hM hf hz hP hD hS hl
    · refine lv_tableIn hx hb dL_law_33 (by omega) (by omega) (off := 482) (by rw [hk] <;> rfl) (tgt := 515) (by decide) ?_
      exact lw_case_11 F (by omega) hL hI (k1182 _ (inv_pairThen hI)) _ _ _ _ _ _ _ _ _ _ _ _ _ _ _ _ _ _ _ hM hf hz hP hD hS hl
    · refine lv_tableIn hx hb dL_law_33 (by omega) (by omega) (off := 525) (by rw [hk] <;> rfl) (tgt := 558) (by decide) ?_
      exact lw_case_12 F (by omega) hL hI (k1182 _ (inv_bruisesThen hI)) _ _ _ _ _ _ _ _ _ _ _ _ _ _ _ _ _ _ _ hM hf hz hP hD hS hl
    · refine lv_tableIn hx hb dL_law_33 (by omega) (by omega) (off := 558) (by rw [hk] <;> rfl) (tgt := 591) (by decide) ?_
      exact lw_case_13 F (by omega) hL hI (k1182 _ (inv_faced hI)) _ _ _ _ _ _ _ _ _ _ _ _ _ _ _ _ _ _ _ hM hf hz hP hD hS hl
    · refine lv_tableIn hx hb dL_law_33 (by omega) (by omega) (off := 581) (by rw [hk] <;> rfl) (tgt := 614) (by decide) ?_
      exact lw_case_14 F (by omega) hL hI (k1182 _ (inv_done hI)) _ _ _ _ _ _ _ _ _ _ _ _ _ _ _ _ _ _ _ hM hf hz hP hD hS hl
    · refine lv_tableIn hx hb dL_law_33 (by omega) (by omega) (off := 604) (by rw [hk] <;> rfl) (tgt := 637) (by decide) ?_
      exact lw_case_15 F (by omega) hL hI (k1182 _ (inv_hurt hI)) _ _ _ _ _ _ _ _ _ _ _ _ _ _ _ _ _ _ _ hM hf hz hP hD hS hl
    · refine lv_tableIn hx hb dL_law_33 (by omega) (by omega) (off := 637) (by rw [hk] <;> rfl) (tgt := 670) (by decide) ?_
      exact lw_case_16 F (by omega) hL hI (k1182 _ (inv_begins hI)) _ _ _ _ _ _ _ _ _ _ _ _ _ _ _ _ _ _ _ hM hf hz hP hD hS hl
    · refine lv_tableIn hx hb dL_law_33 (by omega) (by omega) (off := 660) (by rw [hk] <;> rfl) (tgt := 693) (by decide) ?_
      exact lw_case_17 F (by omega) hL hI (k1182 _ (inv_clears hI)) _ _ _ _ _ _ _ _ _ _ _ _ _ _ _ _ _ _ _ hM hf hz hP hD hS hl
    · refine lv_tableIn hx hb dL_law_33 (by omega) (by omega) (off := 683) (by rw [hk] <;> rfl) (tgt := 716) (by decide) ?_
      exact lw_case_18 F (by omega) hL hI (k1182 _ (inv_change hI)) _ _ _ _ _ _ _ _ _ _ _ _ _ _ _ _ _ _ _ hM hf hz hP hD hS hl
    · refine lv_tableIn hx hb dL_law_33 (by omega) (by omega) (off := 696) (by rw [hk] <;> rfl) (tgt := 729) (by decide) ?_
      exact lw_case_19 F (by omega) hL hI (k1182 _ (inv_bestKind hI)) _ _ _ _ _ _ _ _ _ _ _ _ _ _ _ _ _ _ _ hM hf hz hP hD hS hl
    · refine lv_tableIn hx hb dL_law_33 (by omega) (by omega) (off := 729) (by rw [hk] <;> rfl) (tgt := 762) (by decide) ?_
      exact lw_case_20 F (by omega) hL hI (k1182 _ (inv_bestCell hI)) _ _ _ _ _ _ _ _ _ _ _ _ _ _ _ _ _ _ _ hM hf hz hP hD hS hl
    · refine lv_tableIn hx hb dL_law_33 (by omega) (by omega) (off := 762) (by rw [hk] <;> rfl) (tgt := 795) (by decide) ?_
      exact lw_case_21 F (by omega) hL hI (k1182 _ (inv_hum hI)) _ _ _ _ _ _ _ _ _ _ _ _ _ _ _ _ _ _ _ hM hf hz hP hD hS hl
    · refine lv_tableIn hx hb dL_law_33 (by omega) (by omega) (off := 795) (by rw [hk] <;> rfl) (tgt := 828) (by decide) ?_
      exact lw_case_22 F (by omega) hL hI (k1182 _ (inv_first hI)) _ _ _ _ _ _ _ _ _ _ _ _ _ _ _ _ _ _ _ hM hf hz hP hD hS hl
    · refine lv_tableIn hx hb dL_law_33 (by omega) (by omega) (off := 818) (by rw [hk] <;> rfl) (tgt := 851) (by decide) ?_
      exact lw_case_23 F (by omega) hL hI (k1182 _ (inv_timber hI)) _ _ _ _ _ _ _ _ _ _ _ _ _ _ _ _ _ _ _ hM hf hz hP hD hS hl
    · refine lv_tableIn hx hb dL_law_33 (by omega) (by omega) (off := 841) (by rw [hk] <;> rfl) (tgt := 874) (by decide) ?_
      exact lw_case_24 F (by omega) hL hI (k1182 _ (inv_eager hI)) _ _ _ _ _ _ _ _ _ _ _ _ _ _ _ _ _ _ _ hM hf hz hP hD hS hl
    · refine lv_tableIn hx hb dL_law_33 (by omega) (by omega) (off := 854) (by rw [hk] <;> rfl) (tgt := 887) (by decide) ?_
      exact lw_case_25 F (by omega) hL hI (k1182 _ (inv_two hI)) _ _ _ _ _ _ _ _ _ _ _ _ _ _ _ _ _ _ _ hM hf hz hP hD hS hl
    · refine lv_tableIn hx hb dL_law_33 (by omega) (by omega) (off := 887) (by rw [hk] <;> rfl) (tgt := 920) (by decide) ?_
      exact lw_case_26 F (by omega) hL hI (k1182 _ (inv_cough hI)) _ _ _ _ _ _ _ _ _ _ _ _ _ _ _ _ _ _ _ hM hf hz hP hD hS hl
    · refine lv_tableIn hx hb dL_law_33 (by omega) (by omega) (off := 951) (by rw [hk] <;> rfl) (tgt := 984) (by decide) ?_
      exact lw_case_27 F (by omega) hL hI (k1182 _ (inv_mean hI)) _ _ _ _ _ _ _ _ _ _ _ _ _ _ _ _ _ _ _ hM hf hz hP hD hS hl
    · refine lv_tableIn hx hb dL_law_33 (by omega) (by omega) (off := 975) (by rw [hk] <;> rfl) (tgt := 1008) (by decide) ?_
      exact lw_case_28 F (by omega) hL hI (k1182 _ (inv_whatIs hI)) _ _ _ _ _ _ _ _ _ _ _ _ _ _ _ _ _ _ _ hM hf hz hP hD hS hl
    · refine lv_tableIn hx hb dL_law_33 (by omega) (by omega) (off := 1008) (by rw [hk] <;> rfl) (tgt := 1041) (by decide) ?_
      exact lw_case_29 F (by omega) hL hI (k1182 _ (inv_row hI)) _ _ _ _ _ _ _ _ _ _ _ _ _ _ _ _ _ _ _ hM hf hz hP hD hS hl
    · refine lv_tableIn hx hb dL_law_33 (by omega) (by omega) (off := 1031) (by rw [hk] <;> rfl) (tgt := 1064) (by decide) ?_
      exact lw_case_30 F (by omega) hL hI (k1182 _ (inv_judge hI)) _ _ _ _ _ _ _ _ _ _ _ _ _ _ _ _ _ _ _ hM hf hz hP hD hS hl
    · refine lv_tableIn hx hb dL_law_33 (by omega) (by omega) (off := 1044) (by rw [hk] <;> rfl) (tgt := 1077) (by decide) ?_
      exact lw_case_31 F (by omega) hL hI (k1182 _ (inv_clear hI)) _ _ _ _ _ _ _ _ _ _ _ _ _ _ _ _ _ _ _ hM hf hz hP hD hS hl
    · refine lv_tableIn hx hb dL_law_33 (by omega) (by omega) (off := 1057) (by rw [hk] <;> rfl) (tgt := 1090) (by decide) ?_
      exact lw_case_32 F (by omega) hL hI (k1182 _ (inv_lots hI)) _ _ _ _ _ _ _ _ _ _ _ _ _ _ _ _ _ _ _ hM hf hz hP hD hS hl
    · refine lv_tableIn hx hb dL_law_33 (by omega) (by omega) (off := 1100) (by rw [hk] <;> rfl) (tgt := 1133) (by decide) ?_
      exact lw_case_33 F (by omega) hL hI (k1182 _ (inv_image hI)) _ _ _ _ _ _ _ _ _ _ _ _ _ _ _ _ _ _ _ hM hf hz hP hD hS hl
    · refine lv_tableIn hx hb dL_law_33 (by omega) (by omega) (off := 1113) (by rw [hk] <;> rfl) (tgt := 1146) (by decide) ?_
      exact lw_case_34 F (by omega) hL hI (k1182 _ (inv_on hI)) _ _ _ _ _ _ _ _ _ _ _ _ _ _ _ _ _ _ _ hM hf hz hP hD hS hl
    · refine lv_tableIn hx hb dL_law_33 (by omega) (by omega) (off := 1126) (by rw [hk] <;> rfl) (tgt := 1159) (by decide) ?_
      exact lw_case_35 F (by omega) hL hI (k1182 _ (inv_count hI)) _ _ _ _ _ _ _ _ _ _ _ _ _ _ _ _ _ _ _ hM hf hz hP hD hS hl
