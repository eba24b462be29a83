/-! part:mcomesd -/
set_option maxRecDepth 20000 in set_option maxHeartbeats 8000000 in
theorem p_X6_comes_m {Y : Nat → Nat} {G : Gal} {rf tp le la td wk wn cs rw kp : List Int} {tn rd st hi wg rn lo kk cu k a : Int} {Post : pR} {vs : List Int} {sz : Int} (hz : 0 ≤ sz ∧ sz ≤ 96) (hv : vs.length = 96) (hb : bnd 0 255 vs) (qm : atN vs sz a = 109) (h2 : 0 ≤ wg ∧ wg ≤ 3) (hG : invG G) (hzr : zrG G) (ht : gMi G ≤ 2000) (hk : 0 ≤ k ∧ k < 48) (ha : 0 ≤ a ∧ a ≤ 200) (hl1 : le.length = 48) (hl : td.length = 192) (hle : gI le k = atN vs sz a) (hz1 : ¬ szK (atN vs sz a) < 1) (hf : fineP vs sz a) (htd : toldP vs sz td (4 * k) a) (h : rightP vs sz a (gPc G) (gMi G) → Post (some (vI 1)) (mG Y (comeG vs sz a G) 0 0 wg kp kk cu tp le la td tn rd st hi rw rn lo rf wk wn cs)) (h0 : ¬ rightP vs sz a (gPc G) (gMi G) → Post (some (vI 0)) (mG Y G 0 0 wg kp kk cu tp le la td tn rd st hi rw rn lo rf wk wn cs)) : tX6_comes [vR (Y 0), vI k] (mG Y G 0 0 wg kp kk cu tp le la td tn rd st hi rw rn lo rf wk wn cs) Post := by
  obtain ⟨be, ce, ts, ki, fi, br, pc, mi⟩ := G
  obtain ⟨i1, i2, i3, i4, i5, i6, i7, i8, i9, i10, i11, i12, i13, i14, i15⟩ := id (hG : invG ((be, ce, ts, ki, fi, br, pc, mi)))
  simp only [gBe, gCe, gTs, gKi, gFi, gBr, gPc, gMi] at i1 i2 i3 i4 i5 i6 i7 i8 i9 i10 i11 i12 i13 i14 i15
  simp only [gPc, gMi] at h h0 ht
  have a23 : a + 1 + 1 = a + 2 := by omega
  have a33 : a + 1 + 1 + 1 = a + 3 := by omega
  have a34 : a + 2 + 1 = a + 3 := by omega
  have a44 : a + 1 + 1 + 1 + 1 = a + 4 := by omega
  unfold toldP at htd
  unfold zrG at hzr
  rw [a44, a33, a23] at htd
  have b0 := atN_in hz hv hb a
  have b1 := atN_in hz hv hb (a + 1)
  have b2 := atN_in hz hv hb (a + 2)
  have b3 := atN_in hz hv hb (a + 3)
  have b4 := atN_in hz hv hb (a + 4)
  have d1 : dgN vs sz (a + 1) = atN vs sz (a + 1) - 48 := rfl
  have d2 : dgN vs sz (a + 2) = atN vs sz (a + 2) - 48 := rfl
  have d3 : dgN vs sz (a + 3) = atN vs sz (a + 3) - 48 := rfl
  have d4 : dgN vs sz (a + 4) = atN vs sz (a + 4) - 48 := rfl
  have t1 : twN vs sz (a + 1) = 10 * (atN vs sz (a + 1) - 48) + (atN vs sz (a + 2) - 48) := by unfold twN dgN; rw [a23]
  have t2 : twN vs sz (a + 2) = 10 * (atN vs sz (a + 2) - 48) + (atN vs sz (a + 3) - 48) := by unfold twN dgN; rw [a34]
  have qa : ¬ atN vs sz a = 97 := by omega
  have qb : ¬ atN vs sz a = 98 := by omega
  have f := fine_m hf (Or.inl qm)
  have T := htd.2.2.2.2.1 qm
  clear htd hf
  obtain ⟨x0, u0⟩ : ∃ z, gI td (4 * k) = z := ⟨_, rfl⟩
  rw [u0] at T
  have ec : comeG vs sz a (be, ce, ts, ki, fi, br, pc, mi) = passG x0.toNat (be, ce, ts, ki, fi, br, pc, mi) := by
    unfold comeG
    rw [if_neg qa, if_neg qb, if_pos qm]
    rw [T, t1]
  have er : rightP vs sz a pc mi ↔ (1 ≤ x0 ∧ x0 ≤ 60 ∧ mi + x0 ≤ 999) := by
    unfold rightP
    constructor
    · intro z
      omega
    · intro z
      omega
  rw [ec] at h
  have hle : gI le k = 109 := hle.trans qm
  clear ec
  have h := fun z => h (er.mpr z)
  have h0 := fun (z : ¬ (1 ≤ x0 ∧ x0 ≤ 60 ∧ mi + x0 ≤ 999)) => h0 (fun y => z (er.mp y))
  clear er
  have hG0 : invG (be, ce, ts, ki, fi, br, pc, mi) := hG
  clear hzr
  simp only [gI, sI, gBe, gCe, gTs, gKi, gFi, gBr, gPc, gMi] at *
  refine pM_run 12 (by simp only [entL, List.length_cons, List.length_nil]; omega) (fun J => ?_)
  simp only [runG_p, runG_q, elem_n, elem_c, entN, entL_R, entL_L, entL_I, entL_N, List.replicate, List.append_nil, Bool.false_eq_true, Nat.succ_ne_self, nxt_e, seg_nil, sg_callv, sg_calls, kont_e, sg_iconst, sg_lconst, sg_iload, sg_lload, sg_aload, sg_istore, sg_lstore, sg_astore, sg_iinc, sg_iadd, sg_isub, sg_imul, sg_ladd, sg_lsub, sg_lmul, sg_iand, sg_ior, sg_ixor, sg_ishl, sg_ishr, sg_iushr, sg_idiv, sg_irem, sg_ldiv, sg_lrem, sg_ineg, sg_i2l, sg_lcmp, sg_dup, sg_pop, sg_dup2, sg_goto, sg_if_eq, sg_icmp_eq, sg_if_ne, sg_icmp_ne, sg_if_lt, sg_icmp_lt, sg_if_ge, sg_icmp_ge, sg_if_gt, sg_icmp_gt, sg_if_le, sg_icmp_le, sg_ifnonnull, sg_fall, sg_ifnull, sg_lsw, sg_iret, sg_zret, sg_lret, sg_vret, sg_getf, sg_putf, sg_iald, sg_iast, sg_alen, sg_mmin, sg_mmax, swc, psh, inr, rcv, isLg_R, isLg_L, isLg_I, isLg_N, isLg_0, List.getElem?_cons_zero, List.getElem?_cons_succ, List.set_cons_zero, List.set_cons_succ, List.length_cons, List.length_nil, List.take_succ_cons, List.take_zero, List.drop_succ_cons, List.drop_zero, List.reverse_cons, List.reverse_nil, List.nil_append, List.cons_append, List.filterMap_cons, List.filterMap_nil, Nat.reduceAdd, Nat.reduceSub, Nat.reduceLT, Nat.reduceLeDiff, Nat.reduceEqDiff, ↓reduceIte, true_and, and_true, false_or, or_false, true_or, or_true, inI, fitV, Option.some.injEq, not_true_eq_false, not_false_eq_true, true_implies, false_implies, Int.reduceEq, Int.reduceNeg, Int.reduceLT, Int.reduceLE, Int.reduceAdd, Int.reduceSub, Int.reduceToNat, inL, a_iconst, a_lconst, a_iload, a_lload, a_aload, a_istore, a_lstore, a_astore, a_iinc, a_iadd, a_isub, a_imul, a_ladd, a_lsub, a_lmul, a_iand, a_ior, a_ixor, a_ishl, a_ishr, a_iushr, a_idiv, a_irem, a_ldiv, a_lrem, a_ineg, a_i2l, a_lcmp, a_dup, a_pop, a_dup2, a_goto, a_if_eq, a_icmp_eq, a_if_ne, a_icmp_ne, a_if_lt, a_icmp_lt, a_if_ge, a_icmp_ge, a_if_gt, a_icmp_gt, a_if_le, a_icmp_le, a_ifnonnull, a_fall, a_ifnull, a_lsw, a_iret, a_zret, a_lret, a_vret, a_getf, a_putf, a_iald, a_iast, a_alen, a_mmin, a_mmax, gI, sI, mS, mG, gBe, gCe, gTs, gKi, gFi, gBr, gPc, gMi, passG_0, passG_1, pr_eta, sub_nil, joi_nil, mO_len, xs_M, xj_M, mT_len, mO_0, mO_1, mO_2, mO_3, mO_4, mO_5, mO_6, mO_7, mOs_7, mO_8, mOs_8, mO_9, mO_10, mO_11, mO_12, mO_13, mOs_13, mO_14, mOs_14, mO_15, mOs_15, mO_16, mO_17, mOs_17, mO_18, mOs_18, mO_19, mOs_19, mO_20, mOs_20, mO_21, mOs_21, mO_22, mOs_22, mO_23, mO_24, mO_25, mO_26, mO_27, mOs_27, mO_28, mOs_28, mT_0, mTs_0, mT_1, mTs_1, mT_2, mTs_2, mT_3, mTs_3, mT_4, mTs_4, mT_5, mTs_5, mT_6, mTs_6, mT_7, mTs_7, mT_8, mTs_8, mT_9, mTs_9, mT_10, mTs_10, mT_11, mTs_11, mT_12, mTs_12, mT_13, mTs_13, mT_14, mTs_14, mT_15, mTs_15, hle, hl1, hl, u0, tX6_comes, kX6_comes_177, kX6_comes_157, kX6_comes_155, kX6_comes_110, kX6_comes_85, kX6_comes_79, kX6_comes_60, kX6_comes_0, bX6_comes_177, bX6_comes_157, bX6_comes_155, bX6_comes_110, bX6_comes_85, bX6_comes_79, bX6_comes_60, bX6_comes_0]
  repeat' (first | omega | with_reducible exact h | with_reducible refine And.intro ?_ ?_ | with_reducible intro hc | simp only [runG_p, runG_q, elem_n, elem_c, entN, entL_R, entL_L, entL_I, entL_N, List.replicate, List.append_nil, Bool.false_eq_true, Nat.succ_ne_self, nxt_e, seg_nil, sg_callv, sg_calls, kont_e, sg_iconst, sg_lconst, sg_iload, sg_lload, sg_aload, sg_istore, sg_lstore, sg_astore, sg_iinc, sg_iadd, sg_isub, sg_imul, sg_ladd, sg_lsub, sg_lmul, sg_iand, sg_ior, sg_ixor, sg_ishl, sg_ishr, sg_iushr, sg_idiv, sg_irem, sg_ldiv, sg_lrem, sg_ineg, sg_i2l, sg_lcmp, sg_dup, sg_pop, sg_dup2, sg_goto, sg_if_eq, sg_icmp_eq, sg_if_ne, sg_icmp_ne, sg_if_lt, sg_icmp_lt, sg_if_ge, sg_icmp_ge, sg_if_gt, sg_icmp_gt, sg_if_le, sg_icmp_le, sg_ifnonnull, sg_fall, sg_ifnull, sg_lsw, sg_iret, sg_zret, sg_lret, sg_vret, sg_getf, sg_putf, sg_iald, sg_iast, sg_alen, sg_mmin, sg_mmax, swc, psh, inr, rcv, isLg_R, isLg_L, isLg_I, isLg_N, isLg_0, List.getElem?_cons_zero, List.getElem?_cons_succ, List.set_cons_zero, List.set_cons_succ, List.length_cons, List.length_nil, List.take_succ_cons, List.take_zero, List.drop_succ_cons, List.drop_zero, List.reverse_cons, List.reverse_nil, List.nil_append, List.cons_append, List.filterMap_cons, List.filterMap_nil, Nat.reduceAdd, Nat.reduceSub, Nat.reduceLT, Nat.reduceLeDiff, Nat.reduceEqDiff, ↓reduceIte, true_and, and_true, false_or, or_false, true_or, or_true, inI, fitV, Option.some.injEq, not_true_eq_false, not_false_eq_true, true_implies, false_implies, Int.reduceEq, Int.reduceNeg, Int.reduceLT, Int.reduceLE, Int.reduceAdd, Int.reduceSub, Int.reduceToNat, inL, a_iconst, a_lconst, a_iload, a_lload, a_aload, a_istore, a_lstore, a_astore, a_iinc, a_iadd, a_isub, a_imul, a_ladd, a_lsub, a_lmul, a_iand, a_ior, a_ixor, a_ishl, a_ishr, a_iushr, a_idiv, a_irem, a_ldiv, a_lrem, a_ineg, a_i2l, a_lcmp, a_dup, a_pop, a_dup2, a_goto, a_if_eq, a_icmp_eq, a_if_ne, a_icmp_ne, a_if_lt, a_icmp_lt, a_if_ge, a_icmp_ge, a_if_gt, a_icmp_gt, a_if_le, a_icmp_le, a_ifnonnull, a_fall, a_ifnull, a_lsw, a_iret, a_zret, a_lret, a_vret, a_getf, a_putf, a_iald, a_iast, a_alen, a_mmin, a_mmax, gI, sI, mS, mG, gBe, gCe, gTs, gKi, gFi, gBr, gPc, gMi, passG_0, passG_1, pr_eta, sub_nil, joi_nil, mO_len, xs_M, xj_M, mT_len, mO_0, mO_1, mO_2, mO_3, mO_4, mO_5, mO_6, mO_7, mOs_7, mO_8, mOs_8, mO_9, mO_10, mO_11, mO_12, mO_13, mOs_13, mO_14, mOs_14, mO_15, mOs_15, mO_16, mO_17, mOs_17, mO_18, mOs_18, mO_19, mOs_19, mO_20, mOs_20, mO_21, mOs_21, mO_22, mOs_22, mO_23, mO_24, mO_25, mO_26, mO_27, mOs_27, mO_28, mOs_28, mT_0, mTs_0, mT_1, mTs_1, mT_2, mTs_2, mT_3, mTs_3, mT_4, mTs_4, mT_5, mTs_5, mT_6, mTs_6, mT_7, mTs_7, mT_8, mTs_8, mT_9, mTs_9, mT_10, mTs_10, mT_11, mTs_11, mT_12, mTs_12, mT_13, mTs_13, mT_14, mTs_14, mT_15, mTs_15, List.length_set, hle, hl1, hl, u0, tX6_comes, kX6_comes_177, kX6_comes_157, kX6_comes_155, kX6_comes_110, kX6_comes_85, kX6_comes_79, kX6_comes_60, kX6_comes_0, bX6_comes_177, bX6_comes_157, bX6_comes_155, bX6_comes_110, bX6_comes_85, bX6_comes_79, bX6_comes_60, bX6_comes_0] | refine p_X6_comesMinutes (G := (be, ce, ts, ki, fi, br, pc, mi)) h2 hG0 ?_ ?_ ?_ ?_ | exact h ⟨by omega, by omega, by omega⟩ | exact h0 (by omega) | exact h0 (fun z => absurd (show _ ∧ _ from ⟨⟨by omega, by omega⟩, z.2.2⟩) hc) | exact absurd trivial hc | exact h)
