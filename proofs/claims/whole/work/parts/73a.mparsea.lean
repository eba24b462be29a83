/-! part:mparsea -/
/-! ===== the reference reads a mine ===== -/
theorem fit_y {vs : List Int} {sz a s i : Int} {k : Nat} (h : fitsP vs sz a i s) : fitF vs sz a s (k + 1) i = fitF vs sz a s k (i + 1) := by
  show findF _ (k + 1) i = _
  unfold findF
  rw [if_neg (fun z => (of_decide_eq_true z) h)]
  rfl
theorem fit_n {vs : List Int} {sz a s i : Int} {k : Nat} (h : ¬ fitsP vs sz a i s) : fitF vs sz a s (k + 1) i = i := by
  show findF _ (k + 1) i = _
  unfold findF
  rw [if_pos (decide_eq_true h)]
theorem fit_0 {vs : List Int} {sz a s i : Int} : fitF vs sz a s 0 i = -9 := rfl

theorem fit_5 {vs : List Int} {sz a : Int} (q : ¬ atN vs sz a = 112) : (¬ (48 ≤ atN vs sz (a + 1) ∧ atN vs sz (a + 1) ≤ 57) → fitF vs sz a 5 4 1 = 1) ∧ ((48 ≤ atN vs sz (a + 1) ∧ atN vs sz (a + 1) ≤ 57) → ¬ (48 ≤ atN vs sz (a + 1 + 1) ∧ atN vs sz (a + 1 + 1) ≤ 57) → fitF vs sz a 5 4 1 = 2) ∧ ((48 ≤ atN vs sz (a + 1) ∧ atN vs sz (a + 1) ≤ 57) → (48 ≤ atN vs sz (a + 1 + 1) ∧ atN vs sz (a + 1 + 1) ≤ 57) → ¬ (48 ≤ atN vs sz (a + 1 + 1 + 1) ∧ atN vs sz (a + 1 + 1 + 1) ≤ 57) → fitF vs sz a 5 4 1 = 3) ∧ ((48 ≤ atN vs sz (a + 1) ∧ atN vs sz (a + 1) ≤ 57) → (48 ≤ atN vs sz (a + 1 + 1) ∧ atN vs sz (a + 1 + 1) ≤ 57) → (48 ≤ atN vs sz (a + 1 + 1 + 1) ∧ atN vs sz (a + 1 + 1 + 1) ≤ 57) → ¬ (atN vs sz (a + 1 + 1 + 1 + 1) = 59) → fitF vs sz a 5 4 1 = 4) ∧ ((48 ≤ atN vs sz (a + 1) ∧ atN vs sz (a + 1) ≤ 57) → (48 ≤ atN vs sz (a + 1 + 1) ∧ atN vs sz (a + 1 + 1) ≤ 57) → (48 ≤ atN vs sz (a + 1 + 1 + 1) ∧ atN vs sz (a + 1 + 1 + 1) ≤ 57) → (atN vs sz (a + 1 + 1 + 1 + 1) = 59) → fitF vs sz a 5 4 1 = -9) := by
  have e1 : a + (1) = a + 1 := by omega
  have f1 : fitsP vs sz a (1) 5 ↔ (48 ≤ atN vs sz (a + 1) ∧ atN vs sz (a + 1) ≤ 57) := by
    unfold fitsP
    rw [e1]
    constructor
    · intro h
      omega
    · intro h
      omega
  have e2 : a + (1 + 1) = a + 1 + 1 := by omega
  have f2 : fitsP vs sz a (1 + 1) 5 ↔ (48 ≤ atN vs sz (a + 1 + 1) ∧ atN vs sz (a + 1 + 1) ≤ 57) := by
    unfold fitsP
    rw [e2]
    constructor
    · intro h
      omega
    · intro h
      omega
  have e3 : a + (1 + 1 + 1) = a + 1 + 1 + 1 := by omega
  have f3 : fitsP vs sz a (1 + 1 + 1) 5 ↔ (48 ≤ atN vs sz (a + 1 + 1 + 1) ∧ atN vs sz (a + 1 + 1 + 1) ≤ 57) := by
    unfold fitsP
    rw [e3]
    constructor
    · intro h
      omega
    · intro h
      omega
  have e4 : a + (1 + 1 + 1 + 1) = a + 1 + 1 + 1 + 1 := by omega
  have f4 : fitsP vs sz a (1 + 1 + 1 + 1) 5 ↔ (atN vs sz (a + 1 + 1 + 1 + 1) = 59) := by
    unfold fitsP
    rw [e4]
    constructor
    · intro h
      omega
    · intro h
      omega
  refine ⟨?_, ?_, ?_, ?_, ?_⟩
  · intro h1
    rw [fit_n (fun z => h1 (f1.mp z))]
    try rfl
  · intro h1 h2
    rw [fit_y (f1.mpr h1), fit_n (fun z => h2 (f2.mp z))]
    try rfl
  · intro h1 h2 h3
    rw [fit_y (f1.mpr h1), fit_y (f2.mpr h2), fit_n (fun z => h3 (f3.mp z))]
    try rfl
  · intro h1 h2 h3 h4
    rw [fit_y (f1.mpr h1), fit_y (f2.mpr h2), fit_y (f3.mpr h3), fit_n (fun z => h4 (f4.mp z))]
    try rfl
  · intro h1 h2 h3 h4
    rw [fit_y (f1.mpr h1), fit_y (f2.mpr h2), fit_y (f3.mpr h3), fit_y (f4.mpr h4), fit_0]

theorem fit_4 {vs : List Int} {sz a : Int} (q : ¬ atN vs sz a = 112) : (¬ (48 ≤ atN vs sz (a + 1) ∧ atN vs sz (a + 1) ≤ 57) → fitF vs sz a 4 3 1 = 1) ∧ ((48 ≤ atN vs sz (a + 1) ∧ atN vs sz (a + 1) ≤ 57) → ¬ (48 ≤ atN vs sz (a + 1 + 1) ∧ atN vs sz (a + 1 + 1) ≤ 57) → fitF vs sz a 4 3 1 = 2) ∧ ((48 ≤ atN vs sz (a + 1) ∧ atN vs sz (a + 1) ≤ 57) → (48 ≤ atN vs sz (a + 1 + 1) ∧ atN vs sz (a + 1 + 1) ≤ 57) → ¬ (atN vs sz (a + 1 + 1 + 1) = 59) → fitF vs sz a 4 3 1 = 3) ∧ ((48 ≤ atN vs sz (a + 1) ∧ atN vs sz (a + 1) ≤ 57) → (48 ≤ atN vs sz (a + 1 + 1) ∧ atN vs sz (a + 1 + 1) ≤ 57) → (atN vs sz (a + 1 + 1 + 1) = 59) → fitF vs sz a 4 3 1 = -9) := by
  have e1 : a + (1) = a + 1 := by omega
  have f1 : fitsP vs sz a (1) 4 ↔ (48 ≤ atN vs sz (a + 1) ∧ atN vs sz (a + 1) ≤ 57) := by
    unfold fitsP
    rw [e1]
    constructor
    · intro h
      omega
    · intro h
      omega
  have e2 : a + (1 + 1) = a + 1 + 1 := by omega
  have f2 : fitsP vs sz a (1 + 1) 4 ↔ (48 ≤ atN vs sz (a + 1 + 1) ∧ atN vs sz (a + 1 + 1) ≤ 57) := by
    unfold fitsP
    rw [e2]
    constructor
    · intro h
      omega
    · intro h
      omega
  have e3 : a + (1 + 1 + 1) = a + 1 + 1 + 1 := by omega
  have f3 : fitsP vs sz a (1 + 1 + 1) 4 ↔ (atN vs sz (a + 1 + 1 + 1) = 59) := by
    unfold fitsP
    rw [e3]
    constructor
    · intro h
      omega
    · intro h
      omega
  refine ⟨?_, ?_, ?_, ?_⟩
  · intro h1
    rw [fit_n (fun z => h1 (f1.mp z))]
    try rfl
  · intro h1 h2
    rw [fit_y (f1.mpr h1), fit_n (fun z => h2 (f2.mp z))]
    try rfl
  · intro h1 h2 h3
    rw [fit_y (f1.mpr h1), fit_y (f2.mpr h2), fit_n (fun z => h3 (f3.mp z))]
    try rfl
  · intro h1 h2 h3
    rw [fit_y (f1.mpr h1), fit_y (f2.mpr h2), fit_y (f3.mpr h3), fit_0]

theorem fit_6 {vs : List Int} {sz a : Int} (q : atN vs sz a = 112) : (¬ (0 ≤ letterK (atN vs sz (a + 1))) → fitF vs sz a 6 5 1 = 1) ∧ ((0 ≤ letterK (atN vs sz (a + 1))) → ¬ (48 ≤ atN vs sz (a + 1 + 1) ∧ atN vs sz (a + 1 + 1) ≤ 57) → fitF vs sz a 6 5 1 = 2) ∧ ((0 ≤ letterK (atN vs sz (a + 1))) → (48 ≤ atN vs sz (a + 1 + 1) ∧ atN vs sz (a + 1 + 1) ≤ 57) → ¬ (0 ≤ letterK (atN vs sz (a + 1 + 1 + 1))) → fitF vs sz a 6 5 1 = 3) ∧ ((0 ≤ letterK (atN vs sz (a + 1))) → (48 ≤ atN vs sz (a + 1 + 1) ∧ atN vs sz (a + 1 + 1) ≤ 57) → (0 ≤ letterK (atN vs sz (a + 1 + 1 + 1))) → ¬ (48 ≤ atN vs sz (a + 1 + 1 + 1 + 1) ∧ atN vs sz (a + 1 + 1 + 1 + 1) ≤ 57) → fitF vs sz a 6 5 1 = 4) ∧ ((0 ≤ letterK (atN vs sz (a + 1))) → (48 ≤ atN vs sz (a + 1 + 1) ∧ atN vs sz (a + 1 + 1) ≤ 57) → (0 ≤ letterK (atN vs sz (a + 1 + 1 + 1))) → (48 ≤ atN vs sz (a + 1 + 1 + 1 + 1) ∧ atN vs sz (a + 1 + 1 + 1 + 1) ≤ 57) → ¬ (atN vs sz (a + 1 + 1 + 1 + 1 + 1) = 59) → fitF vs sz a 6 5 1 = 5) ∧ ((0 ≤ letterK (atN vs sz (a + 1))) → (48 ≤ atN vs sz (a + 1 + 1) ∧ atN vs sz (a + 1 + 1) ≤ 57) → (0 ≤ letterK (atN vs sz (a + 1 + 1 + 1))) → (48 ≤ atN vs sz (a + 1 + 1 + 1 + 1) ∧ atN vs sz (a + 1 + 1 + 1 + 1) ≤ 57) → (atN vs sz (a + 1 + 1 + 1 + 1 + 1) = 59) → fitF vs sz a 6 5 1 = -9) := by
  have e1 : a + (1) = a + 1 := by omega
  have f1 : fitsP vs sz a (1) 6 ↔ (0 ≤ letterK (atN vs sz (a + 1))) := by
    unfold fitsP
    rw [e1]
    constructor
    · intro h
      omega
    · intro h
      omega
  have e2 : a + (1 + 1) = a + 1 + 1 := by omega
  have f2 : fitsP vs sz a (1 + 1) 6 ↔ (48 ≤ atN vs sz (a + 1 + 1) ∧ atN vs sz (a + 1 + 1) ≤ 57) := by
    unfold fitsP
    rw [e2]
    constructor
    · intro h
      omega
    · intro h
      omega
  have e3 : a + (1 + 1 + 1) = a + 1 + 1 + 1 := by omega
  have f3 : fitsP vs sz a (1 + 1 + 1) 6 ↔ (0 ≤ letterK (atN vs sz (a + 1 + 1 + 1))) := by
    unfold fitsP
    rw [e3]
    constructor
    · intro h
      omega
    · intro h
      omega
  have e4 : a + (1 + 1 + 1 + 1) = a + 1 + 1 + 1 + 1 := by omega
  have f4 : fitsP vs sz a (1 + 1 + 1 + 1) 6 ↔ (48 ≤ atN vs sz (a + 1 + 1 + 1 + 1) ∧ atN vs sz (a + 1 + 1 + 1 + 1) ≤ 57) := by
    unfold fitsP
    rw [e4]
    constructor
    · intro h
      omega
    · intro h
      omega
  have e5 : a + (1 + 1 + 1 + 1 + 1) = a + 1 + 1 + 1 + 1 + 1 := by omega
  have f5 : fitsP vs sz a (1 + 1 + 1 + 1 + 1) 6 ↔ (atN vs sz (a + 1 + 1 + 1 + 1 + 1) = 59) := by
    unfold fitsP
    rw [e5]
    constructor
    · intro h
      omega
    · intro h
      omega
  refine ⟨?_, ?_, ?_, ?_, ?_, ?_⟩
  · intro h1
    rw [fit_n (fun z => h1 (f1.mp z))]
    try rfl
  · intro h1 h2
    rw [fit_y (f1.mpr h1), fit_n (fun z => h2 (f2.mp z))]
    try rfl
  · intro h1 h2 h3
    rw [fit_y (f1.mpr h1), fit_y (f2.mpr h2), fit_n (fun z => h3 (f3.mp z))]
    try rfl
  · intro h1 h2 h3 h4
    rw [fit_y (f1.mpr h1), fit_y (f2.mpr h2), fit_y (f3.mpr h3), fit_n (fun z => h4 (f4.mp z))]
    try rfl
  · intro h1 h2 h3 h4 h5
    rw [fit_y (f1.mpr h1), fit_y (f2.mpr h2), fit_y (f3.mpr h3), fit_y (f4.mpr h4), fit_n (fun z => h5 (f5.mp z))]
    try rfl
  · intro h1 h2 h3 h4 h5
    rw [fit_y (f1.mpr h1), fit_y (f2.mpr h2), fit_y (f3.mpr h3), fit_y (f4.mpr h4), fit_y (f5.mpr h5), fit_0]

set_option maxRecDepth 20000 in set_option maxHeartbeats 1000000 in
theorem p_X6_readsDigits1 {Y : Nat → Nat} {rf be ki fi br ce ts tp le la td kp wk wn cs rw : List Int} {pc mi tn rd st hi kk cu co wi wg rn lo : Int} {Post : pR} {p : Int} (hz : 0 ≤ tn ∧ tn ≤ 96) (hv : tp.length = 96) (hb : bnd 0 255 tp) (hr : 0 ≤ rd ∧ rd ≤ 900) (hl : td.length = 192) (hp : 0 ≤ p ∧ p ≤ 191) (h : (48 ≤ (atN tp tn rd) ∧ (atN tp tn rd) ≤ 57) → ∀ v, v = (atN tp tn rd) - 48 → Post (some (vI 1)) (mS Y be ce ts ki fi br pc mi co wi wg kp kk cu tp le la (sI td p v) tn (rd + 1) st hi rw rn lo rf wk wn cs)) (h0 : ¬ (48 ≤ (atN tp tn rd) ∧ (atN tp tn rd) ≤ 57) → Post (some (vI 0)) (mS Y be ce ts ki fi br pc mi co wi wg kp kk cu tp le la td tn rd st hi rw rn lo rf wk wn cs)) : tX6_readsDigits [vR (Y 0), vI p, vI 1] (mS Y be ce ts ki fi br pc mi co wi wg kp kk cu tp le la td tn rd st hi rw rn lo rf wk wn cs) Post := by
  have b0 := atN_in hz hv hb rd
  have b1 := atN_in hz hv hb (rd + 1)
  refine pM_run 14 (by simp only [entL, List.length_cons, List.length_nil]; omega) (fun J => ?_)
  simp only [runG_p, runG_q, elem_n, elem_c, entN, entL_R, entL_L, entL_I, entL_N, List.replicate, List.append_nil, Bool.false_eq_true, Nat.succ_ne_self, nxt_e, seg_nil, sg_callv, sg_calls, kont_e, sg_iconst, sg_lconst, sg_iload, sg_lload, sg_aload, sg_istore, sg_lstore, sg_astore, sg_iinc, sg_iadd, sg_isub, sg_imul, sg_ladd, sg_lsub, sg_lmul, sg_iand, sg_ior, sg_ixor, sg_ishl, sg_ishr, sg_iushr, sg_idiv, sg_irem, sg_ldiv, sg_lrem, sg_ineg, sg_i2l, sg_lcmp, sg_dup, sg_pop, sg_dup2, sg_goto, sg_if_eq, sg_icmp_eq, sg_if_ne, sg_icmp_ne, sg_if_lt, sg_icmp_lt, sg_if_ge, sg_icmp_ge, sg_if_gt, sg_icmp_gt, sg_if_le, sg_icmp_le, sg_ifnonnull, sg_fall, sg_ifnull, sg_lsw, sg_iret, sg_zret, sg_lret, sg_vret, sg_getf, sg_putf, sg_iald, sg_iast, sg_alen, sg_mmin, sg_mmax, swc, psh, inr, rcv, isLg_R, isLg_L, isLg_I, isLg_N, isLg_0, List.getElem?_cons_zero, List.getElem?_cons_succ, List.set_cons_zero, List.set_cons_succ, List.length_cons, List.length_nil, List.take_succ_cons, List.take_zero, List.drop_succ_cons, List.drop_zero, List.reverse_cons, List.reverse_nil, List.nil_append, List.cons_append, List.filterMap_cons, List.filterMap_nil, Nat.reduceAdd, Nat.reduceSub, Nat.reduceLT, Nat.reduceLeDiff, Nat.reduceEqDiff, ↓reduceIte, true_and, and_true, false_or, or_false, true_or, or_true, inI, fitV, Option.some.injEq, not_true_eq_false, not_false_eq_true, true_implies, false_implies, Int.reduceEq, Int.reduceNeg, Int.reduceLT, Int.reduceLE, Int.reduceAdd, Int.reduceSub, Int.reduceToNat, inL, a_iconst, a_lconst, a_iload, a_lload, a_aload, a_istore, a_lstore, a_astore, a_iinc, a_iadd, a_isub, a_imul, a_ladd, a_lsub, a_lmul, a_iand, a_ior, a_ixor, a_ishl, a_ishr, a_iushr, a_idiv, a_irem, a_ldiv, a_lrem, a_ineg, a_i2l, a_lcmp, a_dup, a_pop, a_dup2, a_goto, a_if_eq, a_icmp_eq, a_if_ne, a_icmp_ne, a_if_lt, a_icmp_lt, a_if_ge, a_icmp_ge, a_if_gt, a_icmp_gt, a_if_le, a_icmp_le, a_ifnonnull, a_fall, a_ifnull, a_lsw, a_iret, a_zret, a_lret, a_vret, a_getf, a_putf, a_iald, a_iast, a_alen, a_mmin, a_mmax, gI, sI, mS, mG, gBe, gCe, gTs, gKi, gFi, gBr, gPc, gMi, passG_0, passG_1, pr_eta, sub_nil, joi_nil, mO_len, xs_M, xj_M, mT_len, mO_0, mO_1, mO_2, mO_3, mO_4, mO_5, mO_6, mO_7, mOs_7, mO_8, mOs_8, mO_9, mO_10, mO_11, mO_12, mO_13, mOs_13, mO_14, mOs_14, mO_15, mOs_15, mO_16, mO_17, mOs_17, mO_18, mOs_18, mO_19, mOs_19, mO_20, mOs_20, mO_21, mOs_21, mO_22, mOs_22, mO_23, mO_24, mO_25, mO_26, mO_27, mOs_27, mO_28, mOs_28, mT_0, mTs_0, mT_1, mTs_1, mT_2, mTs_2, mT_3, mTs_3, mT_4, mTs_4, mT_5, mTs_5, mT_6, mTs_6, mT_7, mTs_7, mT_8, mTs_8, mT_9, mTs_9, mT_10, mTs_10, mT_11, mTs_11, mT_12, mTs_12, mT_13, mTs_13, mT_14, mTs_14, mT_15, mTs_15, tX6_readsDigits, kX6_readsDigits_56, kX6_readsDigits_27, kX6_readsDigits_5, kX6_readsDigits_0, bX6_readsDigits_56, bX6_readsDigits_27, bX6_readsDigits_5, bX6_readsDigits_0]
  repeat' (first | omega | with_reducible exact h | with_reducible refine And.intro ?_ ?_ | with_reducible intro hc | simp only [runG_p, runG_q, elem_n, elem_c, entN, entL_R, entL_L, entL_I, entL_N, List.replicate, List.append_nil, Bool.false_eq_true, Nat.succ_ne_self, nxt_e, seg_nil, sg_callv, sg_calls, kont_e, sg_iconst, sg_lconst, sg_iload, sg_lload, sg_aload, sg_istore, sg_lstore, sg_astore, sg_iinc, sg_iadd, sg_isub, sg_imul, sg_ladd, sg_lsub, sg_lmul, sg_iand, sg_ior, sg_ixor, sg_ishl, sg_ishr, sg_iushr, sg_idiv, sg_irem, sg_ldiv, sg_lrem, sg_ineg, sg_i2l, sg_lcmp, sg_dup, sg_pop, sg_dup2, sg_goto, sg_if_eq, sg_icmp_eq, sg_if_ne, sg_icmp_ne, sg_if_lt, sg_icmp_lt, sg_if_ge, sg_icmp_ge, sg_if_gt, sg_icmp_gt, sg_if_le, sg_icmp_le, sg_ifnonnull, sg_fall, sg_ifnull, sg_lsw, sg_iret, sg_zret, sg_lret, sg_vret, sg_getf, sg_putf, sg_iald, sg_iast, sg_alen, sg_mmin, sg_mmax, swc, psh, inr, rcv, isLg_R, isLg_L, isLg_I, isLg_N, isLg_0, List.getElem?_cons_zero, List.getElem?_cons_succ, List.set_cons_zero, List.set_cons_succ, List.length_cons, List.length_nil, List.take_succ_cons, List.take_zero, List.drop_succ_cons, List.drop_zero, List.reverse_cons, List.reverse_nil, List.nil_append, List.cons_append, List.filterMap_cons, List.filterMap_nil, Nat.reduceAdd, Nat.reduceSub, Nat.reduceLT, Nat.reduceLeDiff, Nat.reduceEqDiff, ↓reduceIte, true_and, and_true, false_or, or_false, true_or, or_true, inI, fitV, Option.some.injEq, not_true_eq_false, not_false_eq_true, true_implies, false_implies, Int.reduceEq, Int.reduceNeg, Int.reduceLT, Int.reduceLE, Int.reduceAdd, Int.reduceSub, Int.reduceToNat, inL, a_iconst, a_lconst, a_iload, a_lload, a_aload, a_istore, a_lstore, a_astore, a_iinc, a_iadd, a_isub, a_imul, a_ladd, a_lsub, a_lmul, a_iand, a_ior, a_ixor, a_ishl, a_ishr, a_iushr, a_idiv, a_irem, a_ldiv, a_lrem, a_ineg, a_i2l, a_lcmp, a_dup, a_pop, a_dup2, a_goto, a_if_eq, a_icmp_eq, a_if_ne, a_icmp_ne, a_if_lt, a_icmp_lt, a_if_ge, a_icmp_ge, a_if_gt, a_icmp_gt, a_if_le, a_icmp_le, a_ifnonnull, a_fall, a_ifnull, a_lsw, a_iret, a_zret, a_lret, a_vret, a_getf, a_putf, a_iald, a_iast, a_alen, a_mmin, a_mmax, gI, sI, mS, mG, gBe, gCe, gTs, gKi, gFi, gBr, gPc, gMi, passG_0, passG_1, pr_eta, sub_nil, joi_nil, mO_len, xs_M, xj_M, mT_len, mO_0, mO_1, mO_2, mO_3, mO_4, mO_5, mO_6, mO_7, mOs_7, mO_8, mOs_8, mO_9, mO_10, mO_11, mO_12, mO_13, mOs_13, mO_14, mOs_14, mO_15, mOs_15, mO_16, mO_17, mOs_17, mO_18, mOs_18, mO_19, mOs_19, mO_20, mOs_20, mO_21, mOs_21, mO_22, mOs_22, mO_23, mO_24, mO_25, mO_26, mO_27, mOs_27, mO_28, mOs_28, mT_0, mTs_0, mT_1, mTs_1, mT_2, mTs_2, mT_3, mTs_3, mT_4, mTs_4, mT_5, mTs_5, mT_6, mTs_6, mT_7, mTs_7, mT_8, mTs_8, mT_9, mTs_9, mT_10, mTs_10, mT_11, mTs_11, mT_12, mTs_12, mT_13, mTs_13, mT_14, mTs_14, mT_15, mTs_15, List.length_set, hl, tX6_readsDigits, kX6_readsDigits_56, kX6_readsDigits_27, kX6_readsDigits_5, kX6_readsDigits_0, bX6_readsDigits_56, bX6_readsDigits_27, bX6_readsDigits_5, bX6_readsDigits_0] | refine p_X6_letterNow hz hv ?_ ?_ | refine p_X6_isIn ?_ ?_ ?_ ?_ ?_ | exact h ⟨by omega, by omega⟩ _ (by omega) | exact h0 (by omega) | exact absurd trivial hc | exact h)
set_option maxRecDepth 20000 in set_option maxHeartbeats 1000000 in
theorem p_X6_readsDigits2 {Y : Nat → Nat} {rf be ki fi br ce ts tp le la td kp wk wn cs rw : List Int} {pc mi tn rd st hi kk cu co wi wg rn lo : Int} {Post : pR} {p : Int} (hz : 0 ≤ tn ∧ tn ≤ 96) (hv : tp.length = 96) (hb : bnd 0 255 tp) (hr : 0 ≤ rd ∧ rd ≤ 900) (hl : td.length = 192) (hp : 0 ≤ p ∧ p ≤ 191) (h : (48 ≤ (atN tp tn rd) ∧ (atN tp tn rd) ≤ 57) → (48 ≤ (atN tp tn (rd + 1)) ∧ (atN tp tn (rd + 1)) ≤ 57) → ∀ v, v = 10 * ((atN tp tn rd) - 48) + ((atN tp tn (rd + 1)) - 48) → Post (some (vI 1)) (mS Y be ce ts ki fi br pc mi co wi wg kp kk cu tp le la (sI td p v) tn (rd + 1 + 1) st hi rw rn lo rf wk wn cs)) (h1 : (48 ≤ (atN tp tn rd) ∧ (atN tp tn rd) ≤ 57) → ¬ (48 ≤ (atN tp tn (rd + 1)) ∧ (atN tp tn (rd + 1)) ≤ 57) → Post (some (vI 0)) (mS Y be ce ts ki fi br pc mi co wi wg kp kk cu tp le la td tn (rd + 1) st hi rw rn lo rf wk wn cs)) (h0 : ¬ (48 ≤ (atN tp tn rd) ∧ (atN tp tn rd) ≤ 57) → Post (some (vI 0)) (mS Y be ce ts ki fi br pc mi co wi wg kp kk cu tp le la td tn rd st hi rw rn lo rf wk wn cs)) : tX6_readsDigits [vR (Y 0), vI p, vI 2] (mS Y be ce ts ki fi br pc mi co wi wg kp kk cu tp le la td tn rd st hi rw rn lo rf wk wn cs) Post := by
  have b0 := atN_in hz hv hb rd
  have b1 := atN_in hz hv hb (rd + 1)
  refine pM_run 14 (by simp only [entL, List.length_cons, List.length_nil]; omega) (fun J => ?_)
  simp only [runG_p, runG_q, elem_n, elem_c, entN, entL_R, entL_L, entL_I, entL_N, List.replicate, List.append_nil, Bool.false_eq_true, Nat.succ_ne_self, nxt_e, seg_nil, sg_callv, sg_calls, kont_e, sg_iconst, sg_lconst, sg_iload, sg_lload, sg_aload, sg_istore, sg_lstore, sg_astore, sg_iinc, sg_iadd, sg_isub, sg_imul, sg_ladd, sg_lsub, sg_lmul, sg_iand, sg_ior, sg_ixor, sg_ishl, sg_ishr, sg_iushr, sg_idiv, sg_irem, sg_ldiv, sg_lrem, sg_ineg, sg_i2l, sg_lcmp, sg_dup, sg_pop, sg_dup2, sg_goto, sg_if_eq, sg_icmp_eq, sg_if_ne, sg_icmp_ne, sg_if_lt, sg_icmp_lt, sg_if_ge, sg_icmp_ge, sg_if_gt, sg_icmp_gt, sg_if_le, sg_icmp_le, sg_ifnonnull, sg_fall, sg_ifnull, sg_lsw, sg_iret, sg_zret, sg_lret, sg_vret, sg_getf, sg_putf, sg_iald, sg_iast, sg_alen, sg_mmin, sg_mmax, swc, psh, inr, rcv, isLg_R, isLg_L, isLg_I, isLg_N, isLg_0, List.getElem?_cons_zero, List.getElem?_cons_succ, List.set_cons_zero, List.set_cons_succ, List.length_cons, List.length_nil, List.take_succ_cons, List.take_zero, List.drop_succ_cons, List.drop_zero, List.reverse_cons, List.reverse_nil, List.nil_append, List.cons_append, List.filterMap_cons, List.filterMap_nil, Nat.reduceAdd, Nat.reduceSub, Nat.reduceLT, Nat.reduceLeDiff, Nat.reduceEqDiff, ↓reduceIte, true_and, and_true, false_or, or_false, true_or, or_true, inI, fitV, Option.some.injEq, not_true_eq_false, not_false_eq_true, true_implies, false_implies, Int.reduceEq, Int.reduceNeg, Int.reduceLT, Int.reduceLE, Int.reduceAdd, Int.reduceSub, Int.reduceToNat, inL, a_iconst, a_lconst, a_iload, a_lload, a_aload, a_istore, a_lstore, a_astore, a_iinc, a_iadd, a_isub, a_imul, a_ladd, a_lsub, a_lmul, a_iand, a_ior, a_ixor, a_ishl, a_ishr, a_iushr, a_idiv, a_irem, a_ldiv, a_lrem, a_ineg, a_i2l, a_lcmp, a_dup, a_pop, a_dup2, a_goto, a_if_eq, a_icmp_eq, a_if_ne, a_icmp_ne, a_if_lt, a_icmp_lt, a_if_ge, a_icmp_ge, a_if_gt, a_icmp_gt, a_if_le, a_icmp_le, a_ifnonnull, a_fall, a_ifnull, a_lsw, a_iret, a_zret, a_lret, a_vret, a_getf, a_putf, a_iald, a_iast, a_alen, a_mmin, a_mmax, gI, sI, mS, mG, gBe, gCe, gTs, gKi, gFi, gBr, gPc, gMi, passG_0, passG_1, pr_eta, sub_nil, joi_nil, mO_len, xs_M, xj_M, mT_len, mO_0, mO_1, mO_2, mO_3, mO_4, mO_5, mO_6, mO_7, mOs_7, mO_8, mOs_8, mO_9, mO_10, mO_11, mO_12, mO_13, mOs_13, mO_14, mOs_14, mO_15, mOs_15, mO_16, mO_17, mOs_17, mO_18, mOs_18, mO_19, mOs_19, mO_20, mOs_20, mO_21, mOs_21, mO_22, mOs_22, mO_23, mO_24, mO_25, mO_26, mO_27, mOs_27, mO_28, mOs_28, mT_0, mTs_0, mT_1, mTs_1, mT_2, mTs_2, mT_3, mTs_3, mT_4, mTs_4, mT_5, mTs_5, mT_6, mTs_6, mT_7, mTs_7, mT_8, mTs_8, mT_9, mTs_9, mT_10, mTs_10, mT_11, mTs_11, mT_12, mTs_12, mT_13, mTs_13, mT_14, mTs_14, mT_15, mTs_15, tX6_readsDigits, kX6_readsDigits_56, kX6_readsDigits_27, kX6_readsDigits_5, kX6_readsDigits_0, bX6_readsDigits_56, bX6_readsDigits_27, bX6_readsDigits_5, bX6_readsDigits_0]
  repeat' (first | omega | with_reducible exact h | with_reducible refine And.intro ?_ ?_ | with_reducible intro hc | simp only [runG_p, runG_q, elem_n, elem_c, entN, entL_R, entL_L, entL_I, entL_N, List.replicate, List.append_nil, Bool.false_eq_true, Nat.succ_ne_self, nxt_e, seg_nil, sg_callv, sg_calls, kont_e, sg_iconst, sg_lconst, sg_iload, sg_lload, sg_aload, sg_istore, sg_lstore, sg_astore, sg_iinc, sg_iadd, sg_isub, sg_imul, sg_ladd, sg_lsub, sg_lmul, sg_iand, sg_ior, sg_ixor, sg_ishl, sg_ishr, sg_iushr, sg_idiv, sg_irem, sg_ldiv, sg_lrem, sg_ineg, sg_i2l, sg_lcmp, sg_dup, sg_pop, sg_dup2, sg_goto, sg_if_eq, sg_icmp_eq, sg_if_ne, sg_icmp_ne, sg_if_lt, sg_icmp_lt, sg_if_ge, sg_icmp_ge, sg_if_gt, sg_icmp_gt, sg_if_le, sg_icmp_le, sg_ifnonnull, sg_fall, sg_ifnull, sg_lsw, sg_iret, sg_zret, sg_lret, sg_vret, sg_getf, sg_putf, sg_iald, sg_iast, sg_alen, sg_mmin, sg_mmax, swc, psh, inr, rcv, isLg_R, isLg_L, isLg_I, isLg_N, isLg_0, List.getElem?_cons_zero, List.getElem?_cons_succ, List.set_cons_zero, List.set_cons_succ, List.length_cons, List.length_nil, List.take_succ_cons, List.take_zero, List.drop_succ_cons, List.drop_zero, List.reverse_cons, List.reverse_nil, List.nil_append, List.cons_append, List.filterMap_cons, List.filterMap_nil, Nat.reduceAdd, Nat.reduceSub, Nat.reduceLT, Nat.reduceLeDiff, Nat.reduceEqDiff, ↓reduceIte, true_and, and_true, false_or, or_false, true_or, or_true, inI, fitV, Option.some.injEq, not_true_eq_false, not_false_eq_true, true_implies, false_implies, Int.reduceEq, Int.reduceNeg, Int.reduceLT, Int.reduceLE, Int.reduceAdd, Int.reduceSub, Int.reduceToNat, inL, a_iconst, a_lconst, a_iload, a_lload, a_aload, a_istore, a_lstore, a_astore, a_iinc, a_iadd, a_isub, a_imul, a_ladd, a_lsub, a_lmul, a_iand, a_ior, a_ixor, a_ishl, a_ishr, a_iushr, a_idiv, a_irem, a_ldiv, a_lrem, a_ineg, a_i2l, a_lcmp, a_dup, a_pop, a_dup2, a_goto, a_if_eq, a_icmp_eq, a_if_ne, a_icmp_ne, a_if_lt, a_icmp_lt, a_if_ge, a_icmp_ge, a_if_gt, a_icmp_gt, a_if_le, a_icmp_le, a_ifnonnull, a_fall, a_ifnull, a_lsw, a_iret, a_zret, a_lret, a_vret, a_getf, a_putf, a_iald, a_iast, a_alen, a_mmin, a_mmax, gI, sI, mS, mG, gBe, gCe, gTs, gKi, gFi, gBr, gPc, gMi, passG_0, passG_1, pr_eta, sub_nil, joi_nil, mO_len, xs_M, xj_M, mT_len, mO_0, mO_1, mO_2, mO_3, mO_4, mO_5, mO_6, mO_7, mOs_7, mO_8, mOs_8, mO_9, mO_10, mO_11, mO_12, mO_13, mOs_13, mO_14, mOs_14, mO_15, mOs_15, mO_16, mO_17, mOs_17, mO_18, mOs_18, mO_19, mOs_19, mO_20, mOs_20, mO_21, mOs_21, mO_22, mOs_22, mO_23, mO_24, mO_25, mO_26, mO_27, mOs_27, mO_28, mOs_28, mT_0, mTs_0, mT_1, mTs_1, mT_2, mTs_2, mT_3, mTs_3, mT_4, mTs_4, mT_5, mTs_5, mT_6, mTs_6, mT_7, mTs_7, mT_8, mTs_8, mT_9, mTs_9, mT_10, mTs_10, mT_11, mTs_11, mT_12, mTs_12, mT_13, mTs_13, mT_14, mTs_14, mT_15, mTs_15, List.length_set, hl, tX6_readsDigits, kX6_readsDigits_56, kX6_readsDigits_27, kX6_readsDigits_5, kX6_readsDigits_0, bX6_readsDigits_56, bX6_readsDigits_27, bX6_readsDigits_5, bX6_readsDigits_0] | refine p_X6_letterNow hz hv ?_ ?_ | refine p_X6_isIn ?_ ?_ ?_ ?_ ?_ | exact h ⟨by omega, by omega⟩ ⟨by omega, by omega⟩ _ (by omega) | exact h1 ⟨by omega, by omega⟩ (by omega) | exact h0 (by omega) | exact absurd trivial hc | exact h)

set_option maxRecDepth 20000 in set_option maxHeartbeats 1000000 in
theorem p_X6_readsMiner {Y : Nat → Nat} {rf be ki fi br ce ts tp le la td kp wk wn cs rw : List Int} {pc mi tn rd st hi kk cu co wi wg rn lo : Int} {Post : pR} {p : Int} (hz : 0 ≤ tn ∧ tn ≤ 96) (hv : tp.length = 96) (hb : bnd 0 255 tp) (hr : 0 ≤ rd ∧ rd ≤ 890) (hl : td.length = 192) (hp : 0 ≤ p ∧ p ≤ 190) (h : (0 ≤ letterK (atN tp tn rd)) → (48 ≤ (atN tp tn (rd + 1)) ∧ (atN tp tn (rd + 1)) ≤ 57) → ∀ v w, v = letterK (atN tp tn rd) → w = (atN tp tn (rd + 1)) - 48 → Post (some (vI 1)) (mS Y be ce ts ki fi br pc mi co wi wg kp kk cu tp le la (sI (sI td p v) (p + 1) w) tn (rd + 1 + 1) st hi rw rn lo rf wk wn cs)) (h1 : (0 ≤ letterK (atN tp tn rd)) → ¬ (48 ≤ (atN tp tn (rd + 1)) ∧ (atN tp tn (rd + 1)) ≤ 57) → ∀ v, Post (some (vI 0)) (mS Y be ce ts ki fi br pc mi co wi wg kp kk cu tp le la (sI td p v) tn (rd + 1) st hi rw rn lo rf wk wn cs)) (h0 : ¬ (0 ≤ letterK (atN tp tn rd)) → ∀ v, Post (some (vI 0)) (mS Y be ce ts ki fi br pc mi co wi wg kp kk cu tp le la (sI td p v) tn rd st hi rw rn lo rf wk wn cs)) : tX6_readsMiner [vR (Y 0), vI p] (mS Y be ce ts ki fi br pc mi co wi wg kp kk cu tp le la td tn rd st hi rw rn lo rf wk wn cs) Post := by
  have b0 := atN_in hz hv hb rd
  have b1 := atN_in hz hv hb (rd + 1)
  have k0 := letterK_in (atN tp tn rd)
  have e9 : ∀ v : Int, gI (sI td p v) p = v := fun v => gI_s (by omega) (by omega)
  simp only [gI, sI] at *
  refine pM_run 8 (by simp only [entL, List.length_cons, List.length_nil]; omega) (fun J => ?_)
  simp only [runG_p, runG_q, elem_n, elem_c, entN, entL_R, entL_L, entL_I, entL_N, List.replicate, List.append_nil, Bool.false_eq_true, Nat.succ_ne_self, nxt_e, seg_nil, sg_callv, sg_calls, kont_e, sg_iconst, sg_lconst, sg_iload, sg_lload, sg_aload, sg_istore, sg_lstore, sg_astore, sg_iinc, sg_iadd, sg_isub, sg_imul, sg_ladd, sg_lsub, sg_lmul, sg_iand, sg_ior, sg_ixor, sg_ishl, sg_ishr, sg_iushr, sg_idiv, sg_irem, sg_ldiv, sg_lrem, sg_ineg, sg_i2l, sg_lcmp, sg_dup, sg_pop, sg_dup2, sg_goto, sg_if_eq, sg_icmp_eq, sg_if_ne, sg_icmp_ne, sg_if_lt, sg_icmp_lt, sg_if_ge, sg_icmp_ge, sg_if_gt, sg_icmp_gt, sg_if_le, sg_icmp_le, sg_ifnonnull, sg_fall, sg_ifnull, sg_lsw, sg_iret, sg_zret, sg_lret, sg_vret, sg_getf, sg_putf, sg_iald, sg_iast, sg_alen, sg_mmin, sg_mmax, swc, psh, inr, rcv, isLg_R, isLg_L, isLg_I, isLg_N, isLg_0, List.getElem?_cons_zero, List.getElem?_cons_succ, List.set_cons_zero, List.set_cons_succ, List.length_cons, List.length_nil, List.take_succ_cons, List.take_zero, List.drop_succ_cons, List.drop_zero, List.reverse_cons, List.reverse_nil, List.nil_append, List.cons_append, List.filterMap_cons, List.filterMap_nil, Nat.reduceAdd, Nat.reduceSub, Nat.reduceLT, Nat.reduceLeDiff, Nat.reduceEqDiff, ↓reduceIte, true_and, and_true, false_or, or_false, true_or, or_true, inI, fitV, Option.some.injEq, not_true_eq_false, not_false_eq_true, true_implies, false_implies, Int.reduceEq, Int.reduceNeg, Int.reduceLT, Int.reduceLE, Int.reduceAdd, Int.reduceSub, Int.reduceToNat, inL, a_iconst, a_lconst, a_iload, a_lload, a_aload, a_istore, a_lstore, a_astore, a_iinc, a_iadd, a_isub, a_imul, a_ladd, a_lsub, a_lmul, a_iand, a_ior, a_ixor, a_ishl, a_ishr, a_iushr, a_idiv, a_irem, a_ldiv, a_lrem, a_ineg, a_i2l, a_lcmp, a_dup, a_pop, a_dup2, a_goto, a_if_eq, a_icmp_eq, a_if_ne, a_icmp_ne, a_if_lt, a_icmp_lt, a_if_ge, a_icmp_ge, a_if_gt, a_icmp_gt, a_if_le, a_icmp_le, a_ifnonnull, a_fall, a_ifnull, a_lsw, a_iret, a_zret, a_lret, a_vret, a_getf, a_putf, a_iald, a_iast, a_alen, a_mmin, a_mmax, gI, sI, mS, mG, gBe, gCe, gTs, gKi, gFi, gBr, gPc, gMi, passG_0, passG_1, pr_eta, sub_nil, joi_nil, mO_len, xs_M, xj_M, mT_len, mO_0, mO_1, mO_2, mO_3, mO_4, mO_5, mO_6, mO_7, mOs_7, mO_8, mOs_8, mO_9, mO_10, mO_11, mO_12, mO_13, mOs_13, mO_14, mOs_14, mO_15, mOs_15, mO_16, mO_17, mOs_17, mO_18, mOs_18, mO_19, mOs_19, mO_20, mOs_20, mO_21, mOs_21, mO_22, mOs_22, mO_23, mO_24, mO_25, mO_26, mO_27, mOs_27, mO_28, mOs_28, mT_0, mTs_0, mT_1, mTs_1, mT_2, mTs_2, mT_3, mTs_3, mT_4, mTs_4, mT_5, mTs_5, mT_6, mTs_6, mT_7, mTs_7, mT_8, mTs_8, mT_9, mTs_9, mT_10, mTs_10, mT_11, mTs_11, mT_12, mTs_12, mT_13, mTs_13, mT_14, mTs_14, mT_15, mTs_15, tX6_readsMiner, kX6_readsMiner_24, kX6_readsMiner_0, bX6_readsMiner_24, bX6_readsMiner_0]
  repeat' (first | omega | with_reducible exact h | with_reducible refine And.intro ?_ ?_ | with_reducible intro hc | simp only [runG_p, runG_q, elem_n, elem_c, entN, entL_R, entL_L, entL_I, entL_N, List.replicate, List.append_nil, Bool.false_eq_true, Nat.succ_ne_self, nxt_e, seg_nil, sg_callv, sg_calls, kont_e, sg_iconst, sg_lconst, sg_iload, sg_lload, sg_aload, sg_istore, sg_lstore, sg_astore, sg_iinc, sg_iadd, sg_isub, sg_imul, sg_ladd, sg_lsub, sg_lmul, sg_iand, sg_ior, sg_ixor, sg_ishl, sg_ishr, sg_iushr, sg_idiv, sg_irem, sg_ldiv, sg_lrem, sg_ineg, sg_i2l, sg_lcmp, sg_dup, sg_pop, sg_dup2, sg_goto, sg_if_eq, sg_icmp_eq, sg_if_ne, sg_icmp_ne, sg_if_lt, sg_icmp_lt, sg_if_ge, sg_icmp_ge, sg_if_gt, sg_icmp_gt, sg_if_le, sg_icmp_le, sg_ifnonnull, sg_fall, sg_ifnull, sg_lsw, sg_iret, sg_zret, sg_lret, sg_vret, sg_getf, sg_putf, sg_iald, sg_iast, sg_alen, sg_mmin, sg_mmax, swc, psh, inr, rcv, isLg_R, isLg_L, isLg_I, isLg_N, isLg_0, List.getElem?_cons_zero, List.getElem?_cons_succ, List.set_cons_zero, List.set_cons_succ, List.length_cons, List.length_nil, List.take_succ_cons, List.take_zero, List.drop_succ_cons, List.drop_zero, List.reverse_cons, List.reverse_nil, List.nil_append, List.cons_append, List.filterMap_cons, List.filterMap_nil, Nat.reduceAdd, Nat.reduceSub, Nat.reduceLT, Nat.reduceLeDiff, Nat.reduceEqDiff, ↓reduceIte, true_and, and_true, false_or, or_false, true_or, or_true, inI, fitV, Option.some.injEq, not_true_eq_false, not_false_eq_true, true_implies, false_implies, Int.reduceEq, Int.reduceNeg, Int.reduceLT, Int.reduceLE, Int.reduceAdd, Int.reduceSub, Int.reduceToNat, inL, a_iconst, a_lconst, a_iload, a_lload, a_aload, a_istore, a_lstore, a_astore, a_iinc, a_iadd, a_isub, a_imul, a_ladd, a_lsub, a_lmul, a_iand, a_ior, a_ixor, a_ishl, a_ishr, a_iushr, a_idiv, a_irem, a_ldiv, a_lrem, a_ineg, a_i2l, a_lcmp, a_dup, a_pop, a_dup2, a_goto, a_if_eq, a_icmp_eq, a_if_ne, a_icmp_ne, a_if_lt, a_icmp_lt, a_if_ge, a_icmp_ge, a_if_gt, a_icmp_gt, a_if_le, a_icmp_le, a_ifnonnull, a_fall, a_ifnull, a_lsw, a_iret, a_zret, a_lret, a_vret, a_getf, a_putf, a_iald, a_iast, a_alen, a_mmin, a_mmax, gI, sI, mS, mG, gBe, gCe, gTs, gKi, gFi, gBr, gPc, gMi, passG_0, passG_1, pr_eta, sub_nil, joi_nil, mO_len, xs_M, xj_M, mT_len, mO_0, mO_1, mO_2, mO_3, mO_4, mO_5, mO_6, mO_7, mOs_7, mO_8, mOs_8, mO_9, mO_10, mO_11, mO_12, mO_13, mOs_13, mO_14, mOs_14, mO_15, mOs_15, mO_16, mO_17, mOs_17, mO_18, mOs_18, mO_19, mOs_19, mO_20, mOs_20, mO_21, mOs_21, mO_22, mOs_22, mO_23, mO_24, mO_25, mO_26, mO_27, mOs_27, mO_28, mOs_28, mT_0, mTs_0, mT_1, mTs_1, mT_2, mTs_2, mT_3, mTs_3, mT_4, mTs_4, mT_5, mTs_5, mT_6, mTs_6, mT_7, mTs_7, mT_8, mTs_8, mT_9, mTs_9, mT_10, mTs_10, mT_11, mTs_11, mT_12, mTs_12, mT_13, mTs_13, mT_14, mTs_14, mT_15, mTs_15, List.length_set, hl, e9, tX6_readsMiner, kX6_readsMiner_24, kX6_readsMiner_0, bX6_readsMiner_24, bX6_readsMiner_0] | refine p_X6_letterNow hz hv ?_ ?_ | refine p_X6_kindOf ?_ ?_ | refine p_X6_readsDigits1 hz hv hb ?_ ?_ ?_ ?_ ?_ | exact h (by omega) ⟨by omega, by omega⟩ _ _ rfl (by assumption) | exact h1 (by omega) (by omega) _ | exact h0 (by omega) _ | exact absurd trivial hc | exact h)
