theorem dX5_refused_0 : decode cX5_refused 0 = .ok (.iload_n 1, 1) := by decide +kernel
theorem dX5_refused_1 : decode cX5_refused 1 = .ok (.ineg, 1) := by decide +kernel
theorem dX5_refused_2 : decode cX5_refused 2 = .ok (.istore_n 2, 1) := by decide +kernel
theorem dX5_refused_3 : decode cX5_refused 3 = .ok (.iload_n 2, 1) := by decide +kernel
theorem dX5_refused_4 : decode cX5_refused 4 = .ok (.ifCond .lt 22, 3) := by decide +kernel
theorem dX5_refused_7 : decode cX5_refused 7 = .ok (.iload_n 2, 1) := by decide +kernel
theorem dX5_refused_8 : decode cX5_refused 8 = .ok (.aload_n 0, 1) := by decide +kernel
theorem dX5_refused_9 : decode cX5_refused 9 = .ok (.getfield 40, 3) := by decide +kernel
theorem dX5_refused_12 : decode cX5_refused 12 = .ok (.arraylength, 1) := by decide +kernel
theorem dX5_refused_13 : decode cX5_refused 13 = .ok (.if_icmp .ge 13, 3) := by decide +kernel
theorem dX5_refused_16 : decode cX5_refused 16 = .ok (.aload_n 0, 1) := by decide +kernel
theorem dX5_refused_17 : decode cX5_refused 17 = .ok (.getfield 40, 3) := by decide +kernel
theorem dX5_refused_20 : decode cX5_refused 20 = .ok (.iload_n 2, 1) := by decide +kernel
theorem dX5_refused_21 : decode cX5_refused 21 = .ok (.dup2, 1) := by decide +kernel
theorem dX5_refused_22 : decode cX5_refused 22 = .ok (.iaload, 1) := by decide +kernel
theorem dX5_refused_23 : decode cX5_refused 23 = .ok (.iconst 1, 1) := by decide +kernel
theorem dX5_refused_24 : decode cX5_refused 24 = .ok (.iadd, 1) := by decide +kernel
theorem dX5_refused_25 : decode cX5_refused 25 = .ok (.iastore, 1) := by decide +kernel
theorem dX5_refused_26 : decode cX5_refused 26 = .ok (.iload_n 1, 1) := by decide +kernel
theorem dX5_refused_27 : decode cX5_refused 27 = .ok (.ireturn, 1) := by decide +kernel
def rmX5_refused : Room := { frames := 0, cells := 0, slots := 0, locals := 0 }
abbrev wsX5_refused : List Cond := .code yX5_refused cX5_refused 3 (some .int) :: gw_tbl
def kX5_refused_26 : pProg := (26, 1, a_iload 1) :: (27, 1, a_iret) :: []
def kX5_refused_0 : pProg := (0, 1, a_iload 1) :: (1, 1, a_ineg) :: (2, 1, a_istore 2) :: (3, 1, a_iload 2) :: (4, 3, a_if_lt 26) :: (7, 1, a_iload 2) :: (8, 1, a_aload 0) :: (9, 3, a_getf 0 3 6) :: (12, 1, a_alen 28) :: (13, 3, a_icmp_ge 26) :: (16, 1, a_aload 0) :: (17, 3, a_getf 0 3 6) :: (20, 1, a_iload 2) :: (21, 1, a_dup2) :: (22, 1, a_iald 28) :: (23, 1, a_iconst 1) :: (24, 1, a_iadd) :: (25, 1, a_iast 28) :: (26, 0, a_fall 26) :: []
set_option maxRecDepth 100000 in
theorem sX5_refused_26 (l : Launch) : AllS (pSnd l rmX5_refused yX5_refused.cls cX5_refused wsX5_refused 3 (some .int)) 26 kX5_refused_26 :=
  alls _ (s_iload_n rfl dX5_refused_26) <|
  alls _ (s_iret dX5_refused_27) <|
  alls_nil _
set_option maxRecDepth 100000 in
theorem sX5_refused_0 (l : Launch) : AllS (pSnd l rmX5_refused yX5_refused.cls cX5_refused wsX5_refused 3 (some .int)) 0 kX5_refused_0 :=
  alls _ (s_iload_n rfl dX5_refused_0) <|
  alls _ (s_ineg dX5_refused_1) <|
  alls _ (s_istore_n rfl dX5_refused_2) <|
  alls _ (s_iload_n rfl dX5_refused_3) <|
  alls _ (s_if_lt (by decide) dX5_refused_4) <|
  alls _ (s_iload_n rfl dX5_refused_7) <|
  alls _ (s_aload_n rfl dX5_refused_8) <|
  alls _ (s_getf (C := RX5) (T := TX5) (N := 7) rfl (in_c inX5) (by decide) (List.mem_cons_of_mem _ wd_149) rfl dX5_refused_9) <|
  alls _ (s_alen dX5_refused_12) <|
  alls _ (s_icmp_ge (by decide) dX5_refused_13) <|
  alls _ (s_aload_n rfl dX5_refused_16) <|
  alls _ (s_getf (C := RX5) (T := TX5) (N := 7) rfl (in_c inX5) (by decide) (List.mem_cons_of_mem _ wd_149) rfl dX5_refused_17) <|
  alls _ (s_iload_n rfl dX5_refused_20) <|
  alls _ (s_dup2 dX5_refused_21) <|
  alls _ (s_iald dX5_refused_22) <|
  alls _ (s_iconst dX5_refused_23) <|
  alls _ (s_iadd dX5_refused_24) <|
  alls _ (s_iast dX5_refused_25) <|
  alls _ s_fall (alls_nil _)
def KX5_refused : List (Nat × pProg) := [(0, kX5_refused_0), (26, kX5_refused_26)]
theorem bX5_refused_0 : blkOf KX5_refused 0 = some kX5_refused_0 := rfl
theorem bX5_refused_26 : blkOf KX5_refused 26 = some kX5_refused_26 := rfl
def tX5_refused : pT := pM KX5_refused 3
theorem ct_X5_refused (l : Launch) : pCtr l yX5_refused wsX5_refused rmX5_refused 2 tX5_refused := ctr_of (by decide +kernel) rfl (List.forall_mem_cons.mpr ⟨sX5_refused_0 l, List.forall_mem_cons.mpr ⟨sX5_refused_26 l, fun _ h => absurd h List.not_mem_nil⟩⟩)
theorem dX5_letter_0 : decode cX5_letter 0 = .ok (.iload_n 1, 1) := by decide +kernel
theorem dX5_letter_1 : decode cX5_letter 1 = .ok (.ifCond .ge 10, 3) := by decide +kernel
theorem dX5_letter_4 : decode cX5_letter 4 = .ok (.aload_n 0, 1) := by decide +kernel
theorem dX5_letter_5 : decode cX5_letter 5 = .ok (.bipush (-4), 2) := by decide +kernel
theorem dX5_letter_7 : decode cX5_letter 7 = .ok (.invokevirtual 44, 3) := by decide +kernel
theorem dX5_letter_10 : decode cX5_letter 10 = .ok (.ireturn, 1) := by decide +kernel
theorem dX5_letter_11 : decode cX5_letter 11 = .ok (.iload_n 1, 1) := by decide +kernel
theorem dX5_letter_12 : decode cX5_letter 12 = .ok (.sipush 255, 3) := by decide +kernel
theorem dX5_letter_15 : decode cX5_letter 15 = .ok (.if_icmp .gt 13, 3) := by decide +kernel
theorem dX5_letter_18 : decode cX5_letter 18 = .ok (.aload_n 0, 1) := by decide +kernel
theorem dX5_letter_19 : decode cX5_letter 19 = .ok (.getfield 33, 3) := by decide +kernel
theorem dX5_letter_22 : decode cX5_letter 22 = .ok (.invokevirtual 48, 3) := by decide +kernel
theorem dX5_letter_25 : decode cX5_letter 25 = .ok (.ifCond .eq 10, 3) := by decide +kernel
theorem dX5_letter_28 : decode cX5_letter 28 = .ok (.aload_n 0, 1) := by decide +kernel
theorem dX5_letter_29 : decode cX5_letter 29 = .ok (.bipush (-6), 2) := by decide +kernel
theorem dX5_letter_31 : decode cX5_letter 31 = .ok (.invokevirtual 44, 3) := by decide +kernel
theorem dX5_letter_34 : decode cX5_letter 34 = .ok (.ireturn, 1) := by decide +kernel
theorem dX5_letter_35 : decode cX5_letter 35 = .ok (.aload_n 0, 1) := by decide +kernel
theorem dX5_letter_36 : decode cX5_letter 36 = .ok (.getfield 33, 3) := by decide +kernel
theorem dX5_letter_39 : decode cX5_letter 39 = .ok (.iload_n 1, 1) := by decide +kernel
theorem dX5_letter_40 : decode cX5_letter 40 = .ok (.invokevirtual 52, 3) := by decide +kernel
theorem dX5_letter_43 : decode cX5_letter 43 = .ok (.ireturn, 1) := by decide +kernel
def rmX5_letter : Room := { frames := 1, cells := 0, slots := 0, locals := 22 }
abbrev wsX5_letter : List Cond := .code yX5_letter cX5_letter 2 (some .int) :: gw_tbl
def kX5_letter_35 : pProg := (35, 1, a_aload 0) :: (36, 3, a_getf 0 3 4) :: (39, 1, a_iload 1) :: (40, 3, a_callv 2 1 [24, 25] tX2_add) :: (43, 1, a_iret) :: []
def kX5_letter_28 : pProg := (28, 1, a_aload 0) :: (29, 2, a_iconst (-6)) :: (31, 3, a_callv 2 3 [0, 1, 2, 3, 4, 5, 6, 7, 8, 9, 10, 11, 12, 13, 14, 15, 16, 17, 18, 19, 20, 21, 22, 23, 24, 25, 26, 27, 28] tX5_refused) :: (34, 1, a_iret) :: []
def kX5_letter_11 : pProg := (11, 1, a_iload 1) :: (12, 3, a_iconst 255) :: (15, 3, a_icmp_gt 28) :: (18, 1, a_aload 0) :: (19, 3, a_getf 0 3 4) :: (22, 3, a_callv 1 1 [24, 25] tX2_isFull) :: (25, 3, a_if_eq 35) :: (28, 0, a_fall 28) :: []
def kX5_letter_0 : pProg := (0, 1, a_iload 1) :: (1, 3, a_if_ge 11) :: (4, 1, a_aload 0) :: (5, 2, a_iconst (-4)) :: (7, 3, a_callv 2 3 [0, 1, 2, 3, 4, 5, 6, 7, 8, 9, 10, 11, 12, 13, 14, 15, 16, 17, 18, 19, 20, 21, 22, 23, 24, 25, 26, 27, 28] tX5_refused) :: (10, 1, a_iret) :: []
set_option maxRecDepth 100000 in
theorem sX5_letter_35 (l : Launch) : AllS (pSnd l rmX5_letter yX5_letter.cls cX5_letter wsX5_letter 2 (some .int)) 35 kX5_letter_35 :=
  alls _ (s_aload_n rfl dX5_letter_35) <|
  alls _ (s_getf (C := RX5) (T := TX5) (N := 7) rfl (in_c inX5) (by decide) (List.mem_cons_of_mem _ wd_147) rfl dX5_letter_36) <|
  alls _ (s_iload_n rfl dX5_letter_39) <|
  alls _ (s_callv (ct_X2_add l) rfl rfl rfl (gdV wd_177 wd_178 wd_179 wd_63 wd_180) rfl rfl (by decide +kernel) ⟨Nat.le_of_ble_eq_true rfl, Nat.le_of_ble_eq_true rfl⟩ dX5_letter_40) <|
  alls _ (s_iret dX5_letter_43) <|
  alls_nil _
set_option maxRecDepth 100000 in
theorem sX5_letter_28 (l : Launch) : AllS (pSnd l rmX5_letter yX5_letter.cls cX5_letter wsX5_letter 2 (some .int)) 28 kX5_letter_28 :=
  alls _ (s_aload_n rfl dX5_letter_28) <|
  alls _ (s_bipush (by decide) dX5_letter_29) <|
  alls _ (s_callv (ct_X5_refused l) rfl rfl rfl (gdV wd_169 wd_171 wd_0 wd_60 wd_172) rfl rfl (by decide +kernel) ⟨Nat.le_of_ble_eq_true rfl, Nat.le_of_ble_eq_true rfl⟩ dX5_letter_31) <|
  alls _ (s_iret dX5_letter_34) <|
  alls_nil _
set_option maxRecDepth 100000 in
theorem sX5_letter_11 (l : Launch) : AllS (pSnd l rmX5_letter yX5_letter.cls cX5_letter wsX5_letter 2 (some .int)) 11 kX5_letter_11 :=
  alls _ (s_iload_n rfl dX5_letter_11) <|
  alls _ (s_sipush (by decide) dX5_letter_12) <|
  alls _ (s_icmp_gt (by decide) dX5_letter_15) <|
  alls _ (s_aload_n rfl dX5_letter_18) <|
  alls _ (s_getf (C := RX5) (T := TX5) (N := 7) rfl (in_c inX5) (by decide) (List.mem_cons_of_mem _ wd_147) rfl dX5_letter_19) <|
  alls _ (s_callv (ct_X2_isFull l) rfl rfl rfl (gdV wd_173 wd_174 wd_175 wd_63 wd_176) rfl rfl (by decide +kernel) ⟨Nat.le_of_ble_eq_true rfl, Nat.le_of_ble_eq_true rfl⟩ dX5_letter_22) <|
  alls _ (s_if_eq (by decide) dX5_letter_25) <|
  alls _ s_fall (alls_nil _)
set_option maxRecDepth 100000 in
theorem sX5_letter_0 (l : Launch) : AllS (pSnd l rmX5_letter yX5_letter.cls cX5_letter wsX5_letter 2 (some .int)) 0 kX5_letter_0 :=
  alls _ (s_iload_n rfl dX5_letter_0) <|
  alls _ (s_if_ge (by decide) dX5_letter_1) <|
  alls _ (s_aload_n rfl dX5_letter_4) <|
  alls _ (s_bipush (by decide) dX5_letter_5) <|
  alls _ (s_callv (ct_X5_refused l) rfl rfl rfl (gdV wd_169 wd_171 wd_0 wd_60 wd_172) rfl rfl (by decide +kernel) ⟨Nat.le_of_ble_eq_true rfl, Nat.le_of_ble_eq_true rfl⟩ dX5_letter_7) <|
  alls _ (s_iret dX5_letter_10) <|
  alls_nil _
def KX5_letter : List (Nat × pProg) := [(0, kX5_letter_0), (11, kX5_letter_11), (28, kX5_letter_28), (35, kX5_letter_35)]
theorem bX5_letter_0 : blkOf KX5_letter 0 = some kX5_letter_0 := rfl
theorem bX5_letter_11 : blkOf KX5_letter 11 = some kX5_letter_11 := rfl
theorem bX5_letter_28 : blkOf KX5_letter 28 = some kX5_letter_28 := rfl
theorem bX5_letter_35 : blkOf KX5_letter 35 = some kX5_letter_35 := rfl
def tX5_letter : pT := pM KX5_letter 2
theorem ct_X5_letter (l : Launch) : pCtr l yX5_letter wsX5_letter rmX5_letter 2 tX5_letter := ctr_of (by decide +kernel) rfl (List.forall_mem_cons.mpr ⟨sX5_letter_0 l, List.forall_mem_cons.mpr ⟨sX5_letter_11 l, List.forall_mem_cons.mpr ⟨sX5_letter_28 l, List.forall_mem_cons.mpr ⟨sX5_letter_35 l, fun _ h => absurd h List.not_mem_nil⟩⟩⟩⟩)
theorem dX5_mine_0 : decode cX5_mine 0 = .ok (.aload_n 0, 1) := by decide +kernel
theorem dX5_mine_1 : decode cX5_mine 1 = .ok (.getfield 33, 3) := by decide +kernel
theorem dX5_mine_4 : decode cX5_mine 4 = .ok (.aload_n 0, 1) := by decide +kernel
theorem dX5_mine_5 : decode cX5_mine 5 = .ok (.getfield 12, 3) := by decide +kernel
theorem dX5_mine_8 : decode cX5_mine 8 = .ok (.invokestatic 55, 3) := by decide +kernel
theorem dX5_mine_11 : decode cX5_mine 11 = .ok (.istore_n 1, 1) := by decide +kernel
theorem dX5_mine_12 : decode cX5_mine 12 = .ok (.aload_n 0, 1) := by decide +kernel
theorem dX5_mine_13 : decode cX5_mine 13 = .ok (.getfield 33, 3) := by decide +kernel
theorem dX5_mine_16 : decode cX5_mine 16 = .ok (.invokevirtual 61, 3) := by decide +kernel
theorem dX5_mine_19 : decode cX5_mine 19 = .ok (.iload_n 1, 1) := by decide +kernel
theorem dX5_mine_20 : decode cX5_mine 20 = .ok (.ireturn, 1) := by decide +kernel
def rmX5_mine : Room := { frames := 6, cells := 0, slots := 0, locals := 143 }
abbrev wsX5_mine : List Cond := .code yX5_mine cX5_mine 2 (some .int) :: gw_tbl
def kX5_mine_0 : pProg := (0, 1, a_aload 0) :: (1, 3, a_getf 0 3 4) :: (4, 1, a_aload 0) :: (5, 3, a_getf 0 3 0) :: (8, 3, a_calls 2 [24, 25, 1, 2, 3, 4, 5, 6, 7] tX3_comeTo) :: (11, 1, a_istore 1) :: (12, 1, a_aload 0) :: (13, 3, a_getf 0 3 4) :: (16, 3, a_callv 1 1 [24, 25] tX2_forget) :: (19, 1, a_iload 1) :: (20, 1, a_iret) :: []
set_option maxRecDepth 100000 in
theorem sX5_mine_0 (l : Launch) : AllS (pSnd l rmX5_mine yX5_mine.cls cX5_mine wsX5_mine 2 (some .int)) 0 kX5_mine_0 :=
  alls _ (s_aload_n rfl dX5_mine_0) <|
  alls _ (s_getf (C := RX5) (T := TX5) (N := 7) rfl (in_c inX5) (by decide) (List.mem_cons_of_mem _ wd_147) rfl dX5_mine_1) <|
  alls _ (s_aload_n rfl dX5_mine_4) <|
  alls _ (s_getf (C := RX5) (T := TX5) (N := 7) rfl (in_c inX5) (by decide) (List.mem_cons_of_mem _ wd_143) rfl dX5_mine_5) <|
  alls _ (s_calls (ct_X3_comeTo l) rfl rfl (gdS wd_187) (List.mem_cons_of_mem _ wd_185) (List.mem_cons_of_mem _ wd_186) (List.mem_cons_of_mem _ wd_66) rfl rfl (by decide +kernel) ⟨Nat.le_of_ble_eq_true rfl, Nat.le_of_ble_eq_true rfl⟩ dX5_mine_8) <|
  alls _ (s_istore_n rfl dX5_mine_11) <|
  alls _ (s_aload_n rfl dX5_mine_12) <|
  alls _ (s_getf (C := RX5) (T := TX5) (N := 7) rfl (in_c inX5) (by decide) (List.mem_cons_of_mem _ wd_147) rfl dX5_mine_13) <|
  alls _ (s_callv (ct_X2_forget l) rfl rfl rfl (gdV wd_330 wd_331 wd_332 wd_63 wd_333) rfl rfl (by decide +kernel) ⟨Nat.le_of_ble_eq_true rfl, Nat.le_of_ble_eq_true rfl⟩ dX5_mine_16) <|
  alls _ (s_iload_n rfl dX5_mine_19) <|
  alls _ (s_iret dX5_mine_20) <|
  alls_nil _
def KX5_mine : List (Nat × pProg) := [(0, kX5_mine_0)]
theorem bX5_mine_0 : blkOf KX5_mine 0 = some kX5_mine_0 := rfl
def tX5_mine : pT := pM KX5_mine 2
theorem ct_X5_mine (l : Launch) : pCtr l yX5_mine wsX5_mine rmX5_mine 1 tX5_mine := ctr_of (by decide +kernel) rfl (List.forall_mem_cons.mpr ⟨sX5_mine_0 l, fun _ h => absurd h List.not_mem_nil⟩)
theorem dX5_miner_0 : decode cX5_miner 0 = .ok (.aload_n 0, 1) := by decide +kernel
theorem dX5_miner_1 : decode cX5_miner 1 = .ok (.getfield 12, 3) := by decide +kernel
theorem dX5_miner_4 : decode cX5_miner 4 = .ok (.iload_n 1, 1) := by decide +kernel
theorem dX5_miner_5 : decode cX5_miner 5 = .ok (.invokevirtual 64, 3) := by decide +kernel
theorem dX5_miner_8 : decode cX5_miner 8 = .ok (.ifCond .ne 9, 3) := by decide +kernel
theorem dX5_miner_11 : decode cX5_miner 11 = .ok (.aload_n 0, 1) := by decide +kernel
theorem dX5_miner_12 : decode cX5_miner 12 = .ok (.iconst (-1), 1) := by decide +kernel
theorem dX5_miner_13 : decode cX5_miner 13 = .ok (.invokevirtual 44, 3) := by decide +kernel
theorem dX5_miner_16 : decode cX5_miner 16 = .ok (.ireturn, 1) := by decide +kernel
theorem dX5_miner_17 : decode cX5_miner 17 = .ok (.iload_n 2, 1) := by decide +kernel
theorem dX5_miner_18 : decode cX5_miner 18 = .ok (.tableswitch 69 0 3 #[30, 39, 48, 57], 30) := by decide +kernel
theorem dX5_miner_48 : decode cX5_miner 48 = .ok (.aload_n 0, 1) := by decide +kernel
theorem dX5_miner_49 : decode cX5_miner 49 = .ok (.getfield 12, 3) := by decide +kernel
theorem dX5_miner_52 : decode cX5_miner 52 = .ok (.iload_n 1, 1) := by decide +kernel
theorem dX5_miner_53 : decode cX5_miner 53 = .ok (.invokevirtual 68, 3) := by decide +kernel
theorem dX5_miner_56 : decode cX5_miner 56 = .ok (.ireturn, 1) := by decide +kernel
theorem dX5_miner_57 : decode cX5_miner 57 = .ok (.aload_n 0, 1) := by decide +kernel
theorem dX5_miner_58 : decode cX5_miner 58 = .ok (.getfield 12, 3) := by decide +kernel
theorem dX5_miner_61 : decode cX5_miner 61 = .ok (.iload_n 1, 1) := by decide +kernel
theorem dX5_miner_62 : decode cX5_miner 62 = .ok (.invokevirtual 71, 3) := by decide +kernel
theorem dX5_miner_65 : decode cX5_miner 65 = .ok (.ireturn, 1) := by decide +kernel
theorem dX5_miner_66 : decode cX5_miner 66 = .ok (.aload_n 0, 1) := by decide +kernel
theorem dX5_miner_67 : decode cX5_miner 67 = .ok (.getfield 12, 3) := by decide +kernel
theorem dX5_miner_70 : decode cX5_miner 70 = .ok (.iload_n 1, 1) := by decide +kernel
theorem dX5_miner_71 : decode cX5_miner 71 = .ok (.invokevirtual 74, 3) := by decide +kernel
theorem dX5_miner_74 : decode cX5_miner 74 = .ok (.ireturn, 1) := by decide +kernel
theorem dX5_miner_75 : decode cX5_miner 75 = .ok (.aload_n 0, 1) := by decide +kernel
theorem dX5_miner_76 : decode cX5_miner 76 = .ok (.getfield 12, 3) := by decide +kernel
theorem dX5_miner_79 : decode cX5_miner 79 = .ok (.iload_n 1, 1) := by decide +kernel
theorem dX5_miner_80 : decode cX5_miner 80 = .ok (.invokevirtual 68, 3) := by decide +kernel
theorem dX5_miner_83 : decode cX5_miner 83 = .ok (.invokestatic 77, 3) := by decide +kernel
theorem dX5_miner_86 : decode cX5_miner 86 = .ok (.ireturn, 1) := by decide +kernel
theorem dX5_miner_87 : decode cX5_miner 87 = .ok (.aload_n 0, 1) := by decide +kernel
theorem dX5_miner_88 : decode cX5_miner 88 = .ok (.bipush (-2), 2) := by decide +kernel
theorem dX5_miner_90 : decode cX5_miner 90 = .ok (.invokevirtual 44, 3) := by decide +kernel
theorem dX5_miner_93 : decode cX5_miner 93 = .ok (.ireturn, 1) := by decide +kernel
def rmX5_miner : Room := { frames := 1, cells := 0, slots := 0, locals := 22 }
abbrev wsX5_miner : List Cond := .code yX5_miner cX5_miner 3 (some .int) :: gw_tbl
def kX5_miner_87 : pProg := (87, 1, a_aload 0) :: (88, 2, a_iconst (-2)) :: (90, 3, a_callv 2 3 [0, 1, 2, 3, 4, 5, 6, 7, 8, 9, 10, 11, 12, 13, 14, 15, 16, 17, 18, 19, 20, 21, 22, 23, 24, 25, 26, 27, 28] tX5_refused) :: (93, 1, a_iret) :: []
def kX5_miner_75 : pProg := (75, 1, a_aload 0) :: (76, 3, a_getf 0 3 0) :: (79, 1, a_iload 1) :: (80, 3, a_callv 2 0 [1, 2, 3, 4, 5, 6, 7] tX0_kindOf) :: (83, 3, a_calls 1 [] tX1_goes) :: (86, 1, a_iret) :: []
def kX5_miner_66 : pProg := (66, 1, a_aload 0) :: (67, 3, a_getf 0 3 0) :: (70, 1, a_iload 1) :: (71, 3, a_callv 2 0 [1, 2, 3, 4, 5, 6, 7] tX0_bruisesOf) :: (74, 1, a_iret) :: []
def kX5_miner_57 : pProg := (57, 1, a_aload 0) :: (58, 3, a_getf 0 3 0) :: (61, 1, a_iload 1) :: (62, 3, a_callv 2 0 [1, 2, 3, 4, 5, 6, 7] tX0_figureOf) :: (65, 1, a_iret) :: []
def kX5_miner_48 : pProg := (48, 1, a_aload 0) :: (49, 3, a_getf 0 3 0) :: (52, 1, a_iload 1) :: (53, 3, a_callv 2 0 [1, 2, 3, 4, 5, 6, 7] tX0_kindOf) :: (56, 1, a_iret) :: []
def kX5_miner_17 : pProg := (17, 1, a_iload 2) :: (18, 30, a_lsw [(0, 48), (1, 57), (2, 66), (3, 75)] 87) :: []
def kX5_miner_0 : pProg := (0, 1, a_aload 0) :: (1, 3, a_getf 0 3 0) :: (4, 1, a_iload 1) :: (5, 3, a_callv 2 0 [1, 2, 3, 4, 5, 6, 7] tX0_isMiner) :: (8, 3, a_if_ne 17) :: (11, 1, a_aload 0) :: (12, 1, a_iconst (-1)) :: (13, 3, a_callv 2 3 [0, 1, 2, 3, 4, 5, 6, 7, 8, 9, 10, 11, 12, 13, 14, 15, 16, 17, 18, 19, 20, 21, 22, 23, 24, 25, 26, 27, 28] tX5_refused) :: (16, 1, a_iret) :: []
set_option maxRecDepth 100000 in
theorem sX5_miner_87 (l : Launch) : AllS (pSnd l rmX5_miner yX5_miner.cls cX5_miner wsX5_miner 3 (some .int)) 87 kX5_miner_87 :=
  alls _ (s_aload_n rfl dX5_miner_87) <|
  alls _ (s_bipush (by decide) dX5_miner_88) <|
  alls _ (s_callv (ct_X5_refused l) rfl rfl rfl (gdV wd_169 wd_171 wd_0 wd_60 wd_172) rfl rfl (by decide +kernel) ⟨Nat.le_of_ble_eq_true rfl, Nat.le_of_ble_eq_true rfl⟩ dX5_miner_90) <|
  alls _ (s_iret dX5_miner_93) <|
  alls_nil _
set_option maxRecDepth 100000 in
theorem sX5_miner_75 (l : Launch) : AllS (pSnd l rmX5_miner yX5_miner.cls cX5_miner wsX5_miner 3 (some .int)) 75 kX5_miner_75 :=
  alls _ (s_aload_n rfl dX5_miner_75) <|
  alls _ (s_getf (C := RX5) (T := TX5) (N := 7) rfl (in_c inX5) (by decide) (List.mem_cons_of_mem _ wd_143) rfl dX5_miner_76) <|
  alls _ (s_iload_n rfl dX5_miner_79) <|
  alls _ (s_callv (ct_X0_kindOf l) rfl rfl rfl (gdV wd_342 wd_276 wd_277 wd_61 wd_278) rfl rfl (by decide +kernel) ⟨Nat.le_of_ble_eq_true rfl, Nat.le_of_ble_eq_true rfl⟩ dX5_miner_80) <|
  alls _ (s_calls (ct_X1_goes l) rfl rfl (gdS wd_327) (List.mem_cons_of_mem _ wd_345) (List.mem_cons_of_mem _ wd_326) (List.mem_cons_of_mem _ wd_67) rfl rfl (by decide +kernel) ⟨Nat.le_of_ble_eq_true rfl, Nat.le_of_ble_eq_true rfl⟩ dX5_miner_83) <|
  alls _ (s_iret dX5_miner_86) <|
  alls_nil _
set_option maxRecDepth 100000 in
theorem sX5_miner_66 (l : Launch) : AllS (pSnd l rmX5_miner yX5_miner.cls cX5_miner wsX5_miner 3 (some .int)) 66 kX5_miner_66 :=
  alls _ (s_aload_n rfl dX5_miner_66) <|
  alls _ (s_getf (C := RX5) (T := TX5) (N := 7) rfl (in_c inX5) (by decide) (List.mem_cons_of_mem _ wd_143) rfl dX5_miner_67) <|
  alls _ (s_iload_n rfl dX5_miner_70) <|
  alls _ (s_callv (ct_X0_bruisesOf l) rfl rfl rfl (gdV wd_344 wd_284 wd_285 wd_61 wd_286) rfl rfl (by decide +kernel) ⟨Nat.le_of_ble_eq_true rfl, Nat.le_of_ble_eq_true rfl⟩ dX5_miner_71) <|
  alls _ (s_iret dX5_miner_74) <|
  alls_nil _
set_option maxRecDepth 100000 in
theorem sX5_miner_57 (l : Launch) : AllS (pSnd l rmX5_miner yX5_miner.cls cX5_miner wsX5_miner 3 (some .int)) 57 kX5_miner_57 :=
  alls _ (s_aload_n rfl dX5_miner_57) <|
  alls _ (s_getf (C := RX5) (T := TX5) (N := 7) rfl (in_c inX5) (by decide) (List.mem_cons_of_mem _ wd_143) rfl dX5_miner_58) <|
  alls _ (s_iload_n rfl dX5_miner_61) <|
  alls _ (s_callv (ct_X0_figureOf l) rfl rfl rfl (gdV wd_343 wd_280 wd_281 wd_61 wd_282) rfl rfl (by decide +kernel) ⟨Nat.le_of_ble_eq_true rfl, Nat.le_of_ble_eq_true rfl⟩ dX5_miner_62) <|
  alls _ (s_iret dX5_miner_65) <|
  alls_nil _
set_option maxRecDepth 100000 in
theorem sX5_miner_48 (l : Launch) : AllS (pSnd l rmX5_miner yX5_miner.cls cX5_miner wsX5_miner 3 (some .int)) 48 kX5_miner_48 :=
  alls _ (s_aload_n rfl dX5_miner_48) <|
  alls _ (s_getf (C := RX5) (T := TX5) (N := 7) rfl (in_c inX5) (by decide) (List.mem_cons_of_mem _ wd_143) rfl dX5_miner_49) <|
  alls _ (s_iload_n rfl dX5_miner_52) <|
  alls _ (s_callv (ct_X0_kindOf l) rfl rfl rfl (gdV wd_342 wd_276 wd_277 wd_61 wd_278) rfl rfl (by decide +kernel) ⟨Nat.le_of_ble_eq_true rfl, Nat.le_of_ble_eq_true rfl⟩ dX5_miner_53) <|
  alls _ (s_iret dX5_miner_56) <|
  alls_nil _
set_option maxRecDepth 100000 in
theorem sX5_miner_17 (l : Launch) : AllS (pSnd l rmX5_miner yX5_miner.cls cX5_miner wsX5_miner 3 (some .int)) 17 kX5_miner_17 :=
  alls _ (s_iload_n rfl dX5_miner_17) <|
  alls _ (s_tsw (by decide) (by decide) (by decide) (by decide) dX5_miner_18) <|
  alls_nil _
set_option maxRecDepth 100000 in
theorem sX5_miner_0 (l : Launch) : AllS (pSnd l rmX5_miner yX5_miner.cls cX5_miner wsX5_miner 3 (some .int)) 0 kX5_miner_0 :=
  alls _ (s_aload_n rfl dX5_miner_0) <|
  alls _ (s_getf (C := RX5) (T := TX5) (N := 7) rfl (in_c inX5) (by decide) (List.mem_cons_of_mem _ wd_143) rfl dX5_miner_1) <|
  alls _ (s_iload_n rfl dX5_miner_4) <|
  alls _ (s_callv (ct_X0_isMiner l) rfl rfl rfl (gdV wd_338 wd_339 wd_340 wd_61 wd_341) rfl rfl (by decide +kernel) ⟨Nat.le_of_ble_eq_true rfl, Nat.le_of_ble_eq_true rfl⟩ dX5_miner_5) <|
  alls _ (s_if_ne (by decide) dX5_miner_8) <|
  alls _ (s_aload_n rfl dX5_miner_11) <|
  alls _ (s_iconst dX5_miner_12) <|
  alls _ (s_callv (ct_X5_refused l) rfl rfl rfl (gdV wd_169 wd_171 wd_0 wd_60 wd_172) rfl rfl (by decide +kernel) ⟨Nat.le_of_ble_eq_true rfl, Nat.le_of_ble_eq_true rfl⟩ dX5_miner_13) <|
  alls _ (s_iret dX5_miner_16) <|
  alls_nil _
def KX5_miner : List (Nat × pProg) := [(0, kX5_miner_0), (17, kX5_miner_17), (48, kX5_miner_48), (57, kX5_miner_57), (66, kX5_miner_66), (75, kX5_miner_75), (87, kX5_miner_87)]
theorem bX5_miner_0 : blkOf KX5_miner 0 = some kX5_miner_0 := rfl
theorem bX5_miner_17 : blkOf KX5_miner 17 = some kX5_miner_17 := rfl
theorem bX5_miner_48 : blkOf KX5_miner 48 = some kX5_miner_48 := rfl
theorem bX5_miner_57 : blkOf KX5_miner 57 = some kX5_miner_57 := rfl
theorem bX5_miner_66 : blkOf KX5_miner 66 = some kX5_miner_66 := rfl
theorem bX5_miner_75 : blkOf KX5_miner 75 = some kX5_miner_75 := rfl
theorem bX5_miner_87 : blkOf KX5_miner 87 = some kX5_miner_87 := rfl
def tX5_miner : pT := pM KX5_miner 3
theorem ct_X5_miner (l : Launch) : pCtr l yX5_miner wsX5_miner rmX5_miner 3 tX5_miner := ctr_of (by decide +kernel) rfl (List.forall_mem_cons.mpr ⟨sX5_miner_0 l, List.forall_mem_cons.mpr ⟨sX5_miner_17 l, List.forall_mem_cons.mpr ⟨sX5_miner_48 l, List.forall_mem_cons.mpr ⟨sX5_miner_57 l, List.forall_mem_cons.mpr ⟨sX5_miner_66 l, List.forall_mem_cons.mpr ⟨sX5_miner_75 l, List.forall_mem_cons.mpr ⟨sX5_miner_87 l, fun _ h => absurd h List.not_mem_nil⟩⟩⟩⟩⟩⟩⟩)
theorem dX5_pair_0 : decode cX5_pair 0 = .ok (.aload_n 0, 1) := by decide +kernel
theorem dX5_pair_1 : decode cX5_pair 1 = .ok (.getfield 12, 3) := by decide +kernel
theorem dX5_pair_4 : decode cX5_pair 4 = .ok (.iload_n 1, 1) := by decide +kernel
theorem dX5_pair_5 : decode cX5_pair 5 = .ok (.invokevirtual 82, 3) := by decide +kernel
theorem dX5_pair_8 : decode cX5_pair 8 = .ok (.ifCond .ne 9, 3) := by decide +kernel
theorem dX5_pair_11 : decode cX5_pair 11 = .ok (.aload_n 0, 1) := by decide +kernel
theorem dX5_pair_12 : decode cX5_pair 12 = .ok (.iconst (-1), 1) := by decide +kernel
theorem dX5_pair_13 : decode cX5_pair 13 = .ok (.invokevirtual 44, 3) := by decide +kernel
theorem dX5_pair_16 : decode cX5_pair 16 = .ok (.ireturn, 1) := by decide +kernel
theorem dX5_pair_17 : decode cX5_pair 17 = .ok (.iload_n 2, 1) := by decide +kernel
theorem dX5_pair_18 : decode cX5_pair 18 = .ok (.tableswitch 62 0 2 #[26, 35, 44], 26) := by decide +kernel
theorem dX5_pair_44 : decode cX5_pair 44 = .ok (.aload_n 0, 1) := by decide +kernel
theorem dX5_pair_45 : decode cX5_pair 45 = .ok (.getfield 12, 3) := by decide +kernel
theorem dX5_pair_48 : decode cX5_pair 48 = .ok (.iload_n 1, 1) := by decide +kernel
theorem dX5_pair_49 : decode cX5_pair 49 = .ok (.invokevirtual 85, 3) := by decide +kernel
theorem dX5_pair_52 : decode cX5_pair 52 = .ok (.ireturn, 1) := by decide +kernel
theorem dX5_pair_53 : decode cX5_pair 53 = .ok (.aload_n 0, 1) := by decide +kernel
theorem dX5_pair_54 : decode cX5_pair 54 = .ok (.getfield 12, 3) := by decide +kernel
theorem dX5_pair_57 : decode cX5_pair 57 = .ok (.iload_n 1, 1) := by decide +kernel
theorem dX5_pair_58 : decode cX5_pair 58 = .ok (.invokevirtual 88, 3) := by decide +kernel
theorem dX5_pair_61 : decode cX5_pair 61 = .ok (.ireturn, 1) := by decide +kernel
theorem dX5_pair_62 : decode cX5_pair 62 = .ok (.aload_n 0, 1) := by decide +kernel
theorem dX5_pair_63 : decode cX5_pair 63 = .ok (.getfield 12, 3) := by decide +kernel
theorem dX5_pair_66 : decode cX5_pair 66 = .ok (.iload_n 1, 1) := by decide +kernel
theorem dX5_pair_67 : decode cX5_pair 67 = .ok (.aload_n 0, 1) := by decide +kernel
theorem dX5_pair_68 : decode cX5_pair 68 = .ok (.getfield 12, 3) := by decide +kernel
theorem dX5_pair_71 : decode cX5_pair 71 = .ok (.invokevirtual 91, 3) := by decide +kernel
theorem dX5_pair_74 : decode cX5_pair 74 = .ok (.iconst 1, 1) := by decide +kernel
theorem dX5_pair_75 : decode cX5_pair 75 = .ok (.iadd, 1) := by decide +kernel
theorem dX5_pair_76 : decode cX5_pair 76 = .ok (.invokevirtual 95, 3) := by decide +kernel
theorem dX5_pair_79 : decode cX5_pair 79 = .ok (.ireturn, 1) := by decide +kernel
theorem dX5_pair_80 : decode cX5_pair 80 = .ok (.aload_n 0, 1) := by decide +kernel
theorem dX5_pair_81 : decode cX5_pair 81 = .ok (.bipush (-2), 2) := by decide +kernel
theorem dX5_pair_83 : decode cX5_pair 83 = .ok (.invokevirtual 44, 3) := by decide +kernel
theorem dX5_pair_86 : decode cX5_pair 86 = .ok (.ireturn, 1) := by decide +kernel
def rmX5_pair : Room := { frames := 3, cells := 0, slots := 0, locals := 71 }
abbrev wsX5_pair : List Cond := .code yX5_pair cX5_pair 3 (some .int) :: gw_tbl
def kX5_pair_80 : pProg := (80, 1, a_aload 0) :: (81, 2, a_iconst (-2)) :: (83, 3, a_callv 2 3 [0, 1, 2, 3, 4, 5, 6, 7, 8, 9, 10, 11, 12, 13, 14, 15, 16, 17, 18, 19, 20, 21, 22, 23, 24, 25, 26, 27, 28] tX5_refused) :: (86, 1, a_iret) :: []
def kX5_pair_62 : pProg := (62, 1, a_aload 0) :: (63, 3, a_getf 0 3 0) :: (66, 1, a_iload 1) :: (67, 1, a_aload 0) :: (68, 3, a_getf 0 3 0) :: (71, 3, a_callv 1 0 [1, 2, 3, 4, 5, 6, 7] tX0_minute) :: (74, 1, a_iconst 1) :: (75, 1, a_iadd) :: (76, 3, a_callv 3 0 [1, 2, 3, 4, 5, 6, 7] tX0_speakerIn) :: (79, 1, a_iret) :: []
def kX5_pair_53 : pProg := (53, 1, a_aload 0) :: (54, 3, a_getf 0 3 0) :: (57, 1, a_iload 1) :: (58, 3, a_callv 2 0 [1, 2, 3, 4, 5, 6, 7] tX0_toSayOf) :: (61, 1, a_iret) :: []
def kX5_pair_44 : pProg := (44, 1, a_aload 0) :: (45, 3, a_getf 0 3 0) :: (48, 1, a_iload 1) :: (49, 3, a_callv 2 0 [1, 2, 3, 4, 5, 6, 7] tX0_cellOf) :: (52, 1, a_iret) :: []
def kX5_pair_17 : pProg := (17, 1, a_iload 2) :: (18, 26, a_lsw [(0, 44), (1, 53), (2, 62)] 80) :: []
def kX5_pair_0 : pProg := (0, 1, a_aload 0) :: (1, 3, a_getf 0 3 0) :: (4, 1, a_iload 1) :: (5, 3, a_callv 2 0 [1, 2, 3, 4, 5, 6, 7] tX0_isPair) :: (8, 3, a_if_ne 17) :: (11, 1, a_aload 0) :: (12, 1, a_iconst (-1)) :: (13, 3, a_callv 2 3 [0, 1, 2, 3, 4, 5, 6, 7, 8, 9, 10, 11, 12, 13, 14, 15, 16, 17, 18, 19, 20, 21, 22, 23, 24, 25, 26, 27, 28] tX5_refused) :: (16, 1, a_iret) :: []
set_option maxRecDepth 100000 in
theorem sX5_pair_80 (l : Launch) : AllS (pSnd l rmX5_pair yX5_pair.cls cX5_pair wsX5_pair 3 (some .int)) 80 kX5_pair_80 :=
  alls _ (s_aload_n rfl dX5_pair_80) <|
  alls _ (s_bipush (by decide) dX5_pair_81) <|
  alls _ (s_callv (ct_X5_refused l) rfl rfl rfl (gdV wd_169 wd_171 wd_0 wd_60 wd_172) rfl rfl (by decide +kernel) ⟨Nat.le_of_ble_eq_true rfl, Nat.le_of_ble_eq_true rfl⟩ dX5_pair_83) <|
  alls _ (s_iret dX5_pair_86) <|
  alls_nil _
set_option maxRecDepth 100000 in
theorem sX5_pair_62 (l : Launch) : AllS (pSnd l rmX5_pair yX5_pair.cls cX5_pair wsX5_pair 3 (some .int)) 62 kX5_pair_62 :=
  alls _ (s_aload_n rfl dX5_pair_62) <|
  alls _ (s_getf (C := RX5) (T := TX5) (N := 7) rfl (in_c inX5) (by decide) (List.mem_cons_of_mem _ wd_143) rfl dX5_pair_63) <|
  alls _ (s_iload_n rfl dX5_pair_66) <|
  alls _ (s_aload_n rfl dX5_pair_67) <|
  alls _ (s_getf (C := RX5) (T := TX5) (N := 7) rfl (in_c inX5) (by decide) (List.mem_cons_of_mem _ wd_143) rfl dX5_pair_68) <|
  alls _ (s_callv (ct_X0_minute l) rfl rfl rfl (gdV wd_356 wd_213 wd_214 wd_61 wd_215) rfl rfl (by decide +kernel) ⟨Nat.le_of_ble_eq_true rfl, Nat.le_of_ble_eq_true rfl⟩ dX5_pair_71) <|
  alls _ (s_iconst dX5_pair_74) <|
  alls _ (s_iadd dX5_pair_75) <|
  alls _ (s_callv (ct_X0_speakerIn l) rfl rfl rfl (gdV wd_357 wd_298 wd_299 wd_61 wd_300) rfl rfl (by decide +kernel) ⟨Nat.le_of_ble_eq_true rfl, Nat.le_of_ble_eq_true rfl⟩ dX5_pair_76) <|
  alls _ (s_iret dX5_pair_79) <|
  alls_nil _
set_option maxRecDepth 100000 in
theorem sX5_pair_53 (l : Launch) : AllS (pSnd l rmX5_pair yX5_pair.cls cX5_pair wsX5_pair 3 (some .int)) 53 kX5_pair_53 :=
  alls _ (s_aload_n rfl dX5_pair_53) <|
  alls _ (s_getf (C := RX5) (T := TX5) (N := 7) rfl (in_c inX5) (by decide) (List.mem_cons_of_mem _ wd_143) rfl dX5_pair_54) <|
  alls _ (s_iload_n rfl dX5_pair_57) <|
  alls _ (s_callv (ct_X0_toSayOf l) rfl rfl rfl (gdV wd_355 wd_263 wd_264 wd_61 wd_265) rfl rfl (by decide +kernel) ⟨Nat.le_of_ble_eq_true rfl, Nat.le_of_ble_eq_true rfl⟩ dX5_pair_58) <|
  alls _ (s_iret dX5_pair_61) <|
  alls_nil _
set_option maxRecDepth 100000 in
theorem sX5_pair_44 (l : Launch) : AllS (pSnd l rmX5_pair yX5_pair.cls cX5_pair wsX5_pair 3 (some .int)) 44 kX5_pair_44 :=
  alls _ (s_aload_n rfl dX5_pair_44) <|
  alls _ (s_getf (C := RX5) (T := TX5) (N := 7) rfl (in_c inX5) (by decide) (List.mem_cons_of_mem _ wd_143) rfl dX5_pair_45) <|
  alls _ (s_iload_n rfl dX5_pair_48) <|
  alls _ (s_callv (ct_X0_cellOf l) rfl rfl rfl (gdV wd_354 wd_306 wd_307 wd_61 wd_308) rfl rfl (by decide +kernel) ⟨Nat.le_of_ble_eq_true rfl, Nat.le_of_ble_eq_true rfl⟩ dX5_pair_49) <|
  alls _ (s_iret dX5_pair_52) <|
  alls_nil _
set_option maxRecDepth 100000 in
theorem sX5_pair_17 (l : Launch) : AllS (pSnd l rmX5_pair yX5_pair.cls cX5_pair wsX5_pair 3 (some .int)) 17 kX5_pair_17 :=
  alls _ (s_iload_n rfl dX5_pair_17) <|
  alls _ (s_tsw (by decide) (by decide) (by decide) (by decide) dX5_pair_18) <|
  alls_nil _
set_option maxRecDepth 100000 in
theorem sX5_pair_0 (l : Launch) : AllS (pSnd l rmX5_pair yX5_pair.cls cX5_pair wsX5_pair 3 (some .int)) 0 kX5_pair_0 :=
  alls _ (s_aload_n rfl dX5_pair_0) <|
  alls _ (s_getf (C := RX5) (T := TX5) (N := 7) rfl (in_c inX5) (by decide) (List.mem_cons_of_mem _ wd_143) rfl dX5_pair_1) <|
  alls _ (s_iload_n rfl dX5_pair_4) <|
  alls _ (s_callv (ct_X0_isPair l) rfl rfl rfl (gdV wd_350 wd_351 wd_352 wd_61 wd_353) rfl rfl (by decide +kernel) ⟨Nat.le_of_ble_eq_true rfl, Nat.le_of_ble_eq_true rfl⟩ dX5_pair_5) <|
  alls _ (s_if_ne (by decide) dX5_pair_8) <|
  alls _ (s_aload_n rfl dX5_pair_11) <|
  alls _ (s_iconst dX5_pair_12) <|
  alls _ (s_callv (ct_X5_refused l) rfl rfl rfl (gdV wd_169 wd_171 wd_0 wd_60 wd_172) rfl rfl (by decide +kernel) ⟨Nat.le_of_ble_eq_true rfl, Nat.le_of_ble_eq_true rfl⟩ dX5_pair_13) <|
  alls _ (s_iret dX5_pair_16) <|
  alls_nil _
def KX5_pair : List (Nat × pProg) := [(0, kX5_pair_0), (17, kX5_pair_17), (44, kX5_pair_44), (53, kX5_pair_53), (62, kX5_pair_62), (80, kX5_pair_80)]
theorem bX5_pair_0 : blkOf KX5_pair 0 = some kX5_pair_0 := rfl
theorem bX5_pair_17 : blkOf KX5_pair 17 = some kX5_pair_17 := rfl
theorem bX5_pair_44 : blkOf KX5_pair 44 = some kX5_pair_44 := rfl
theorem bX5_pair_53 : blkOf KX5_pair 53 = some kX5_pair_53 := rfl
theorem bX5_pair_62 : blkOf KX5_pair 62 = some kX5_pair_62 := rfl
theorem bX5_pair_80 : blkOf KX5_pair 80 = some kX5_pair_80 := rfl
def tX5_pair : pT := pM KX5_pair 3
theorem ct_X5_pair (l : Launch) : pCtr l yX5_pair wsX5_pair rmX5_pair 3 tX5_pair := ctr_of (by decide +kernel) rfl (List.forall_mem_cons.mpr ⟨sX5_pair_0 l, List.forall_mem_cons.mpr ⟨sX5_pair_17 l, List.forall_mem_cons.mpr ⟨sX5_pair_44 l, List.forall_mem_cons.mpr ⟨sX5_pair_53 l, List.forall_mem_cons.mpr ⟨sX5_pair_62 l, List.forall_mem_cons.mpr ⟨sX5_pair_80 l, fun _ h => absurd h List.not_mem_nil⟩⟩⟩⟩⟩⟩)
theorem dX5_beams_0 : decode cX5_beams 0 = .ok (.iload_n 1, 1) := by decide +kernel
theorem dX5_beams_1 : decode cX5_beams 1 = .ok (.invokestatic 99, 3) := by decide +kernel
theorem dX5_beams_4 : decode cX5_beams 4 = .ok (.ifCond .eq 14, 3) := by decide +kernel
theorem dX5_beams_7 : decode cX5_beams 7 = .ok (.aload_n 0, 1) := by decide +kernel
theorem dX5_beams_8 : decode cX5_beams 8 = .ok (.getfield 12, 3) := by decide +kernel
theorem dX5_beams_11 : decode cX5_beams 11 = .ok (.iload_n 1, 1) := by decide +kernel
theorem dX5_beams_12 : decode cX5_beams 12 = .ok (.invokevirtual 102, 3) := by decide +kernel
theorem dX5_beams_15 : decode cX5_beams 15 = .ok (.goto 8, 3) := by decide +kernel
theorem dX5_beams_18 : decode cX5_beams 18 = .ok (.aload_n 0, 1) := by decide +kernel
theorem dX5_beams_19 : decode cX5_beams 19 = .ok (.iconst (-1), 1) := by decide +kernel
theorem dX5_beams_20 : decode cX5_beams 20 = .ok (.invokevirtual 44, 3) := by decide +kernel
theorem dX5_beams_23 : decode cX5_beams 23 = .ok (.ireturn, 1) := by decide +kernel
def rmX5_beams : Room := { frames := 1, cells := 0, slots := 0, locals := 22 }
abbrev wsX5_beams : List Cond := .code yX5_beams cX5_beams 2 (some .int) :: gw_tbl
def kX5_beams_23 : pProg := (23, 1, a_iret) :: []
def kX5_beams_18 : pProg := (18, 1, a_aload 0) :: (19, 1, a_iconst (-1)) :: (20, 3, a_callv 2 3 [0, 1, 2, 3, 4, 5, 6, 7, 8, 9, 10, 11, 12, 13, 14, 15, 16, 17, 18, 19, 20, 21, 22, 23, 24, 25, 26, 27, 28] tX5_refused) :: (23, 0, a_fall 23) :: []
def kX5_beams_0 : pProg := (0, 1, a_iload 1) :: (1, 3, a_calls 1 [] tX0_isCell) :: (4, 3, a_if_eq 18) :: (7, 1, a_aload 0) :: (8, 3, a_getf 0 3 0) :: (11, 1, a_iload 1) :: (12, 3, a_callv 2 0 [1, 2, 3, 4, 5, 6, 7] tX0_beamsIn) :: (15, 3, a_goto 23) :: []
set_option maxRecDepth 100000 in
theorem sX5_beams_23 (l : Launch) : AllS (pSnd l rmX5_beams yX5_beams.cls cX5_beams wsX5_beams 2 (some .int)) 23 kX5_beams_23 :=
  alls _ (s_iret dX5_beams_23) <|
  alls_nil _
set_option maxRecDepth 100000 in
theorem sX5_beams_18 (l : Launch) : AllS (pSnd l rmX5_beams yX5_beams.cls cX5_beams wsX5_beams 2 (some .int)) 18 kX5_beams_18 :=
  alls _ (s_aload_n rfl dX5_beams_18) <|
  alls _ (s_iconst dX5_beams_19) <|
  alls _ (s_callv (ct_X5_refused l) rfl rfl rfl (gdV wd_169 wd_171 wd_0 wd_60 wd_172) rfl rfl (by decide +kernel) ⟨Nat.le_of_ble_eq_true rfl, Nat.le_of_ble_eq_true rfl⟩ dX5_beams_20) <|
  alls _ s_fall (alls_nil _)
set_option maxRecDepth 100000 in
theorem sX5_beams_0 (l : Launch) : AllS (pSnd l rmX5_beams yX5_beams.cls cX5_beams wsX5_beams 2 (some .int)) 0 kX5_beams_0 :=
  alls _ (s_iload_n rfl dX5_beams_0) <|
  alls _ (s_calls (ct_X0_isCell l) rfl rfl (gdS wd_364) (List.mem_cons_of_mem _ wd_362) (List.mem_cons_of_mem _ wd_363) (List.mem_cons_of_mem _ wd_61) rfl rfl (by decide +kernel) ⟨Nat.le_of_ble_eq_true rfl, Nat.le_of_ble_eq_true rfl⟩ dX5_beams_1) <|
  alls _ (s_if_eq (by decide) dX5_beams_4) <|
  alls _ (s_aload_n rfl dX5_beams_7) <|
  alls _ (s_getf (C := RX5) (T := TX5) (N := 7) rfl (in_c inX5) (by decide) (List.mem_cons_of_mem _ wd_143) rfl dX5_beams_8) <|
  alls _ (s_iload_n rfl dX5_beams_11) <|
  alls _ (s_callv (ct_X0_beamsIn l) rfl rfl rfl (gdV wd_365 wd_311 wd_312 wd_61 wd_313) rfl rfl (by decide +kernel) ⟨Nat.le_of_ble_eq_true rfl, Nat.le_of_ble_eq_true rfl⟩ dX5_beams_12) <|
  alls _ (s_goto (by decide) dX5_beams_15) <|
  alls_nil _
def KX5_beams : List (Nat × pProg) := [(0, kX5_beams_0), (18, kX5_beams_18), (23, kX5_beams_23)]
theorem bX5_beams_0 : blkOf KX5_beams 0 = some kX5_beams_0 := rfl
theorem bX5_beams_18 : blkOf KX5_beams 18 = some kX5_beams_18 := rfl
theorem bX5_beams_23 : blkOf KX5_beams 23 = some kX5_beams_23 := rfl
def tX5_beams : pT := pM KX5_beams 2
theorem ct_X5_beams (l : Launch) : pCtr l yX5_beams wsX5_beams rmX5_beams 2 tX5_beams := ctr_of (by decide +kernel) rfl (List.forall_mem_cons.mpr ⟨sX5_beams_0 l, List.forall_mem_cons.mpr ⟨sX5_beams_18 l, List.forall_mem_cons.mpr ⟨sX5_beams_23 l, fun _ h => absurd h List.not_mem_nil⟩⟩⟩)
theorem dX5_props_0 : decode cX5_props 0 = .ok (.iload_n 1, 1) := by decide +kernel
theorem dX5_props_1 : decode cX5_props 1 = .ok (.invokestatic 99, 3) := by decide +kernel
theorem dX5_props_4 : decode cX5_props 4 = .ok (.ifCond .ne 9, 3) := by decide +kernel
theorem dX5_props_7 : decode cX5_props 7 = .ok (.aload_n 0, 1) := by decide +kernel
theorem dX5_props_8 : decode cX5_props 8 = .ok (.iconst (-1), 1) := by decide +kernel
theorem dX5_props_9 : decode cX5_props 9 = .ok (.invokevirtual 44, 3) := by decide +kernel
theorem dX5_props_12 : decode cX5_props 12 = .ok (.ireturn, 1) := by decide +kernel
theorem dX5_props_13 : decode cX5_props 13 = .ok (.iload_n 2, 1) := by decide +kernel
theorem dX5_props_14 : decode cX5_props 14 = .ok (.ifCond .ge 10, 3) := by decide +kernel
theorem dX5_props_17 : decode cX5_props 17 = .ok (.aload_n 0, 1) := by decide +kernel
theorem dX5_props_18 : decode cX5_props 18 = .ok (.bipush (-4), 2) := by decide +kernel
theorem dX5_props_20 : decode cX5_props 20 = .ok (.invokevirtual 44, 3) := by decide +kernel
theorem dX5_props_23 : decode cX5_props 23 = .ok (.ireturn, 1) := by decide +kernel
theorem dX5_props_24 : decode cX5_props 24 = .ok (.iload_n 2, 1) := by decide +kernel
theorem dX5_props_25 : decode cX5_props 25 = .ok (.iconst 3, 1) := by decide +kernel
theorem dX5_props_26 : decode cX5_props 26 = .ok (.if_icmp .le 10, 3) := by decide +kernel
theorem dX5_props_29 : decode cX5_props 29 = .ok (.aload_n 0, 1) := by decide +kernel
theorem dX5_props_30 : decode cX5_props 30 = .ok (.bipush (-6), 2) := by decide +kernel
theorem dX5_props_32 : decode cX5_props 32 = .ok (.invokevirtual 44, 3) := by decide +kernel
theorem dX5_props_35 : decode cX5_props 35 = .ok (.ireturn, 1) := by decide +kernel
theorem dX5_props_36 : decode cX5_props 36 = .ok (.aload_n 0, 1) := by decide +kernel
theorem dX5_props_37 : decode cX5_props 37 = .ok (.getfield 12, 3) := by decide +kernel
theorem dX5_props_40 : decode cX5_props 40 = .ok (.iload_n 1, 1) := by decide +kernel
theorem dX5_props_41 : decode cX5_props 41 = .ok (.invokevirtual 102, 3) := by decide +kernel
theorem dX5_props_44 : decode cX5_props 44 = .ok (.istore_n 3, 1) := by decide +kernel
theorem dX5_props_45 : decode cX5_props 45 = .ok (.aload_n 0, 1) := by decide +kernel
theorem dX5_props_46 : decode cX5_props 46 = .ok (.getfield 12, 3) := by decide +kernel
theorem dX5_props_49 : decode cX5_props 49 = .ok (.iload_n 1, 1) := by decide +kernel
theorem dX5_props_50 : decode cX5_props 50 = .ok (.iload_n 2, 1) := by decide +kernel
theorem dX5_props_51 : decode cX5_props 51 = .ok (.invokevirtual 105, 3) := by decide +kernel
theorem dX5_props_54 : decode cX5_props 54 = .ok (.iload_n 3, 1) := by decide +kernel
theorem dX5_props_55 : decode cX5_props 55 = .ok (.ireturn, 1) := by decide +kernel
def rmX5_props : Room := { frames := 1, cells := 0, slots := 0, locals := 22 }
abbrev wsX5_props : List Cond := .code yX5_props cX5_props 4 (some .int) :: gw_tbl
def kX5_props_36 : pProg := (36, 1, a_aload 0) :: (37, 3, a_getf 0 3 0) :: (40, 1, a_iload 1) :: (41, 3, a_callv 2 0 [1, 2, 3, 4, 5, 6, 7] tX0_beamsIn) :: (44, 1, a_istore 3) :: (45, 1, a_aload 0) :: (46, 3, a_getf 0 3 0) :: (49, 1, a_iload 1) :: (50, 1, a_iload 2) :: (51, 3, a_callv 3 0 [1, 2, 3, 4, 5, 6, 7] tX0_setBeams) :: (54, 1, a_iload 3) :: (55, 1, a_iret) :: []
def kX5_props_24 : pProg := (24, 1, a_iload 2) :: (25, 1, a_iconst 3) :: (26, 3, a_icmp_le 36) :: (29, 1, a_aload 0) :: (30, 2, a_iconst (-6)) :: (32, 3, a_callv 2 3 [0, 1, 2, 3, 4, 5, 6, 7, 8, 9, 10, 11, 12, 13, 14, 15, 16, 17, 18, 19, 20, 21, 22, 23, 24, 25, 26, 27, 28] tX5_refused) :: (35, 1, a_iret) :: []
def kX5_props_13 : pProg := (13, 1, a_iload 2) :: (14, 3, a_if_ge 24) :: (17, 1, a_aload 0) :: (18, 2, a_iconst (-4)) :: (20, 3, a_callv 2 3 [0, 1, 2, 3, 4, 5, 6, 7, 8, 9, 10, 11, 12, 13, 14, 15, 16, 17, 18, 19, 20, 21, 22, 23, 24, 25, 26, 27, 28] tX5_refused) :: (23, 1, a_iret) :: []
def kX5_props_0 : pProg := (0, 1, a_iload 1) :: (1, 3, a_calls 1 [] tX0_isCell) :: (4, 3, a_if_ne 13) :: (7, 1, a_aload 0) :: (8, 1, a_iconst (-1)) :: (9, 3, a_callv 2 3 [0, 1, 2, 3, 4, 5, 6, 7, 8, 9, 10, 11, 12, 13, 14, 15, 16, 17, 18, 19, 20, 21, 22, 23, 24, 25, 26, 27, 28] tX5_refused) :: (12, 1, a_iret) :: []
set_option maxRecDepth 100000 in
theorem sX5_props_36 (l : Launch) : AllS (pSnd l rmX5_props yX5_props.cls cX5_props wsX5_props 4 (some .int)) 36 kX5_props_36 :=
  alls _ (s_aload_n rfl dX5_props_36) <|
  alls _ (s_getf (C := RX5) (T := TX5) (N := 7) rfl (in_c inX5) (by decide) (List.mem_cons_of_mem _ wd_143) rfl dX5_props_37) <|
  alls _ (s_iload_n rfl dX5_props_40) <|
  alls _ (s_callv (ct_X0_beamsIn l) rfl rfl rfl (gdV wd_365 wd_311 wd_312 wd_61 wd_313) rfl rfl (by decide +kernel) ⟨Nat.le_of_ble_eq_true rfl, Nat.le_of_ble_eq_true rfl⟩ dX5_props_41) <|
  alls _ (s_istore_n rfl dX5_props_44) <|
  alls _ (s_aload_n rfl dX5_props_45) <|
  alls _ (s_getf (C := RX5) (T := TX5) (N := 7) rfl (in_c inX5) (by decide) (List.mem_cons_of_mem _ wd_143) rfl dX5_props_46) <|
  alls _ (s_iload_n rfl dX5_props_49) <|
  alls _ (s_iload_n rfl dX5_props_50) <|
  alls _ (s_callv (ct_X0_setBeams l) rfl rfl rfl (gdV wd_370 wd_233 wd_234 wd_61 wd_235) rfl rfl (by decide +kernel) ⟨Nat.le_of_ble_eq_true rfl, Nat.le_of_ble_eq_true rfl⟩ dX5_props_51) <|
  alls _ (s_iload_n rfl dX5_props_54) <|
  alls _ (s_iret dX5_props_55) <|
  alls_nil _
set_option maxRecDepth 100000 in
theorem sX5_props_24 (l : Launch) : AllS (pSnd l rmX5_props yX5_props.cls cX5_props wsX5_props 4 (some .int)) 24 kX5_props_24 :=
  alls _ (s_iload_n rfl dX5_props_24) <|
  alls _ (s_iconst dX5_props_25) <|
  alls _ (s_icmp_le (by decide) dX5_props_26) <|
  alls _ (s_aload_n rfl dX5_props_29) <|
  alls _ (s_bipush (by decide) dX5_props_30) <|
  alls _ (s_callv (ct_X5_refused l) rfl rfl rfl (gdV wd_169 wd_171 wd_0 wd_60 wd_172) rfl rfl (by decide +kernel) ⟨Nat.le_of_ble_eq_true rfl, Nat.le_of_ble_eq_true rfl⟩ dX5_props_32) <|
  alls _ (s_iret dX5_props_35) <|
  alls_nil _
set_option maxRecDepth 100000 in
theorem sX5_props_13 (l : Launch) : AllS (pSnd l rmX5_props yX5_props.cls cX5_props wsX5_props 4 (some .int)) 13 kX5_props_13 :=
  alls _ (s_iload_n rfl dX5_props_13) <|
  alls _ (s_if_ge (by decide) dX5_props_14) <|
  alls _ (s_aload_n rfl dX5_props_17) <|
  alls _ (s_bipush (by decide) dX5_props_18) <|
  alls _ (s_callv (ct_X5_refused l) rfl rfl rfl (gdV wd_169 wd_171 wd_0 wd_60 wd_172) rfl rfl (by decide +kernel) ⟨Nat.le_of_ble_eq_true rfl, Nat.le_of_ble_eq_true rfl⟩ dX5_props_20) <|
  alls _ (s_iret dX5_props_23) <|
  alls_nil _
set_option maxRecDepth 100000 in
theorem sX5_props_0 (l : Launch) : AllS (pSnd l rmX5_props yX5_props.cls cX5_props wsX5_props 4 (some .int)) 0 kX5_props_0 :=
  alls _ (s_iload_n rfl dX5_props_0) <|
  alls _ (s_calls (ct_X0_isCell l) rfl rfl (gdS wd_364) (List.mem_cons_of_mem _ wd_362) (List.mem_cons_of_mem _ wd_363) (List.mem_cons_of_mem _ wd_61) rfl rfl (by decide +kernel) ⟨Nat.le_of_ble_eq_true rfl, Nat.le_of_ble_eq_true rfl⟩ dX5_props_1) <|
  alls _ (s_if_ne (by decide) dX5_props_4) <|
  alls _ (s_aload_n rfl dX5_props_7) <|
  alls _ (s_iconst dX5_props_8) <|
  alls _ (s_callv (ct_X5_refused l) rfl rfl rfl (gdV wd_169 wd_171 wd_0 wd_60 wd_172) rfl rfl (by decide +kernel) ⟨Nat.le_of_ble_eq_true rfl, Nat.le_of_ble_eq_true rfl⟩ dX5_props_9) <|
  alls _ (s_iret dX5_props_12) <|
  alls_nil _
def KX5_props : List (Nat × pProg) := [(0, kX5_props_0), (13, kX5_props_13), (24, kX5_props_24), (36, kX5_props_36)]
theorem bX5_props_0 : blkOf KX5_props 0 = some kX5_props_0 := rfl
theorem bX5_props_13 : blkOf KX5_props 13 = some kX5_props_13 := rfl
theorem bX5_props_24 : blkOf KX5_props 24 = some kX5_props_24 := rfl
theorem bX5_props_36 : blkOf KX5_props 36 = some kX5_props_36 := rfl
def tX5_props : pT := pM KX5_props 4
theorem ct_X5_props (l : Launch) : pCtr l yX5_props wsX5_props rmX5_props 3 tX5_props := ctr_of (by decide +kernel) rfl (List.forall_mem_cons.mpr ⟨sX5_props_0 l, List.forall_mem_cons.mpr ⟨sX5_props_13 l, List.forall_mem_cons.mpr ⟨sX5_props_24 l, List.forall_mem_cons.mpr ⟨sX5_props_36 l, fun _ h => absurd h List.not_mem_nil⟩⟩⟩⟩)
theorem dX5_stands_0 : decode cX5_stands 0 = .ok (.aload_n 0, 1) := by decide +kernel
theorem dX5_stands_1 : decode cX5_stands 1 = .ok (.getfield 12, 3) := by decide +kernel
theorem dX5_stands_4 : decode cX5_stands 4 = .ok (.iload_n 1, 1) := by decide +kernel
theorem dX5_stands_5 : decode cX5_stands 5 = .ok (.invokevirtual 82, 3) := by decide +kernel
theorem dX5_stands_8 : decode cX5_stands 8 = .ok (.ifCond .eq 10, 3) := by decide +kernel
theorem dX5_stands_11 : decode cX5_stands 11 = .ok (.iload_n 2, 1) := by decide +kernel
theorem dX5_stands_12 : decode cX5_stands 12 = .ok (.invokestatic 99, 3) := by decide +kernel
theorem dX5_stands_15 : decode cX5_stands 15 = .ok (.ifCond .ne 9, 3) := by decide +kernel
theorem dX5_stands_18 : decode cX5_stands 18 = .ok (.aload_n 0, 1) := by decide +kernel
theorem dX5_stands_19 : decode cX5_stands 19 = .ok (.iconst (-1), 1) := by decide +kernel
theorem dX5_stands_20 : decode cX5_stands 20 = .ok (.invokevirtual 44, 3) := by decide +kernel
theorem dX5_stands_23 : decode cX5_stands 23 = .ok (.ireturn, 1) := by decide +kernel
theorem dX5_stands_24 : decode cX5_stands 24 = .ok (.aload_n 0, 1) := by decide +kernel
theorem dX5_stands_25 : decode cX5_stands 25 = .ok (.getfield 12, 3) := by decide +kernel
theorem dX5_stands_28 : decode cX5_stands 28 = .ok (.iload_n 1, 1) := by decide +kernel
theorem dX5_stands_29 : decode cX5_stands 29 = .ok (.invokevirtual 85, 3) := by decide +kernel
theorem dX5_stands_32 : decode cX5_stands 32 = .ok (.istore_n 3, 1) := by decide +kernel
theorem dX5_stands_33 : decode cX5_stands 33 = .ok (.aload_n 0, 1) := by decide +kernel
theorem dX5_stands_34 : decode cX5_stands 34 = .ok (.getfield 12, 3) := by decide +kernel
theorem dX5_stands_37 : decode cX5_stands 37 = .ok (.iload_n 1, 1) := by decide +kernel
theorem dX5_stands_38 : decode cX5_stands 38 = .ok (.iload_n 2, 1) := by decide +kernel
theorem dX5_stands_39 : decode cX5_stands 39 = .ok (.invokevirtual 109, 3) := by decide +kernel
theorem dX5_stands_42 : decode cX5_stands 42 = .ok (.iload_n 3, 1) := by decide +kernel
theorem dX5_stands_43 : decode cX5_stands 43 = .ok (.ireturn, 1) := by decide +kernel
def rmX5_stands : Room := { frames := 2, cells := 0, slots := 0, locals := 43 }
abbrev wsX5_stands : List Cond := .code yX5_stands cX5_stands 4 (some .int) :: gw_tbl
def kX5_stands_24 : pProg := (24, 1, a_aload 0) :: (25, 3, a_getf 0 3 0) :: (28, 1, a_iload 1) :: (29, 3, a_callv 2 0 [1, 2, 3, 4, 5, 6, 7] tX0_cellOf) :: (32, 1, a_istore 3) :: (33, 1, a_aload 0) :: (34, 3, a_getf 0 3 0) :: (37, 1, a_iload 1) :: (38, 1, a_iload 2) :: (39, 3, a_callv 3 0 [1, 2, 3, 4, 5, 6, 7] tX0_setCell) :: (42, 1, a_iload 3) :: (43, 1, a_iret) :: []
def kX5_stands_18 : pProg := (18, 1, a_aload 0) :: (19, 1, a_iconst (-1)) :: (20, 3, a_callv 2 3 [0, 1, 2, 3, 4, 5, 6, 7, 8, 9, 10, 11, 12, 13, 14, 15, 16, 17, 18, 19, 20, 21, 22, 23, 24, 25, 26, 27, 28] tX5_refused) :: (23, 1, a_iret) :: []
def kX5_stands_0 : pProg := (0, 1, a_aload 0) :: (1, 3, a_getf 0 3 0) :: (4, 1, a_iload 1) :: (5, 3, a_callv 2 0 [1, 2, 3, 4, 5, 6, 7] tX0_isPair) :: (8, 3, a_if_eq 18) :: (11, 1, a_iload 2) :: (12, 3, a_calls 1 [] tX0_isCell) :: (15, 3, a_if_ne 24) :: (18, 0, a_fall 18) :: []
set_option maxRecDepth 100000 in
theorem sX5_stands_24 (l : Launch) : AllS (pSnd l rmX5_stands yX5_stands.cls cX5_stands wsX5_stands 4 (some .int)) 24 kX5_stands_24 :=
  alls _ (s_aload_n rfl dX5_stands_24) <|
  alls _ (s_getf (C := RX5) (T := TX5) (N := 7) rfl (in_c inX5) (by decide) (List.mem_cons_of_mem _ wd_143) rfl dX5_stands_25) <|
  alls _ (s_iload_n rfl dX5_stands_28) <|
  alls _ (s_callv (ct_X0_cellOf l) rfl rfl rfl (gdV wd_354 wd_306 wd_307 wd_61 wd_308) rfl rfl (by decide +kernel) ⟨Nat.le_of_ble_eq_true rfl, Nat.le_of_ble_eq_true rfl⟩ dX5_stands_29) <|
  alls _ (s_istore_n rfl dX5_stands_32) <|
  alls _ (s_aload_n rfl dX5_stands_33) <|
  alls _ (s_getf (C := RX5) (T := TX5) (N := 7) rfl (in_c inX5) (by decide) (List.mem_cons_of_mem _ wd_143) rfl dX5_stands_34) <|
  alls _ (s_iload_n rfl dX5_stands_37) <|
  alls _ (s_iload_n rfl dX5_stands_38) <|
  alls _ (s_callv (ct_X0_setCell l) rfl rfl rfl (gdV wd_375 wd_256 wd_257 wd_61 wd_258) rfl rfl (by decide +kernel) ⟨Nat.le_of_ble_eq_true rfl, Nat.le_of_ble_eq_true rfl⟩ dX5_stands_39) <|
  alls _ (s_iload_n rfl dX5_stands_42) <|
  alls _ (s_iret dX5_stands_43) <|
  alls_nil _
set_option maxRecDepth 100000 in
theorem sX5_stands_18 (l : Launch) : AllS (pSnd l rmX5_stands yX5_stands.cls cX5_stands wsX5_stands 4 (some .int)) 18 kX5_stands_18 :=
  alls _ (s_aload_n rfl dX5_stands_18) <|
  alls _ (s_iconst dX5_stands_19) <|
  alls _ (s_callv (ct_X5_refused l) rfl rfl rfl (gdV wd_169 wd_171 wd_0 wd_60 wd_172) rfl rfl (by decide +kernel) ⟨Nat.le_of_ble_eq_true rfl, Nat.le_of_ble_eq_true rfl⟩ dX5_stands_20) <|
  alls _ (s_iret dX5_stands_23) <|
  alls_nil _
set_option maxRecDepth 100000 in
theorem sX5_stands_0 (l : Launch) : AllS (pSnd l rmX5_stands yX5_stands.cls cX5_stands wsX5_stands 4 (some .int)) 0 kX5_stands_0 :=
  alls _ (s_aload_n rfl dX5_stands_0) <|
  alls _ (s_getf (C := RX5) (T := TX5) (N := 7) rfl (in_c inX5) (by decide) (List.mem_cons_of_mem _ wd_143) rfl dX5_stands_1) <|
  alls _ (s_iload_n rfl dX5_stands_4) <|
  alls _ (s_callv (ct_X0_isPair l) rfl rfl rfl (gdV wd_350 wd_351 wd_352 wd_61 wd_353) rfl rfl (by decide +kernel) ⟨Nat.le_of_ble_eq_true rfl, Nat.le_of_ble_eq_true rfl⟩ dX5_stands_5) <|
  alls _ (s_if_eq (by decide) dX5_stands_8) <|
  alls _ (s_iload_n rfl dX5_stands_11) <|
  alls _ (s_calls (ct_X0_isCell l) rfl rfl (gdS wd_364) (List.mem_cons_of_mem _ wd_362) (List.mem_cons_of_mem _ wd_363) (List.mem_cons_of_mem _ wd_61) rfl rfl (by decide +kernel) ⟨Nat.le_of_ble_eq_true rfl, Nat.le_of_ble_eq_true rfl⟩ dX5_stands_12) <|
  alls _ (s_if_ne (by decide) dX5_stands_15) <|
  alls _ s_fall (alls_nil _)
def KX5_stands : List (Nat × pProg) := [(0, kX5_stands_0), (18, kX5_stands_18), (24, kX5_stands_24)]
theorem bX5_stands_0 : blkOf KX5_stands 0 = some kX5_stands_0 := rfl
theorem bX5_stands_18 : blkOf KX5_stands 18 = some kX5_stands_18 := rfl
theorem bX5_stands_24 : blkOf KX5_stands 24 = some kX5_stands_24 := rfl
def tX5_stands : pT := pM KX5_stands 4
theorem ct_X5_stands (l : Launch) : pCtr l yX5_stands wsX5_stands rmX5_stands 3 tX5_stands := ctr_of (by decide +kernel) rfl (List.forall_mem_cons.mpr ⟨sX5_stands_0 l, List.forall_mem_cons.mpr ⟨sX5_stands_18 l, List.forall_mem_cons.mpr ⟨sX5_stands_24 l, fun _ h => absurd h List.not_mem_nil⟩⟩⟩)
theorem dX5_adds_0 : decode cX5_adds 0 = .ok (.aload_n 0, 1) := by decide +kernel
theorem dX5_adds_1 : decode cX5_adds 1 = .ok (.getfield 12, 3) := by decide +kernel
theorem dX5_adds_4 : decode cX5_adds 4 = .ok (.iload_n 1, 1) := by decide +kernel
theorem dX5_adds_5 : decode cX5_adds 5 = .ok (.invokevirtual 82, 3) := by decide +kernel
theorem dX5_adds_8 : decode cX5_adds 8 = .ok (.ifCond .ne 9, 3) := by decide +kernel
theorem dX5_adds_11 : decode cX5_adds 11 = .ok (.aload_n 0, 1) := by decide +kernel
theorem dX5_adds_12 : decode cX5_adds 12 = .ok (.iconst (-1), 1) := by decide +kernel
theorem dX5_adds_13 : decode cX5_adds 13 = .ok (.invokevirtual 44, 3) := by decide +kernel
theorem dX5_adds_16 : decode cX5_adds 16 = .ok (.ireturn, 1) := by decide +kernel
theorem dX5_adds_17 : decode cX5_adds 17 = .ok (.iload_n 2, 1) := by decide +kernel
theorem dX5_adds_18 : decode cX5_adds 18 = .ok (.ifCond .ge 10, 3) := by decide +kernel
theorem dX5_adds_21 : decode cX5_adds 21 = .ok (.aload_n 0, 1) := by decide +kernel
theorem dX5_adds_22 : decode cX5_adds 22 = .ok (.bipush (-4), 2) := by decide +kernel
theorem dX5_adds_24 : decode cX5_adds 24 = .ok (.invokevirtual 44, 3) := by decide +kernel
theorem dX5_adds_27 : decode cX5_adds 27 = .ok (.ireturn, 1) := by decide +kernel
theorem dX5_adds_28 : decode cX5_adds 28 = .ok (.iload_n 2, 1) := by decide +kernel
theorem dX5_adds_29 : decode cX5_adds 29 = .ok (.bipush 99, 2) := by decide +kernel
theorem dX5_adds_31 : decode cX5_adds 31 = .ok (.if_icmp .le 10, 3) := by decide +kernel
theorem dX5_adds_34 : decode cX5_adds 34 = .ok (.aload_n 0, 1) := by decide +kernel
theorem dX5_adds_35 : decode cX5_adds 35 = .ok (.bipush (-6), 2) := by decide +kernel
theorem dX5_adds_37 : decode cX5_adds 37 = .ok (.invokevirtual 44, 3) := by decide +kernel
theorem dX5_adds_40 : decode cX5_adds 40 = .ok (.ireturn, 1) := by decide +kernel
theorem dX5_adds_41 : decode cX5_adds 41 = .ok (.aload_n 0, 1) := by decide +kernel
theorem dX5_adds_42 : decode cX5_adds 42 = .ok (.getfield 12, 3) := by decide +kernel
theorem dX5_adds_45 : decode cX5_adds 45 = .ok (.iload_n 1, 1) := by decide +kernel
theorem dX5_adds_46 : decode cX5_adds 46 = .ok (.aload_n 0, 1) := by decide +kernel
theorem dX5_adds_47 : decode cX5_adds 47 = .ok (.getfield 12, 3) := by decide +kernel
theorem dX5_adds_50 : decode cX5_adds 50 = .ok (.iload_n 1, 1) := by decide +kernel
theorem dX5_adds_51 : decode cX5_adds 51 = .ok (.invokevirtual 88, 3) := by decide +kernel
theorem dX5_adds_54 : decode cX5_adds 54 = .ok (.iload_n 2, 1) := by decide +kernel
theorem dX5_adds_55 : decode cX5_adds 55 = .ok (.iadd, 1) := by decide +kernel
theorem dX5_adds_56 : decode cX5_adds 56 = .ok (.invokevirtual 112, 3) := by decide +kernel
theorem dX5_adds_59 : decode cX5_adds 59 = .ok (.aload_n 0, 1) := by decide +kernel
theorem dX5_adds_60 : decode cX5_adds 60 = .ok (.getfield 12, 3) := by decide +kernel
theorem dX5_adds_63 : decode cX5_adds 63 = .ok (.iload_n 1, 1) := by decide +kernel
theorem dX5_adds_64 : decode cX5_adds 64 = .ok (.invokevirtual 88, 3) := by decide +kernel
theorem dX5_adds_67 : decode cX5_adds 67 = .ok (.ireturn, 1) := by decide +kernel
def rmX5_adds : Room := { frames := 2, cells := 0, slots := 0, locals := 43 }
abbrev wsX5_adds : List Cond := .code yX5_adds cX5_adds 3 (some .int) :: gw_tbl
def kX5_adds_41 : pProg := (41, 1, a_aload 0) :: (42, 3, a_getf 0 3 0) :: (45, 1, a_iload 1) :: (46, 1, a_aload 0) :: (47, 3, a_getf 0 3 0) :: (50, 1, a_iload 1) :: (51, 3, a_callv 2 0 [1, 2, 3, 4, 5, 6, 7] tX0_toSayOf) :: (54, 1, a_iload 2) :: (55, 1, a_iadd) :: (56, 3, a_callv 3 0 [1, 2, 3, 4, 5, 6, 7] tX0_setToSay) :: (59, 1, a_aload 0) :: (60, 3, a_getf 0 3 0) :: (63, 1, a_iload 1) :: (64, 3, a_callv 2 0 [1, 2, 3, 4, 5, 6, 7] tX0_toSayOf) :: (67, 1, a_iret) :: []
def kX5_adds_28 : pProg := (28, 1, a_iload 2) :: (29, 2, a_iconst 99) :: (31, 3, a_icmp_le 41) :: (34, 1, a_aload 0) :: (35, 2, a_iconst (-6)) :: (37, 3, a_callv 2 3 [0, 1, 2, 3, 4, 5, 6, 7, 8, 9, 10, 11, 12, 13, 14, 15, 16, 17, 18, 19, 20, 21, 22, 23, 24, 25, 26, 27, 28] tX5_refused) :: (40, 1, a_iret) :: []
def kX5_adds_17 : pProg := (17, 1, a_iload 2) :: (18, 3, a_if_ge 28) :: (21, 1, a_aload 0) :: (22, 2, a_iconst (-4)) :: (24, 3, a_callv 2 3 [0, 1, 2, 3, 4, 5, 6, 7, 8, 9, 10, 11, 12, 13, 14, 15, 16, 17, 18, 19, 20, 21, 22, 23, 24, 25, 26, 27, 28] tX5_refused) :: (27, 1, a_iret) :: []
def kX5_adds_0 : pProg := (0, 1, a_aload 0) :: (1, 3, a_getf 0 3 0) :: (4, 1, a_iload 1) :: (5, 3, a_callv 2 0 [1, 2, 3, 4, 5, 6, 7] tX0_isPair) :: (8, 3, a_if_ne 17) :: (11, 1, a_aload 0) :: (12, 1, a_iconst (-1)) :: (13, 3, a_callv 2 3 [0, 1, 2, 3, 4, 5, 6, 7, 8, 9, 10, 11, 12, 13, 14, 15, 16, 17, 18, 19, 20, 21, 22, 23, 24, 25, 26, 27, 28] tX5_refused) :: (16, 1, a_iret) :: []
set_option maxRecDepth 100000 in
theorem sX5_adds_41 (l : Launch) : AllS (pSnd l rmX5_adds yX5_adds.cls cX5_adds wsX5_adds 3 (some .int)) 41 kX5_adds_41 :=
  alls _ (s_aload_n rfl dX5_adds_41) <|
  alls _ (s_getf (C := RX5) (T := TX5) (N := 7) rfl (in_c inX5) (by decide) (List.mem_cons_of_mem _ wd_143) rfl dX5_adds_42) <|
  alls _ (s_iload_n rfl dX5_adds_45) <|
  alls _ (s_aload_n rfl dX5_adds_46) <|
  alls _ (s_getf (C := RX5) (T := TX5) (N := 7) rfl (in_c inX5) (by decide) (List.mem_cons_of_mem _ wd_143) rfl dX5_adds_47) <|
  alls _ (s_iload_n rfl dX5_adds_50) <|
  alls _ (s_callv (ct_X0_toSayOf l) rfl rfl rfl (gdV wd_355 wd_263 wd_264 wd_61 wd_265) rfl rfl (by decide +kernel) ⟨Nat.le_of_ble_eq_true rfl, Nat.le_of_ble_eq_true rfl⟩ dX5_adds_51) <|
  alls _ (s_iload_n rfl dX5_adds_54) <|
  alls _ (s_iadd dX5_adds_55) <|
  alls _ (s_callv (ct_X0_setToSay l) rfl rfl rfl (gdV wd_380 wd_267 wd_268 wd_61 wd_269) rfl rfl (by decide +kernel) ⟨Nat.le_of_ble_eq_true rfl, Nat.le_of_ble_eq_true rfl⟩ dX5_adds_56) <|
  alls _ (s_aload_n rfl dX5_adds_59) <|
  alls _ (s_getf (C := RX5) (T := TX5) (N := 7) rfl (in_c inX5) (by decide) (List.mem_cons_of_mem _ wd_143) rfl dX5_adds_60) <|
  alls _ (s_iload_n rfl dX5_adds_63) <|
  alls _ (s_callv (ct_X0_toSayOf l) rfl rfl rfl (gdV wd_355 wd_263 wd_264 wd_61 wd_265) rfl rfl (by decide +kernel) ⟨Nat.le_of_ble_eq_true rfl, Nat.le_of_ble_eq_true rfl⟩ dX5_adds_64) <|
  alls _ (s_iret dX5_adds_67) <|
  alls_nil _
set_option maxRecDepth 100000 in
theorem sX5_adds_28 (l : Launch) : AllS (pSnd l rmX5_adds yX5_adds.cls cX5_adds wsX5_adds 3 (some .int)) 28 kX5_adds_28 :=
  alls _ (s_iload_n rfl dX5_adds_28) <|
  alls _ (s_bipush (by decide) dX5_adds_29) <|
  alls _ (s_icmp_le (by decide) dX5_adds_31) <|
  alls _ (s_aload_n rfl dX5_adds_34) <|
  alls _ (s_bipush (by decide) dX5_adds_35) <|
  alls _ (s_callv (ct_X5_refused l) rfl rfl rfl (gdV wd_169 wd_171 wd_0 wd_60 wd_172) rfl rfl (by decide +kernel) ⟨Nat.le_of_ble_eq_true rfl, Nat.le_of_ble_eq_true rfl⟩ dX5_adds_37) <|
  alls _ (s_iret dX5_adds_40) <|
  alls_nil _
set_option maxRecDepth 100000 in
theorem sX5_adds_17 (l : Launch) : AllS (pSnd l rmX5_adds yX5_adds.cls cX5_adds wsX5_adds 3 (some .int)) 17 kX5_adds_17 :=
  alls _ (s_iload_n rfl dX5_adds_17) <|
  alls _ (s_if_ge (by decide) dX5_adds_18) <|
  alls _ (s_aload_n rfl dX5_adds_21) <|
  alls _ (s_bipush (by decide) dX5_adds_22) <|
  alls _ (s_callv (ct_X5_refused l) rfl rfl rfl (gdV wd_169 wd_171 wd_0 wd_60 wd_172) rfl rfl (by decide +kernel) ⟨Nat.le_of_ble_eq_true rfl, Nat.le_of_ble_eq_true rfl⟩ dX5_adds_24) <|
  alls _ (s_iret dX5_adds_27) <|
  alls_nil _
set_option maxRecDepth 100000 in
theorem sX5_adds_0 (l : Launch) : AllS (pSnd l rmX5_adds yX5_adds.cls cX5_adds wsX5_adds 3 (some .int)) 0 kX5_adds_0 :=
  alls _ (s_aload_n rfl dX5_adds_0) <|
  alls _ (s_getf (C := RX5) (T := TX5) (N := 7) rfl (in_c inX5) (by decide) (List.mem_cons_of_mem _ wd_143) rfl dX5_adds_1) <|
  alls _ (s_iload_n rfl dX5_adds_4) <|
  alls _ (s_callv (ct_X0_isPair l) rfl rfl rfl (gdV wd_350 wd_351 wd_352 wd_61 wd_353) rfl rfl (by decide +kernel) ⟨Nat.le_of_ble_eq_true rfl, Nat.le_of_ble_eq_true rfl⟩ dX5_adds_5) <|
  alls _ (s_if_ne (by decide) dX5_adds_8) <|
  alls _ (s_aload_n rfl dX5_adds_11) <|
  alls _ (s_iconst dX5_adds_12) <|
  alls _ (s_callv (ct_X5_refused l) rfl rfl rfl (gdV wd_169 wd_171 wd_0 wd_60 wd_172) rfl rfl (by decide +kernel) ⟨Nat.le_of_ble_eq_true rfl, Nat.le_of_ble_eq_true rfl⟩ dX5_adds_13) <|
  alls _ (s_iret dX5_adds_16) <|
  alls_nil _
def KX5_adds : List (Nat × pProg) := [(0, kX5_adds_0), (17, kX5_adds_17), (28, kX5_adds_28), (41, kX5_adds_41)]
theorem bX5_adds_0 : blkOf KX5_adds 0 = some kX5_adds_0 := rfl
theorem bX5_adds_17 : blkOf KX5_adds 17 = some kX5_adds_17 := rfl
theorem bX5_adds_28 : blkOf KX5_adds 28 = some kX5_adds_28 := rfl
theorem bX5_adds_41 : blkOf KX5_adds 41 = some kX5_adds_41 := rfl
def tX5_adds : pT := pM KX5_adds 3
theorem ct_X5_adds (l : Launch) : pCtr l yX5_adds wsX5_adds rmX5_adds 3 tX5_adds := ctr_of (by decide +kernel) rfl (List.forall_mem_cons.mpr ⟨sX5_adds_0 l, List.forall_mem_cons.mpr ⟨sX5_adds_17 l, List.forall_mem_cons.mpr ⟨sX5_adds_28 l, List.forall_mem_cons.mpr ⟨sX5_adds_41 l, fun _ h => absurd h List.not_mem_nil⟩⟩⟩⟩)
theorem dX5_swaps_0 : decode cX5_swaps 0 = .ok (.aload_n 0, 1) := by decide +kernel
theorem dX5_swaps_1 : decode cX5_swaps 1 = .ok (.getfield 12, 3) := by decide +kernel
theorem dX5_swaps_4 : decode cX5_swaps 4 = .ok (.iload_n 1, 1) := by decide +kernel
theorem dX5_swaps_5 : decode cX5_swaps 5 = .ok (.invokevirtual 64, 3) := by decide +kernel
theorem dX5_swaps_8 : decode cX5_swaps 8 = .ok (.ifCond .eq 19, 3) := by decide +kernel
theorem dX5_swaps_11 : decode cX5_swaps 11 = .ok (.aload_n 0, 1) := by decide +kernel
theorem dX5_swaps_12 : decode cX5_swaps 12 = .ok (.getfield 12, 3) := by decide +kernel
theorem dX5_swaps_15 : decode cX5_swaps 15 = .ok (.iload_n 2, 1) := by decide +kernel
theorem dX5_swaps_16 : decode cX5_swaps 16 = .ok (.invokevirtual 64, 3) := by decide +kernel
theorem dX5_swaps_19 : decode cX5_swaps 19 = .ok (.ifCond .eq 8, 3) := by decide +kernel
theorem dX5_swaps_22 : decode cX5_swaps 22 = .ok (.iload_n 1, 1) := by decide +kernel
theorem dX5_swaps_23 : decode cX5_swaps 23 = .ok (.iload_n 2, 1) := by decide +kernel
theorem dX5_swaps_24 : decode cX5_swaps 24 = .ok (.if_icmp .ne 9, 3) := by decide +kernel
theorem dX5_swaps_27 : decode cX5_swaps 27 = .ok (.aload_n 0, 1) := by decide +kernel
theorem dX5_swaps_28 : decode cX5_swaps 28 = .ok (.iconst (-1), 1) := by decide +kernel
theorem dX5_swaps_29 : decode cX5_swaps 29 = .ok (.invokevirtual 44, 3) := by decide +kernel
theorem dX5_swaps_32 : decode cX5_swaps 32 = .ok (.ireturn, 1) := by decide +kernel
theorem dX5_swaps_33 : decode cX5_swaps 33 = .ok (.aload_n 0, 1) := by decide +kernel
theorem dX5_swaps_34 : decode cX5_swaps 34 = .ok (.getfield 12, 3) := by decide +kernel
theorem dX5_swaps_37 : decode cX5_swaps 37 = .ok (.iload_n 1, 1) := by decide +kernel
theorem dX5_swaps_38 : decode cX5_swaps 38 = .ok (.iload_n 2, 1) := by decide +kernel
theorem dX5_swaps_39 : decode cX5_swaps 39 = .ok (.invokevirtual 115, 3) := by decide +kernel
theorem dX5_swaps_42 : decode cX5_swaps 42 = .ok (.aload_n 0, 1) := by decide +kernel
theorem dX5_swaps_43 : decode cX5_swaps 43 = .ok (.getfield 12, 3) := by decide +kernel
theorem dX5_swaps_46 : decode cX5_swaps 46 = .ok (.iload_n 1, 1) := by decide +kernel
theorem dX5_swaps_47 : decode cX5_swaps 47 = .ok (.invokevirtual 68, 3) := by decide +kernel
theorem dX5_swaps_50 : decode cX5_swaps 50 = .ok (.ireturn, 1) := by decide +kernel
def rmX5_swaps : Room := { frames := 3, cells := 0, slots := 0, locals := 68 }
abbrev wsX5_swaps : List Cond := .code yX5_swaps cX5_swaps 3 (some .int) :: gw_tbl
def kX5_swaps_33 : pProg := (33, 1, a_aload 0) :: (34, 3, a_getf 0 3 0) :: (37, 1, a_iload 1) :: (38, 1, a_iload 2) :: (39, 3, a_callv 3 0 [1, 2, 3, 4, 5, 6, 7] tX0_changePlaces) :: (42, 1, a_aload 0) :: (43, 3, a_getf 0 3 0) :: (46, 1, a_iload 1) :: (47, 3, a_callv 2 0 [1, 2, 3, 4, 5, 6, 7] tX0_kindOf) :: (50, 1, a_iret) :: []
def kX5_swaps_27 : pProg := (27, 1, a_aload 0) :: (28, 1, a_iconst (-1)) :: (29, 3, a_callv 2 3 [0, 1, 2, 3, 4, 5, 6, 7, 8, 9, 10, 11, 12, 13, 14, 15, 16, 17, 18, 19, 20, 21, 22, 23, 24, 25, 26, 27, 28] tX5_refused) :: (32, 1, a_iret) :: []
def kX5_swaps_0 : pProg := (0, 1, a_aload 0) :: (1, 3, a_getf 0 3 0) :: (4, 1, a_iload 1) :: (5, 3, a_callv 2 0 [1, 2, 3, 4, 5, 6, 7] tX0_isMiner) :: (8, 3, a_if_eq 27) :: (11, 1, a_aload 0) :: (12, 3, a_getf 0 3 0) :: (15, 1, a_iload 2) :: (16, 3, a_callv 2 0 [1, 2, 3, 4, 5, 6, 7] tX0_isMiner) :: (19, 3, a_if_eq 27) :: (22, 1, a_iload 1) :: (23, 1, a_iload 2) :: (24, 3, a_icmp_ne 33) :: (27, 0, a_fall 27) :: []
set_option maxRecDepth 100000 in
theorem sX5_swaps_33 (l : Launch) : AllS (pSnd l rmX5_swaps yX5_swaps.cls cX5_swaps wsX5_swaps 3 (some .int)) 33 kX5_swaps_33 :=
  alls _ (s_aload_n rfl dX5_swaps_33) <|
  alls _ (s_getf (C := RX5) (T := TX5) (N := 7) rfl (in_c inX5) (by decide) (List.mem_cons_of_mem _ wd_143) rfl dX5_swaps_34) <|
  alls _ (s_iload_n rfl dX5_swaps_37) <|
  alls _ (s_iload_n rfl dX5_swaps_38) <|
  alls _ (s_callv (ct_X0_changePlaces l) rfl rfl rfl (gdV wd_385 wd_272 wd_273 wd_61 wd_274) rfl rfl (by decide +kernel) ⟨Nat.le_of_ble_eq_true rfl, Nat.le_of_ble_eq_true rfl⟩ dX5_swaps_39) <|
  alls _ (s_aload_n rfl dX5_swaps_42) <|
  alls _ (s_getf (C := RX5) (T := TX5) (N := 7) rfl (in_c inX5) (by decide) (List.mem_cons_of_mem _ wd_143) rfl dX5_swaps_43) <|
  alls _ (s_iload_n rfl dX5_swaps_46) <|
  alls _ (s_callv (ct_X0_kindOf l) rfl rfl rfl (gdV wd_342 wd_276 wd_277 wd_61 wd_278) rfl rfl (by decide +kernel) ⟨Nat.le_of_ble_eq_true rfl, Nat.le_of_ble_eq_true rfl⟩ dX5_swaps_47) <|
  alls _ (s_iret dX5_swaps_50) <|
  alls_nil _
set_option maxRecDepth 100000 in
theorem sX5_swaps_27 (l : Launch) : AllS (pSnd l rmX5_swaps yX5_swaps.cls cX5_swaps wsX5_swaps 3 (some .int)) 27 kX5_swaps_27 :=
  alls _ (s_aload_n rfl dX5_swaps_27) <|
  alls _ (s_iconst dX5_swaps_28) <|
  alls _ (s_callv (ct_X5_refused l) rfl rfl rfl (gdV wd_169 wd_171 wd_0 wd_60 wd_172) rfl rfl (by decide +kernel) ⟨Nat.le_of_ble_eq_true rfl, Nat.le_of_ble_eq_true rfl⟩ dX5_swaps_29) <|
  alls _ (s_iret dX5_swaps_32) <|
  alls_nil _
set_option maxRecDepth 100000 in
theorem sX5_swaps_0 (l : Launch) : AllS (pSnd l rmX5_swaps yX5_swaps.cls cX5_swaps wsX5_swaps 3 (some .int)) 0 kX5_swaps_0 :=
  alls _ (s_aload_n rfl dX5_swaps_0) <|
  alls _ (s_getf (C := RX5) (T := TX5) (N := 7) rfl (in_c inX5) (by decide) (List.mem_cons_of_mem _ wd_143) rfl dX5_swaps_1) <|
  alls _ (s_iload_n rfl dX5_swaps_4) <|
  alls _ (s_callv (ct_X0_isMiner l) rfl rfl rfl (gdV wd_338 wd_339 wd_340 wd_61 wd_341) rfl rfl (by decide +kernel) ⟨Nat.le_of_ble_eq_true rfl, Nat.le_of_ble_eq_true rfl⟩ dX5_swaps_5) <|
  alls _ (s_if_eq (by decide) dX5_swaps_8) <|
  alls _ (s_aload_n rfl dX5_swaps_11) <|
  alls _ (s_getf (C := RX5) (T := TX5) (N := 7) rfl (in_c inX5) (by decide) (List.mem_cons_of_mem _ wd_143) rfl dX5_swaps_12) <|
  alls _ (s_iload_n rfl dX5_swaps_15) <|
  alls _ (s_callv (ct_X0_isMiner l) rfl rfl rfl (gdV wd_338 wd_339 wd_340 wd_61 wd_341) rfl rfl (by decide +kernel) ⟨Nat.le_of_ble_eq_true rfl, Nat.le_of_ble_eq_true rfl⟩ dX5_swaps_16) <|
  alls _ (s_if_eq (by decide) dX5_swaps_19) <|
  alls _ (s_iload_n rfl dX5_swaps_22) <|
  alls _ (s_iload_n rfl dX5_swaps_23) <|
  alls _ (s_icmp_ne (by decide) dX5_swaps_24) <|
  alls _ s_fall (alls_nil _)
def KX5_swaps : List (Nat × pProg) := [(0, kX5_swaps_0), (27, kX5_swaps_27), (33, kX5_swaps_33)]
theorem bX5_swaps_0 : blkOf KX5_swaps 0 = some kX5_swaps_0 := rfl
theorem bX5_swaps_27 : blkOf KX5_swaps 27 = some kX5_swaps_27 := rfl
theorem bX5_swaps_33 : blkOf KX5_swaps 33 = some kX5_swaps_33 := rfl
def tX5_swaps : pT := pM KX5_swaps 3
theorem ct_X5_swaps (l : Launch) : pCtr l yX5_swaps wsX5_swaps rmX5_swaps 3 tX5_swaps := ctr_of (by decide +kernel) rfl (List.forall_mem_cons.mpr ⟨sX5_swaps_0 l, List.forall_mem_cons.mpr ⟨sX5_swaps_27 l, List.forall_mem_cons.mpr ⟨sX5_swaps_33 l, fun _ h => absurd h List.not_mem_nil⟩⟩⟩)
theorem dX5_turn_0 : decode cX5_turn 0 = .ok (.aload_n 0, 1) := by decide +kernel
theorem dX5_turn_1 : decode cX5_turn 1 = .ok (.getfield 12, 3) := by decide +kernel
theorem dX5_turn_4 : decode cX5_turn 4 = .ok (.iload_n 1, 1) := by decide +kernel
theorem dX5_turn_5 : decode cX5_turn 5 = .ok (.invokevirtual 64, 3) := by decide +kernel
theorem dX5_turn_8 : decode cX5_turn 8 = .ok (.ifCond .ne 9, 3) := by decide +kernel
theorem dX5_turn_11 : decode cX5_turn 11 = .ok (.aload_n 0, 1) := by decide +kernel
theorem dX5_turn_12 : decode cX5_turn 12 = .ok (.iconst (-1), 1) := by decide +kernel
theorem dX5_turn_13 : decode cX5_turn 13 = .ok (.invokevirtual 44, 3) := by decide +kernel
theorem dX5_turn_16 : decode cX5_turn 16 = .ok (.ireturn, 1) := by decide +kernel
theorem dX5_turn_17 : decode cX5_turn 17 = .ok (.iload_n 2, 1) := by decide +kernel
theorem dX5_turn_18 : decode cX5_turn 18 = .ok (.ifCond .lt 9, 3) := by decide +kernel
theorem dX5_turn_21 : decode cX5_turn 21 = .ok (.iload_n 2, 1) := by decide +kernel
theorem dX5_turn_22 : decode cX5_turn 22 = .ok (.bipush 6, 2) := by decide +kernel
theorem dX5_turn_24 : decode cX5_turn 24 = .ok (.if_icmp .lt 10, 3) := by decide +kernel
theorem dX5_turn_27 : decode cX5_turn 27 = .ok (.aload_n 0, 1) := by decide +kernel
theorem dX5_turn_28 : decode cX5_turn 28 = .ok (.bipush (-2), 2) := by decide +kernel
theorem dX5_turn_30 : decode cX5_turn 30 = .ok (.invokevirtual 44, 3) := by decide +kernel
theorem dX5_turn_33 : decode cX5_turn 33 = .ok (.ireturn, 1) := by decide +kernel
theorem dX5_turn_34 : decode cX5_turn 34 = .ok (.iload_n 3, 1) := by decide +kernel
theorem dX5_turn_35 : decode cX5_turn 35 = .ok (.ifCond .ge 10, 3) := by decide +kernel
theorem dX5_turn_38 : decode cX5_turn 38 = .ok (.aload_n 0, 1) := by decide +kernel
theorem dX5_turn_39 : decode cX5_turn 39 = .ok (.bipush (-4), 2) := by decide +kernel
theorem dX5_turn_41 : decode cX5_turn 41 = .ok (.invokevirtual 44, 3) := by decide +kernel
theorem dX5_turn_44 : decode cX5_turn 44 = .ok (.ireturn, 1) := by decide +kernel
theorem dX5_turn_45 : decode cX5_turn 45 = .ok (.iload_n 3, 1) := by decide +kernel
theorem dX5_turn_46 : decode cX5_turn 46 = .ok (.bipush 9, 2) := by decide +kernel
theorem dX5_turn_48 : decode cX5_turn 48 = .ok (.if_icmp .le 10, 3) := by decide +kernel
theorem dX5_turn_51 : decode cX5_turn 51 = .ok (.aload_n 0, 1) := by decide +kernel
theorem dX5_turn_52 : decode cX5_turn 52 = .ok (.bipush (-6), 2) := by decide +kernel
theorem dX5_turn_54 : decode cX5_turn 54 = .ok (.invokevirtual 44, 3) := by decide +kernel
theorem dX5_turn_57 : decode cX5_turn 57 = .ok (.ireturn, 1) := by decide +kernel
theorem dX5_turn_58 : decode cX5_turn 58 = .ok (.bipush 10, 2) := by decide +kernel
theorem dX5_turn_60 : decode cX5_turn 60 = .ok (.aload_n 0, 1) := by decide +kernel
theorem dX5_turn_61 : decode cX5_turn 61 = .ok (.getfield 12, 3) := by decide +kernel
theorem dX5_turn_64 : decode cX5_turn 64 = .ok (.iload_n 1, 1) := by decide +kernel
theorem dX5_turn_65 : decode cX5_turn 65 = .ok (.invokevirtual 68, 3) := by decide +kernel
theorem dX5_turn_68 : decode cX5_turn 68 = .ok (.imul, 1) := by decide +kernel
theorem dX5_turn_69 : decode cX5_turn 69 = .ok (.aload_n 0, 1) := by decide +kernel
theorem dX5_turn_70 : decode cX5_turn 70 = .ok (.getfield 12, 3) := by decide +kernel
theorem dX5_turn_73 : decode cX5_turn 73 = .ok (.iload_n 1, 1) := by decide +kernel
theorem dX5_turn_74 : decode cX5_turn 74 = .ok (.invokevirtual 71, 3) := by decide +kernel
theorem dX5_turn_77 : decode cX5_turn 77 = .ok (.iadd, 1) := by decide +kernel
theorem dX5_turn_78 : decode cX5_turn 78 = .ok (.istore 4, 2) := by decide +kernel
theorem dX5_turn_80 : decode cX5_turn 80 = .ok (.aload_n 0, 1) := by decide +kernel
theorem dX5_turn_81 : decode cX5_turn 81 = .ok (.getfield 12, 3) := by decide +kernel
theorem dX5_turn_84 : decode cX5_turn 84 = .ok (.iload_n 1, 1) := by decide +kernel
theorem dX5_turn_85 : decode cX5_turn 85 = .ok (.iload_n 2, 1) := by decide +kernel
theorem dX5_turn_86 : decode cX5_turn 86 = .ok (.invokevirtual 118, 3) := by decide +kernel
theorem dX5_turn_89 : decode cX5_turn 89 = .ok (.aload_n 0, 1) := by decide +kernel
theorem dX5_turn_90 : decode cX5_turn 90 = .ok (.getfield 12, 3) := by decide +kernel
theorem dX5_turn_93 : decode cX5_turn 93 = .ok (.iload_n 1, 1) := by decide +kernel
theorem dX5_turn_94 : decode cX5_turn 94 = .ok (.iload_n 3, 1) := by decide +kernel
theorem dX5_turn_95 : decode cX5_turn 95 = .ok (.invokevirtual 121, 3) := by decide +kernel
theorem dX5_turn_98 : decode cX5_turn 98 = .ok (.iload 4, 2) := by decide +kernel
theorem dX5_turn_100 : decode cX5_turn 100 = .ok (.ireturn, 1) := by decide +kernel
def rmX5_turn : Room := { frames := 1, cells := 0, slots := 0, locals := 22 }
abbrev wsX5_turn : List Cond := .code yX5_turn cX5_turn 5 (some .int) :: gw_tbl
def kX5_turn_58 : pProg := (58, 2, a_iconst 10) :: (60, 1, a_aload 0) :: (61, 3, a_getf 0 3 0) :: (64, 1, a_iload 1) :: (65, 3, a_callv 2 0 [1, 2, 3, 4, 5, 6, 7] tX0_kindOf) :: (68, 1, a_imul) :: (69, 1, a_aload 0) :: (70, 3, a_getf 0 3 0) :: (73, 1, a_iload 1) :: (74, 3, a_callv 2 0 [1, 2, 3, 4, 5, 6, 7] tX0_figureOf) :: (77, 1, a_iadd) :: (78, 2, a_istore 4) :: (80, 1, a_aload 0) :: (81, 3, a_getf 0 3 0) :: (84, 1, a_iload 1) :: (85, 1, a_iload 2) :: (86, 3, a_callv 3 0 [1, 2, 3, 4, 5, 6, 7] tX0_setKind) :: (89, 1, a_aload 0) :: (90, 3, a_getf 0 3 0) :: (93, 1, a_iload 1) :: (94, 1, a_iload 3) :: (95, 3, a_callv 3 0 [1, 2, 3, 4, 5, 6, 7] tX0_setFigure) :: (98, 2, a_iload 4) :: (100, 1, a_iret) :: []
def kX5_turn_45 : pProg := (45, 1, a_iload 3) :: (46, 2, a_iconst 9) :: (48, 3, a_icmp_le 58) :: (51, 1, a_aload 0) :: (52, 2, a_iconst (-6)) :: (54, 3, a_callv 2 3 [0, 1, 2, 3, 4, 5, 6, 7, 8, 9, 10, 11, 12, 13, 14, 15, 16, 17, 18, 19, 20, 21, 22, 23, 24, 25, 26, 27, 28] tX5_refused) :: (57, 1, a_iret) :: []
def kX5_turn_34 : pProg := (34, 1, a_iload 3) :: (35, 3, a_if_ge 45) :: (38, 1, a_aload 0) :: (39, 2, a_iconst (-4)) :: (41, 3, a_callv 2 3 [0, 1, 2, 3, 4, 5, 6, 7, 8, 9, 10, 11, 12, 13, 14, 15, 16, 17, 18, 19, 20, 21, 22, 23, 24, 25, 26, 27, 28] tX5_refused) :: (44, 1, a_iret) :: []
def kX5_turn_27 : pProg := (27, 1, a_aload 0) :: (28, 2, a_iconst (-2)) :: (30, 3, a_callv 2 3 [0, 1, 2, 3, 4, 5, 6, 7, 8, 9, 10, 11, 12, 13, 14, 15, 16, 17, 18, 19, 20, 21, 22, 23, 24, 25, 26, 27, 28] tX5_refused) :: (33, 1, a_iret) :: []
def kX5_turn_17 : pProg := (17, 1, a_iload 2) :: (18, 3, a_if_lt 27) :: (21, 1, a_iload 2) :: (22, 2, a_iconst 6) :: (24, 3, a_icmp_lt 34) :: (27, 0, a_fall 27) :: []
def kX5_turn_0 : pProg := (0, 1, a_aload 0) :: (1, 3, a_getf 0 3 0) :: (4, 1, a_iload 1) :: (5, 3, a_callv 2 0 [1, 2, 3, 4, 5, 6, 7] tX0_isMiner) :: (8, 3, a_if_ne 17) :: (11, 1, a_aload 0) :: (12, 1, a_iconst (-1)) :: (13, 3, a_callv 2 3 [0, 1, 2, 3, 4, 5, 6, 7, 8, 9, 10, 11, 12, 13, 14, 15, 16, 17, 18, 19, 20, 21, 22, 23, 24, 25, 26, 27, 28] tX5_refused) :: (16, 1, a_iret) :: []
set_option maxRecDepth 100000 in
theorem sX5_turn_58 (l : Launch) : AllS (pSnd l rmX5_turn yX5_turn.cls cX5_turn wsX5_turn 5 (some .int)) 58 kX5_turn_58 :=
  alls _ (s_bipush (by decide) dX5_turn_58) <|
  alls _ (s_aload_n rfl dX5_turn_60) <|
  alls _ (s_getf (C := RX5) (T := TX5) (N := 7) rfl (in_c inX5) (by decide) (List.mem_cons_of_mem _ wd_143) rfl dX5_turn_61) <|
  alls _ (s_iload_n rfl dX5_turn_64) <|
  alls _ (s_callv (ct_X0_kindOf l) rfl rfl rfl (gdV wd_342 wd_276 wd_277 wd_61 wd_278) rfl rfl (by decide +kernel) ⟨Nat.le_of_ble_eq_true rfl, Nat.le_of_ble_eq_true rfl⟩ dX5_turn_65) <|
  alls _ (s_imul dX5_turn_68) <|
  alls _ (s_aload_n rfl dX5_turn_69) <|
  alls _ (s_getf (C := RX5) (T := TX5) (N := 7) rfl (in_c inX5) (by decide) (List.mem_cons_of_mem _ wd_143) rfl dX5_turn_70) <|
  alls _ (s_iload_n rfl dX5_turn_73) <|
  alls _ (s_callv (ct_X0_figureOf l) rfl rfl rfl (gdV wd_343 wd_280 wd_281 wd_61 wd_282) rfl rfl (by decide +kernel) ⟨Nat.le_of_ble_eq_true rfl, Nat.le_of_ble_eq_true rfl⟩ dX5_turn_74) <|
  alls _ (s_iadd dX5_turn_77) <|
  alls _ (s_istore dX5_turn_78) <|
  alls _ (s_aload_n rfl dX5_turn_80) <|
  alls _ (s_getf (C := RX5) (T := TX5) (N := 7) rfl (in_c inX5) (by decide) (List.mem_cons_of_mem _ wd_143) rfl dX5_turn_81) <|
  alls _ (s_iload_n rfl dX5_turn_84) <|
  alls _ (s_iload_n rfl dX5_turn_85) <|
  alls _ (s_callv (ct_X0_setKind l) rfl rfl rfl (gdV wd_390 wd_248 wd_249 wd_61 wd_250) rfl rfl (by decide +kernel) ⟨Nat.le_of_ble_eq_true rfl, Nat.le_of_ble_eq_true rfl⟩ dX5_turn_86) <|
  alls _ (s_aload_n rfl dX5_turn_89) <|
  alls _ (s_getf (C := RX5) (T := TX5) (N := 7) rfl (in_c inX5) (by decide) (List.mem_cons_of_mem _ wd_143) rfl dX5_turn_90) <|
  alls _ (s_iload_n rfl dX5_turn_93) <|
  alls _ (s_iload_n rfl dX5_turn_94) <|
  alls _ (s_callv (ct_X0_setFigure l) rfl rfl rfl (gdV wd_391 wd_252 wd_253 wd_61 wd_254) rfl rfl (by decide +kernel) ⟨Nat.le_of_ble_eq_true rfl, Nat.le_of_ble_eq_true rfl⟩ dX5_turn_95) <|
  alls _ (s_iload dX5_turn_98) <|
  alls _ (s_iret dX5_turn_100) <|
  alls_nil _
set_option maxRecDepth 100000 in
theorem sX5_turn_45 (l : Launch) : AllS (pSnd l rmX5_turn yX5_turn.cls cX5_turn wsX5_turn 5 (some .int)) 45 kX5_turn_45 :=
  alls _ (s_iload_n rfl dX5_turn_45) <|
  alls _ (s_bipush (by decide) dX5_turn_46) <|
  alls _ (s_icmp_le (by decide) dX5_turn_48) <|
  alls _ (s_aload_n rfl dX5_turn_51) <|
  alls _ (s_bipush (by decide) dX5_turn_52) <|
  alls _ (s_callv (ct_X5_refused l) rfl rfl rfl (gdV wd_169 wd_171 wd_0 wd_60 wd_172) rfl rfl (by decide +kernel) ⟨Nat.le_of_ble_eq_true rfl, Nat.le_of_ble_eq_true rfl⟩ dX5_turn_54) <|
  alls _ (s_iret dX5_turn_57) <|
  alls_nil _
set_option maxRecDepth 100000 in
theorem sX5_turn_34 (l : Launch) : AllS (pSnd l rmX5_turn yX5_turn.cls cX5_turn wsX5_turn 5 (some .int)) 34 kX5_turn_34 :=
  alls _ (s_iload_n rfl dX5_turn_34) <|
  alls _ (s_if_ge (by decide) dX5_turn_35) <|
  alls _ (s_aload_n rfl dX5_turn_38) <|
  alls _ (s_bipush (by decide) dX5_turn_39) <|
  alls _ (s_callv (ct_X5_refused l) rfl rfl rfl (gdV wd_169 wd_171 wd_0 wd_60 wd_172) rfl rfl (by decide +kernel) ⟨Nat.le_of_ble_eq_true rfl, Nat.le_of_ble_eq_true rfl⟩ dX5_turn_41) <|
  alls _ (s_iret dX5_turn_44) <|
  alls_nil _
set_option maxRecDepth 100000 in
theorem sX5_turn_27 (l : Launch) : AllS (pSnd l rmX5_turn yX5_turn.cls cX5_turn wsX5_turn 5 (some .int)) 27 kX5_turn_27 :=
  alls _ (s_aload_n rfl dX5_turn_27) <|
  alls _ (s_bipush (by decide) dX5_turn_28) <|
  alls _ (s_callv (ct_X5_refused l) rfl rfl rfl (gdV wd_169 wd_171 wd_0 wd_60 wd_172) rfl rfl (by decide +kernel) ⟨Nat.le_of_ble_eq_true rfl, Nat.le_of_ble_eq_true rfl⟩ dX5_turn_30) <|
  alls _ (s_iret dX5_turn_33) <|
  alls_nil _
set_option maxRecDepth 100000 in
theorem sX5_turn_17 (l : Launch) : AllS (pSnd l rmX5_turn yX5_turn.cls cX5_turn wsX5_turn 5 (some .int)) 17 kX5_turn_17 :=
  alls _ (s_iload_n rfl dX5_turn_17) <|
  alls _ (s_if_lt (by decide) dX5_turn_18) <|
  alls _ (s_iload_n rfl dX5_turn_21) <|
  alls _ (s_bipush (by decide) dX5_turn_22) <|
  alls _ (s_icmp_lt (by decide) dX5_turn_24) <|
  alls _ s_fall (alls_nil _)
set_option maxRecDepth 100000 in
theorem sX5_turn_0 (l : Launch) : AllS (pSnd l rmX5_turn yX5_turn.cls cX5_turn wsX5_turn 5 (some .int)) 0 kX5_turn_0 :=
  alls _ (s_aload_n rfl dX5_turn_0) <|
  alls _ (s_getf (C := RX5) (T := TX5) (N := 7) rfl (in_c inX5) (by decide) (List.mem_cons_of_mem _ wd_143) rfl dX5_turn_1) <|
  alls _ (s_iload_n rfl dX5_turn_4) <|
  alls _ (s_callv (ct_X0_isMiner l) rfl rfl rfl (gdV wd_338 wd_339 wd_340 wd_61 wd_341) rfl rfl (by decide +kernel) ⟨Nat.le_of_ble_eq_true rfl, Nat.le_of_ble_eq_true rfl⟩ dX5_turn_5) <|
  alls _ (s_if_ne (by decide) dX5_turn_8) <|
  alls _ (s_aload_n rfl dX5_turn_11) <|
  alls _ (s_iconst dX5_turn_12) <|
  alls _ (s_callv (ct_X5_refused l) rfl rfl rfl (gdV wd_169 wd_171 wd_0 wd_60 wd_172) rfl rfl (by decide +kernel) ⟨Nat.le_of_ble_eq_true rfl, Nat.le_of_ble_eq_true rfl⟩ dX5_turn_13) <|
  alls _ (s_iret dX5_turn_16) <|
  alls_nil _
def KX5_turn : List (Nat × pProg) := [(0, kX5_turn_0), (17, kX5_turn_17), (27, kX5_turn_27), (34, kX5_turn_34), (45, kX5_turn_45), (58, kX5_turn_58)]
theorem bX5_turn_0 : blkOf KX5_turn 0 = some kX5_turn_0 := rfl
theorem bX5_turn_17 : blkOf KX5_turn 17 = some kX5_turn_17 := rfl
theorem bX5_turn_27 : blkOf KX5_turn 27 = some kX5_turn_27 := rfl
theorem bX5_turn_34 : blkOf KX5_turn 34 = some kX5_turn_34 := rfl
theorem bX5_turn_45 : blkOf KX5_turn 45 = some kX5_turn_45 := rfl
theorem bX5_turn_58 : blkOf KX5_turn 58 = some kX5_turn_58 := rfl
def tX5_turn : pT := pM KX5_turn 5
theorem ct_X5_turn (l : Launch) : pCtr l yX5_turn wsX5_turn rmX5_turn 4 tX5_turn := ctr_of (by decide +kernel) rfl (List.forall_mem_cons.mpr ⟨sX5_turn_0 l, List.forall_mem_cons.mpr ⟨sX5_turn_17 l, List.forall_mem_cons.mpr ⟨sX5_turn_27 l, List.forall_mem_cons.mpr ⟨sX5_turn_34 l, List.forall_mem_cons.mpr ⟨sX5_turn_45 l, List.forall_mem_cons.mpr ⟨sX5_turn_58 l, fun _ h => absurd h List.not_mem_nil⟩⟩⟩⟩⟩⟩)
theorem dX5_minutes_0 : decode cX5_minutes 0 = .ok (.iload_n 1, 1) := by decide +kernel
theorem dX5_minutes_1 : decode cX5_minutes 1 = .ok (.iconst 1, 1) := by decide +kernel
theorem dX5_minutes_2 : decode cX5_minutes 2 = .ok (.if_icmp .ge 10, 3) := by decide +kernel
theorem dX5_minutes_5 : decode cX5_minutes 5 = .ok (.aload_n 0, 1) := by decide +kernel
theorem dX5_minutes_6 : decode cX5_minutes 6 = .ok (.bipush (-4), 2) := by decide +kernel
theorem dX5_minutes_8 : decode cX5_minutes 8 = .ok (.invokevirtual 44, 3) := by decide +kernel
theorem dX5_minutes_11 : decode cX5_minutes 11 = .ok (.ireturn, 1) := by decide +kernel
theorem dX5_minutes_12 : decode cX5_minutes 12 = .ok (.iload_n 1, 1) := by decide +kernel
theorem dX5_minutes_13 : decode cX5_minutes 13 = .ok (.bipush 60, 2) := by decide +kernel
theorem dX5_minutes_15 : decode cX5_minutes 15 = .ok (.if_icmp .gt 18, 3) := by decide +kernel
theorem dX5_minutes_18 : decode cX5_minutes 18 = .ok (.aload_n 0, 1) := by decide +kernel
theorem dX5_minutes_19 : decode cX5_minutes 19 = .ok (.getfield 12, 3) := by decide +kernel
theorem dX5_minutes_22 : decode cX5_minutes 22 = .ok (.invokevirtual 91, 3) := by decide +kernel
theorem dX5_minutes_25 : decode cX5_minutes 25 = .ok (.iload_n 1, 1) := by decide +kernel
theorem dX5_minutes_26 : decode cX5_minutes 26 = .ok (.iadd, 1) := by decide +kernel
theorem dX5_minutes_27 : decode cX5_minutes 27 = .ok (.sipush 999, 3) := by decide +kernel
theorem dX5_minutes_30 : decode cX5_minutes 30 = .ok (.if_icmp .le 10, 3) := by decide +kernel
theorem dX5_minutes_33 : decode cX5_minutes 33 = .ok (.aload_n 0, 1) := by decide +kernel
theorem dX5_minutes_34 : decode cX5_minutes 34 = .ok (.bipush (-6), 2) := by decide +kernel
theorem dX5_minutes_36 : decode cX5_minutes 36 = .ok (.invokevirtual 44, 3) := by decide +kernel
theorem dX5_minutes_39 : decode cX5_minutes 39 = .ok (.ireturn, 1) := by decide +kernel
theorem dX5_minutes_40 : decode cX5_minutes 40 = .ok (.aload_n 0, 1) := by decide +kernel
theorem dX5_minutes_41 : decode cX5_minutes 41 = .ok (.getfield 12, 3) := by decide +kernel
theorem dX5_minutes_44 : decode cX5_minutes 44 = .ok (.iload_n 1, 1) := by decide +kernel
theorem dX5_minutes_45 : decode cX5_minutes 45 = .ok (.invokevirtual 124, 3) := by decide +kernel
theorem dX5_minutes_48 : decode cX5_minutes 48 = .ok (.aload_n 0, 1) := by decide +kernel
theorem dX5_minutes_49 : decode cX5_minutes 49 = .ok (.getfield 12, 3) := by decide +kernel
theorem dX5_minutes_52 : decode cX5_minutes 52 = .ok (.invokevirtual 127, 3) := by decide +kernel
theorem dX5_minutes_55 : decode cX5_minutes 55 = .ok (.invokestatic 130, 3) := by decide +kernel
theorem dX5_minutes_58 : decode cX5_minutes 58 = .ok (.ireturn, 1) := by decide +kernel
def rmX5_minutes : Room := { frames := 4, cells := 0, slots := 0, locals := 94 }
abbrev wsX5_minutes : List Cond := .code yX5_minutes cX5_minutes 2 (some .int) :: gw_tbl
def kX5_minutes_40 : pProg := (40, 1, a_aload 0) :: (41, 3, a_getf 0 3 0) :: (44, 1, a_iload 1) :: (45, 3, a_callv 2 0 [1, 2, 3, 4, 5, 6, 7] tX0_pass) :: (48, 1, a_aload 0) :: (49, 3, a_getf 0 3 0) :: (52, 3, a_callv 1 0 [1, 2, 3, 4, 5, 6, 7] tX0_facedBits) :: (55, 3, a_calls 1 [] tJ6_bitCount_0f7a4) :: (58, 1, a_iret) :: []
def kX5_minutes_33 : pProg := (33, 1, a_aload 0) :: (34, 2, a_iconst (-6)) :: (36, 3, a_callv 2 3 [0, 1, 2, 3, 4, 5, 6, 7, 8, 9, 10, 11, 12, 13, 14, 15, 16, 17, 18, 19, 20, 21, 22, 23, 24, 25, 26, 27, 28] tX5_refused) :: (39, 1, a_iret) :: []
def kX5_minutes_12 : pProg := (12, 1, a_iload 1) :: (13, 2, a_iconst 60) :: (15, 3, a_icmp_gt 33) :: (18, 1, a_aload 0) :: (19, 3, a_getf 0 3 0) :: (22, 3, a_callv 1 0 [1, 2, 3, 4, 5, 6, 7] tX0_minute) :: (25, 1, a_iload 1) :: (26, 1, a_iadd) :: (27, 3, a_iconst 999) :: (30, 3, a_icmp_le 40) :: (33, 0, a_fall 33) :: []
def kX5_minutes_0 : pProg := (0, 1, a_iload 1) :: (1, 1, a_iconst 1) :: (2, 3, a_icmp_ge 12) :: (5, 1, a_aload 0) :: (6, 2, a_iconst (-4)) :: (8, 3, a_callv 2 3 [0, 1, 2, 3, 4, 5, 6, 7, 8, 9, 10, 11, 12, 13, 14, 15, 16, 17, 18, 19, 20, 21, 22, 23, 24, 25, 26, 27, 28] tX5_refused) :: (11, 1, a_iret) :: []
set_option maxRecDepth 100000 in
theorem sX5_minutes_40 (l : Launch) : AllS (pSnd l rmX5_minutes yX5_minutes.cls cX5_minutes wsX5_minutes 2 (some .int)) 40 kX5_minutes_40 :=
  alls _ (s_aload_n rfl dX5_minutes_40) <|
  alls _ (s_getf (C := RX5) (T := TX5) (N := 7) rfl (in_c inX5) (by decide) (List.mem_cons_of_mem _ wd_143) rfl dX5_minutes_41) <|
  alls _ (s_iload_n rfl dX5_minutes_44) <|
  alls _ (s_callv (ct_X0_pass l) rfl rfl rfl (gdV wd_396 wd_294 wd_295 wd_61 wd_296) rfl rfl (by decide +kernel) ⟨Nat.le_of_ble_eq_true rfl, Nat.le_of_ble_eq_true rfl⟩ dX5_minutes_45) <|
  alls _ (s_aload_n rfl dX5_minutes_48) <|
  alls _ (s_getf (C := RX5) (T := TX5) (N := 7) rfl (in_c inX5) (by decide) (List.mem_cons_of_mem _ wd_143) rfl dX5_minutes_49) <|
  alls _ (s_callv (ct_X0_facedBits l) rfl rfl rfl (gdV wd_397 wd_398 wd_399 wd_61 wd_400) rfl rfl (by decide +kernel) ⟨Nat.le_of_ble_eq_true rfl, Nat.le_of_ble_eq_true rfl⟩ dX5_minutes_52) <|
  alls _ (s_calls (ct_J6_bitCount_0f7a4 l) rfl rfl (gdS wd_403) (List.mem_cons_of_mem _ wd_401) (List.mem_cons_of_mem _ wd_402) (List.mem_cons_of_mem _ wd_68) rfl rfl (by decide +kernel) ⟨Nat.le_of_ble_eq_true rfl, Nat.le_of_ble_eq_true rfl⟩ dX5_minutes_55) <|
  alls _ (s_iret dX5_minutes_58) <|
  alls_nil _
set_option maxRecDepth 100000 in
theorem sX5_minutes_33 (l : Launch) : AllS (pSnd l rmX5_minutes yX5_minutes.cls cX5_minutes wsX5_minutes 2 (some .int)) 33 kX5_minutes_33 :=
  alls _ (s_aload_n rfl dX5_minutes_33) <|
  alls _ (s_bipush (by decide) dX5_minutes_34) <|
  alls _ (s_callv (ct_X5_refused l) rfl rfl rfl (gdV wd_169 wd_171 wd_0 wd_60 wd_172) rfl rfl (by decide +kernel) ⟨Nat.le_of_ble_eq_true rfl, Nat.le_of_ble_eq_true rfl⟩ dX5_minutes_36) <|
  alls _ (s_iret dX5_minutes_39) <|
  alls_nil _
set_option maxRecDepth 100000 in
theorem sX5_minutes_12 (l : Launch) : AllS (pSnd l rmX5_minutes yX5_minutes.cls cX5_minutes wsX5_minutes 2 (some .int)) 12 kX5_minutes_12 :=
  alls _ (s_iload_n rfl dX5_minutes_12) <|
  alls _ (s_bipush (by decide) dX5_minutes_13) <|
  alls _ (s_icmp_gt (by decide) dX5_minutes_15) <|
  alls _ (s_aload_n rfl dX5_minutes_18) <|
  alls _ (s_getf (C := RX5) (T := TX5) (N := 7) rfl (in_c inX5) (by decide) (List.mem_cons_of_mem _ wd_143) rfl dX5_minutes_19) <|
  alls _ (s_callv (ct_X0_minute l) rfl rfl rfl (gdV wd_356 wd_213 wd_214 wd_61 wd_215) rfl rfl (by decide +kernel) ⟨Nat.le_of_ble_eq_true rfl, Nat.le_of_ble_eq_true rfl⟩ dX5_minutes_22) <|
  alls _ (s_iload_n rfl dX5_minutes_25) <|
  alls _ (s_iadd dX5_minutes_26) <|
  alls _ (s_sipush (by decide) dX5_minutes_27) <|
  alls _ (s_icmp_le (by decide) dX5_minutes_30) <|
  alls _ s_fall (alls_nil _)
set_option maxRecDepth 100000 in
theorem sX5_minutes_0 (l : Launch) : AllS (pSnd l rmX5_minutes yX5_minutes.cls cX5_minutes wsX5_minutes 2 (some .int)) 0 kX5_minutes_0 :=
  alls _ (s_iload_n rfl dX5_minutes_0) <|
  alls _ (s_iconst dX5_minutes_1) <|
  alls _ (s_icmp_ge (by decide) dX5_minutes_2) <|
  alls _ (s_aload_n rfl dX5_minutes_5) <|
  alls _ (s_bipush (by decide) dX5_minutes_6) <|
  alls _ (s_callv (ct_X5_refused l) rfl rfl rfl (gdV wd_169 wd_171 wd_0 wd_60 wd_172) rfl rfl (by decide +kernel) ⟨Nat.le_of_ble_eq_true rfl, Nat.le_of_ble_eq_true rfl⟩ dX5_minutes_8) <|
  alls _ (s_iret dX5_minutes_11) <|
  alls_nil _
def KX5_minutes : List (Nat × pProg) := [(0, kX5_minutes_0), (12, kX5_minutes_12), (33, kX5_minutes_33), (40, kX5_minutes_40)]
theorem bX5_minutes_0 : blkOf KX5_minutes 0 = some kX5_minutes_0 := rfl
theorem bX5_minutes_12 : blkOf KX5_minutes 12 = some kX5_minutes_12 := rfl
theorem bX5_minutes_33 : blkOf KX5_minutes 33 = some kX5_minutes_33 := rfl
theorem bX5_minutes_40 : blkOf KX5_minutes 40 = some kX5_minutes_40 := rfl
def tX5_minutes : pT := pM KX5_minutes 2
theorem ct_X5_minutes (l : Launch) : pCtr l yX5_minutes wsX5_minutes rmX5_minutes 2 tX5_minutes := ctr_of (by decide +kernel) rfl (List.forall_mem_cons.mpr ⟨sX5_minutes_0 l, List.forall_mem_cons.mpr ⟨sX5_minutes_12 l, List.forall_mem_cons.mpr ⟨sX5_minutes_33 l, List.forall_mem_cons.mpr ⟨sX5_minutes_40 l, fun _ h => absurd h List.not_mem_nil⟩⟩⟩⟩)
theorem dX5_refusalOf_0 : decode cX5_refusalOf 0 = .ok (.iload_n 0, 1) := by decide +kernel
theorem dX5_refusalOf_1 : decode cX5_refusalOf 1 = .ok (.iload_n 1, 1) := by decide +kernel
theorem dX5_refusalOf_2 : decode cX5_refusalOf 2 = .ok (.if_icmp .ge 6, 3) := by decide +kernel
theorem dX5_refusalOf_5 : decode cX5_refusalOf 5 = .ok (.bipush (-4), 2) := by decide +kernel
theorem dX5_refusalOf_7 : decode cX5_refusalOf 7 = .ok (.ireturn, 1) := by decide +kernel
theorem dX5_refusalOf_8 : decode cX5_refusalOf 8 = .ok (.iload_n 0, 1) := by decide +kernel
theorem dX5_refusalOf_9 : decode cX5_refusalOf 9 = .ok (.iload_n 2, 1) := by decide +kernel
theorem dX5_refusalOf_10 : decode cX5_refusalOf 10 = .ok (.if_icmp .le 6, 3) := by decide +kernel
theorem dX5_refusalOf_13 : decode cX5_refusalOf 13 = .ok (.bipush (-6), 2) := by decide +kernel
theorem dX5_refusalOf_15 : decode cX5_refusalOf 15 = .ok (.ireturn, 1) := by decide +kernel
theorem dX5_refusalOf_16 : decode cX5_refusalOf 16 = .ok (.iload_n 3, 1) := by decide +kernel
theorem dX5_refusalOf_17 : decode cX5_refusalOf 17 = .ok (.ifCond .eq 13, 3) := by decide +kernel
theorem dX5_refusalOf_20 : decode cX5_refusalOf 20 = .ok (.iload_n 3, 1) := by decide +kernel
theorem dX5_refusalOf_21 : decode cX5_refusalOf 21 = .ok (.iconst 1, 1) := by decide +kernel
theorem dX5_refusalOf_22 : decode cX5_refusalOf 22 = .ok (.if_icmp .eq 8, 3) := by decide +kernel
theorem dX5_refusalOf_25 : decode cX5_refusalOf 25 = .ok (.bipush (-2), 2) := by decide +kernel
theorem dX5_refusalOf_27 : decode cX5_refusalOf 27 = .ok (.goto 4, 3) := by decide +kernel
theorem dX5_refusalOf_30 : decode cX5_refusalOf 30 = .ok (.iconst 0, 1) := by decide +kernel
theorem dX5_refusalOf_31 : decode cX5_refusalOf 31 = .ok (.ireturn, 1) := by decide +kernel
def rmX5_refusalOf : Room := { frames := 0, cells := 0, slots := 0, locals := 0 }
abbrev wsX5_refusalOf : List Cond := .code yX5_refusalOf cX5_refusalOf 4 (some .int) :: gw_tbl
def kX5_refusalOf_31 : pProg := (31, 1, a_iret) :: []
def kX5_refusalOf_30 : pProg := (30, 1, a_iconst 0) :: (31, 0, a_fall 31) :: []
def kX5_refusalOf_16 : pProg := (16, 1, a_iload 3) :: (17, 3, a_if_eq 30) :: (20, 1, a_iload 3) :: (21, 1, a_iconst 1) :: (22, 3, a_icmp_eq 30) :: (25, 2, a_iconst (-2)) :: (27, 3, a_goto 31) :: []
def kX5_refusalOf_8 : pProg := (8, 1, a_iload 0) :: (9, 1, a_iload 2) :: (10, 3, a_icmp_le 16) :: (13, 2, a_iconst (-6)) :: (15, 1, a_iret) :: []
def kX5_refusalOf_0 : pProg := (0, 1, a_iload 0) :: (1, 1, a_iload 1) :: (2, 3, a_icmp_ge 8) :: (5, 2, a_iconst (-4)) :: (7, 1, a_iret) :: []
set_option maxRecDepth 100000 in
theorem sX5_refusalOf_31 (l : Launch) : AllS (pSnd l rmX5_refusalOf yX5_refusalOf.cls cX5_refusalOf wsX5_refusalOf 4 (some .int)) 31 kX5_refusalOf_31 :=
  alls _ (s_iret dX5_refusalOf_31) <|
  alls_nil _
set_option maxRecDepth 100000 in
theorem sX5_refusalOf_30 (l : Launch) : AllS (pSnd l rmX5_refusalOf yX5_refusalOf.cls cX5_refusalOf wsX5_refusalOf 4 (some .int)) 30 kX5_refusalOf_30 :=
  alls _ (s_iconst dX5_refusalOf_30) <|
  alls _ s_fall (alls_nil _)
set_option maxRecDepth 100000 in
theorem sX5_refusalOf_16 (l : Launch) : AllS (pSnd l rmX5_refusalOf yX5_refusalOf.cls cX5_refusalOf wsX5_refusalOf 4 (some .int)) 16 kX5_refusalOf_16 :=
  alls _ (s_iload_n rfl dX5_refusalOf_16) <|
  alls _ (s_if_eq (by decide) dX5_refusalOf_17) <|
  alls _ (s_iload_n rfl dX5_refusalOf_20) <|
  alls _ (s_iconst dX5_refusalOf_21) <|
  alls _ (s_icmp_eq (by decide) dX5_refusalOf_22) <|
  alls _ (s_bipush (by decide) dX5_refusalOf_25) <|
  alls _ (s_goto (by decide) dX5_refusalOf_27) <|
  alls_nil _
set_option maxRecDepth 100000 in
theorem sX5_refusalOf_8 (l : Launch) : AllS (pSnd l rmX5_refusalOf yX5_refusalOf.cls cX5_refusalOf wsX5_refusalOf 4 (some .int)) 8 kX5_refusalOf_8 :=
  alls _ (s_iload_n rfl dX5_refusalOf_8) <|
  alls _ (s_iload_n rfl dX5_refusalOf_9) <|
  alls _ (s_icmp_le (by decide) dX5_refusalOf_10) <|
  alls _ (s_bipush (by decide) dX5_refusalOf_13) <|
  alls _ (s_iret dX5_refusalOf_15) <|
  alls_nil _
set_option maxRecDepth 100000 in
theorem sX5_refusalOf_0 (l : Launch) : AllS (pSnd l rmX5_refusalOf yX5_refusalOf.cls cX5_refusalOf wsX5_refusalOf 4 (some .int)) 0 kX5_refusalOf_0 :=
  alls _ (s_iload_n rfl dX5_refusalOf_0) <|
  alls _ (s_iload_n rfl dX5_refusalOf_1) <|
  alls _ (s_icmp_ge (by decide) dX5_refusalOf_2) <|
  alls _ (s_bipush (by decide) dX5_refusalOf_5) <|
  alls _ (s_iret dX5_refusalOf_7) <|
  alls_nil _
def KX5_refusalOf : List (Nat × pProg) := [(0, kX5_refusalOf_0), (8, kX5_refusalOf_8), (16, kX5_refusalOf_16), (30, kX5_refusalOf_30), (31, kX5_refusalOf_31)]
theorem bX5_refusalOf_0 : blkOf KX5_refusalOf 0 = some kX5_refusalOf_0 := rfl
theorem bX5_refusalOf_8 : blkOf KX5_refusalOf 8 = some kX5_refusalOf_8 := rfl
theorem bX5_refusalOf_16 : blkOf KX5_refusalOf 16 = some kX5_refusalOf_16 := rfl
theorem bX5_refusalOf_30 : blkOf KX5_refusalOf 30 = some kX5_refusalOf_30 := rfl
theorem bX5_refusalOf_31 : blkOf KX5_refusalOf 31 = some kX5_refusalOf_31 := rfl
def tX5_refusalOf : pT := pM KX5_refusalOf 4
theorem ct_X5_refusalOf (l : Launch) : pCtr l yX5_refusalOf wsX5_refusalOf rmX5_refusalOf 4 tX5_refusalOf := ctr_of (by decide +kernel) rfl (List.forall_mem_cons.mpr ⟨sX5_refusalOf_0 l, List.forall_mem_cons.mpr ⟨sX5_refusalOf_8 l, List.forall_mem_cons.mpr ⟨sX5_refusalOf_16 l, List.forall_mem_cons.mpr ⟨sX5_refusalOf_30 l, List.forall_mem_cons.mpr ⟨sX5_refusalOf_31 l, fun _ h => absurd h List.not_mem_nil⟩⟩⟩⟩⟩)
theorem dX5_pairThen_0 : decode cX5_pairThen 0 = .ok (.aload_n 0, 1) := by decide +kernel
theorem dX5_pairThen_1 : decode cX5_pairThen 1 = .ok (.getfield 12, 3) := by decide +kernel
theorem dX5_pairThen_4 : decode cX5_pairThen 4 = .ok (.iload_n 1, 1) := by decide +kernel
theorem dX5_pairThen_5 : decode cX5_pairThen 5 = .ok (.invokevirtual 82, 3) := by decide +kernel
theorem dX5_pairThen_8 : decode cX5_pairThen 8 = .ok (.ifCond .ne 9, 3) := by decide +kernel
theorem dX5_pairThen_11 : decode cX5_pairThen 11 = .ok (.aload_n 0, 1) := by decide +kernel
theorem dX5_pairThen_12 : decode cX5_pairThen 12 = .ok (.iconst (-1), 1) := by decide +kernel
theorem dX5_pairThen_13 : decode cX5_pairThen 13 = .ok (.invokevirtual 44, 3) := by decide +kernel
theorem dX5_pairThen_16 : decode cX5_pairThen 16 = .ok (.ireturn, 1) := by decide +kernel
theorem dX5_pairThen_17 : decode cX5_pairThen 17 = .ok (.iload_n 2, 1) := by decide +kernel
theorem dX5_pairThen_18 : decode cX5_pairThen 18 = .ok (.iconst 0, 1) := by decide +kernel
theorem dX5_pairThen_19 : decode cX5_pairThen 19 = .ok (.bipush 60, 2) := by decide +kernel
theorem dX5_pairThen_21 : decode cX5_pairThen 21 = .ok (.iload_n 3, 1) := by decide +kernel
theorem dX5_pairThen_22 : decode cX5_pairThen 22 = .ok (.invokestatic 135, 3) := by decide +kernel
theorem dX5_pairThen_25 : decode cX5_pairThen 25 = .ok (.istore 4, 2) := by decide +kernel
theorem dX5_pairThen_27 : decode cX5_pairThen 27 = .ok (.iload 4, 2) := by decide +kernel
theorem dX5_pairThen_29 : decode cX5_pairThen 29 = .ok (.ifCond .eq 10, 3) := by decide +kernel
theorem dX5_pairThen_32 : decode cX5_pairThen 32 = .ok (.aload_n 0, 1) := by decide +kernel
theorem dX5_pairThen_33 : decode cX5_pairThen 33 = .ok (.iload 4, 2) := by decide +kernel
theorem dX5_pairThen_35 : decode cX5_pairThen 35 = .ok (.invokevirtual 44, 3) := by decide +kernel
theorem dX5_pairThen_38 : decode cX5_pairThen 38 = .ok (.ireturn, 1) := by decide +kernel
theorem dX5_pairThen_39 : decode cX5_pairThen 39 = .ok (.iload_n 3, 1) := by decide +kernel
theorem dX5_pairThen_40 : decode cX5_pairThen 40 = .ok (.ifCond .ne 15, 3) := by decide +kernel
theorem dX5_pairThen_43 : decode cX5_pairThen 43 = .ok (.aload_n 0, 1) := by decide +kernel
theorem dX5_pairThen_44 : decode cX5_pairThen 44 = .ok (.getfield 24, 3) := by decide +kernel
theorem dX5_pairThen_47 : decode cX5_pairThen 47 = .ok (.iload_n 1, 1) := by decide +kernel
theorem dX5_pairThen_48 : decode cX5_pairThen 48 = .ok (.iload_n 2, 1) := by decide +kernel
theorem dX5_pairThen_49 : decode cX5_pairThen 49 = .ok (.invokevirtual 139, 3) := by decide +kernel
theorem dX5_pairThen_52 : decode cX5_pairThen 52 = .ok (.goto 12, 3) := by decide +kernel
theorem dX5_pairThen_55 : decode cX5_pairThen 55 = .ok (.aload_n 0, 1) := by decide +kernel
theorem dX5_pairThen_56 : decode cX5_pairThen 56 = .ok (.getfield 24, 3) := by decide +kernel
theorem dX5_pairThen_59 : decode cX5_pairThen 59 = .ok (.iload_n 1, 1) := by decide +kernel
theorem dX5_pairThen_60 : decode cX5_pairThen 60 = .ok (.iload_n 2, 1) := by decide +kernel
theorem dX5_pairThen_61 : decode cX5_pairThen 61 = .ok (.invokevirtual 142, 3) := by decide +kernel
theorem dX5_pairThen_64 : decode cX5_pairThen 64 = .ok (.ireturn, 1) := by decide +kernel
def rmX5_pairThen : Room := { frames := 6, cells := 0, slots := 0, locals := 137 }
abbrev wsX5_pairThen : List Cond := .code yX5_pairThen cX5_pairThen 5 (some .int) :: gw_tbl
def kX5_pairThen_64 : pProg := (64, 1, a_iret) :: []
def kX5_pairThen_55 : pProg := (55, 1, a_aload 0) :: (56, 3, a_getf 0 3 3) :: (59, 1, a_iload 1) :: (60, 1, a_iload 2) :: (61, 3, a_callv 3 2 [15, 1, 2, 3, 4, 5, 6, 7, 16, 17, 18, 19, 20, 21, 22, 23] tX4_toSayThen) :: (64, 0, a_fall 64) :: []
def kX5_pairThen_39 : pProg := (39, 1, a_iload 3) :: (40, 3, a_if_ne 55) :: (43, 1, a_aload 0) :: (44, 3, a_getf 0 3 3) :: (47, 1, a_iload 1) :: (48, 1, a_iload 2) :: (49, 3, a_callv 3 2 [15, 1, 2, 3, 4, 5, 6, 7, 16, 17, 18, 19, 20, 21, 22, 23] tX4_cellThen) :: (52, 3, a_goto 64) :: []
def kX5_pairThen_17 : pProg := (17, 1, a_iload 2) :: (18, 1, a_iconst 0) :: (19, 2, a_iconst 60) :: (21, 1, a_iload 3) :: (22, 3, a_calls 4 [] tX5_refusalOf) :: (25, 2, a_istore 4) :: (27, 2, a_iload 4) :: (29, 3, a_if_eq 39) :: (32, 1, a_aload 0) :: (33, 2, a_iload 4) :: (35, 3, a_callv 2 3 [0, 1, 2, 3, 4, 5, 6, 7, 8, 9, 10, 11, 12, 13, 14, 15, 16, 17, 18, 19, 20, 21, 22, 23, 24, 25, 26, 27, 28] tX5_refused) :: (38, 1, a_iret) :: []
def kX5_pairThen_0 : pProg := (0, 1, a_aload 0) :: (1, 3, a_getf 0 3 0) :: (4, 1, a_iload 1) :: (5, 3, a_callv 2 0 [1, 2, 3, 4, 5, 6, 7] tX0_isPair) :: (8, 3, a_if_ne 17) :: (11, 1, a_aload 0) :: (12, 1, a_iconst (-1)) :: (13, 3, a_callv 2 3 [0, 1, 2, 3, 4, 5, 6, 7, 8, 9, 10, 11, 12, 13, 14, 15, 16, 17, 18, 19, 20, 21, 22, 23, 24, 25, 26, 27, 28] tX5_refused) :: (16, 1, a_iret) :: []
set_option maxRecDepth 100000 in
theorem sX5_pairThen_64 (l : Launch) : AllS (pSnd l rmX5_pairThen yX5_pairThen.cls cX5_pairThen wsX5_pairThen 5 (some .int)) 64 kX5_pairThen_64 :=
  alls _ (s_iret dX5_pairThen_64) <|
  alls_nil _
set_option maxRecDepth 100000 in
theorem sX5_pairThen_55 (l : Launch) : AllS (pSnd l rmX5_pairThen yX5_pairThen.cls cX5_pairThen wsX5_pairThen 5 (some .int)) 55 kX5_pairThen_55 :=
  alls _ (s_aload_n rfl dX5_pairThen_55) <|
  alls _ (s_getf (C := RX5) (T := TX5) (N := 7) rfl (in_c inX5) (by decide) (List.mem_cons_of_mem _ wd_146) rfl dX5_pairThen_56) <|
  alls _ (s_iload_n rfl dX5_pairThen_59) <|
  alls _ (s_iload_n rfl dX5_pairThen_60) <|
  alls _ (s_callv (ct_X4_toSayThen l) rfl rfl rfl (gdV wd_431 wd_432 wd_433 wd_62 wd_434) rfl rfl (by decide +kernel) ⟨Nat.le_of_ble_eq_true rfl, Nat.le_of_ble_eq_true rfl⟩ dX5_pairThen_61) <|
  alls _ s_fall (alls_nil _)
set_option maxRecDepth 100000 in
theorem sX5_pairThen_39 (l : Launch) : AllS (pSnd l rmX5_pairThen yX5_pairThen.cls cX5_pairThen wsX5_pairThen 5 (some .int)) 39 kX5_pairThen_39 :=
  alls _ (s_iload_n rfl dX5_pairThen_39) <|
  alls _ (s_if_ne (by decide) dX5_pairThen_40) <|
  alls _ (s_aload_n rfl dX5_pairThen_43) <|
  alls _ (s_getf (C := RX5) (T := TX5) (N := 7) rfl (in_c inX5) (by decide) (List.mem_cons_of_mem _ wd_146) rfl dX5_pairThen_44) <|
  alls _ (s_iload_n rfl dX5_pairThen_47) <|
  alls _ (s_iload_n rfl dX5_pairThen_48) <|
  alls _ (s_callv (ct_X4_cellThen l) rfl rfl rfl (gdV wd_414 wd_415 wd_416 wd_62 wd_417) rfl rfl (by decide +kernel) ⟨Nat.le_of_ble_eq_true rfl, Nat.le_of_ble_eq_true rfl⟩ dX5_pairThen_49) <|
  alls _ (s_goto (by decide) dX5_pairThen_52) <|
  alls_nil _
set_option maxRecDepth 100000 in
theorem sX5_pairThen_17 (l : Launch) : AllS (pSnd l rmX5_pairThen yX5_pairThen.cls cX5_pairThen wsX5_pairThen 5 (some .int)) 17 kX5_pairThen_17 :=
  alls _ (s_iload_n rfl dX5_pairThen_17) <|
  alls _ (s_iconst dX5_pairThen_18) <|
  alls _ (s_bipush (by decide) dX5_pairThen_19) <|
  alls _ (s_iload_n rfl dX5_pairThen_21) <|
  alls _ (s_calls (ct_X5_refusalOf l) rfl rfl (gdS wd_413) (List.mem_cons_of_mem _ wd_411) (List.mem_cons_of_mem _ wd_412) (List.mem_cons_of_mem _ wd_60) rfl rfl (by decide +kernel) ⟨Nat.le_of_ble_eq_true rfl, Nat.le_of_ble_eq_true rfl⟩ dX5_pairThen_22) <|
  alls _ (s_istore dX5_pairThen_25) <|
  alls _ (s_iload dX5_pairThen_27) <|
  alls _ (s_if_eq (by decide) dX5_pairThen_29) <|
  alls _ (s_aload_n rfl dX5_pairThen_32) <|
  alls _ (s_iload dX5_pairThen_33) <|
  alls _ (s_callv (ct_X5_refused l) rfl rfl rfl (gdV wd_169 wd_171 wd_0 wd_60 wd_172) rfl rfl (by decide +kernel) ⟨Nat.le_of_ble_eq_true rfl, Nat.le_of_ble_eq_true rfl⟩ dX5_pairThen_35) <|
  alls _ (s_iret dX5_pairThen_38) <|
  alls_nil _
set_option maxRecDepth 100000 in
theorem sX5_pairThen_0 (l : Launch) : AllS (pSnd l rmX5_pairThen yX5_pairThen.cls cX5_pairThen wsX5_pairThen 5 (some .int)) 0 kX5_pairThen_0 :=
  alls _ (s_aload_n rfl dX5_pairThen_0) <|
  alls _ (s_getf (C := RX5) (T := TX5) (N := 7) rfl (in_c inX5) (by decide) (List.mem_cons_of_mem _ wd_143) rfl dX5_pairThen_1) <|
  alls _ (s_iload_n rfl dX5_pairThen_4) <|
  alls _ (s_callv (ct_X0_isPair l) rfl rfl rfl (gdV wd_350 wd_351 wd_352 wd_61 wd_353) rfl rfl (by decide +kernel) ⟨Nat.le_of_ble_eq_true rfl, Nat.le_of_ble_eq_true rfl⟩ dX5_pairThen_5) <|
  alls _ (s_if_ne (by decide) dX5_pairThen_8) <|
  alls _ (s_aload_n rfl dX5_pairThen_11) <|
  alls _ (s_iconst dX5_pairThen_12) <|
  alls _ (s_callv (ct_X5_refused l) rfl rfl rfl (gdV wd_169 wd_171 wd_0 wd_60 wd_172) rfl rfl (by decide +kernel) ⟨Nat.le_of_ble_eq_true rfl, Nat.le_of_ble_eq_true rfl⟩ dX5_pairThen_13) <|
  alls _ (s_iret dX5_pairThen_16) <|
  alls_nil _
def KX5_pairThen : List (Nat × pProg) := [(0, kX5_pairThen_0), (17, kX5_pairThen_17), (39, kX5_pairThen_39), (55, kX5_pairThen_55), (64, kX5_pairThen_64)]
theorem bX5_pairThen_0 : blkOf KX5_pairThen 0 = some kX5_pairThen_0 := rfl
theorem bX5_pairThen_17 : blkOf KX5_pairThen 17 = some kX5_pairThen_17 := rfl
theorem bX5_pairThen_39 : blkOf KX5_pairThen 39 = some kX5_pairThen_39 := rfl
theorem bX5_pairThen_55 : blkOf KX5_pairThen 55 = some kX5_pairThen_55 := rfl
theorem bX5_pairThen_64 : blkOf KX5_pairThen 64 = some kX5_pairThen_64 := rfl
def tX5_pairThen : pT := pM KX5_pairThen 5
theorem ct_X5_pairThen (l : Launch) : pCtr l yX5_pairThen wsX5_pairThen rmX5_pairThen 4 tX5_pairThen := ctr_of (by decide +kernel) rfl (List.forall_mem_cons.mpr ⟨sX5_pairThen_0 l, List.forall_mem_cons.mpr ⟨sX5_pairThen_17 l, List.forall_mem_cons.mpr ⟨sX5_pairThen_39 l, List.forall_mem_cons.mpr ⟨sX5_pairThen_55 l, List.forall_mem_cons.mpr ⟨sX5_pairThen_64 l, fun _ h => absurd h List.not_mem_nil⟩⟩⟩⟩⟩)
theorem dX5_bruisesThen_0 : decode cX5_bruisesThen 0 = .ok (.iload_n 1, 1) := by decide +kernel
theorem dX5_bruisesThen_1 : decode cX5_bruisesThen 1 = .ok (.iconst (-1), 1) := by decide +kernel
theorem dX5_bruisesThen_2 : decode cX5_bruisesThen 2 = .ok (.if_icmp .eq 20, 3) := by decide +kernel
theorem dX5_bruisesThen_5 : decode cX5_bruisesThen 5 = .ok (.aload_n 0, 1) := by decide +kernel
theorem dX5_bruisesThen_6 : decode cX5_bruisesThen 6 = .ok (.getfield 12, 3) := by decide +kernel
theorem dX5_bruisesThen_9 : decode cX5_bruisesThen 9 = .ok (.iload_n 1, 1) := by decide +kernel
theorem dX5_bruisesThen_10 : decode cX5_bruisesThen 10 = .ok (.invokevirtual 64, 3) := by decide +kernel
theorem dX5_bruisesThen_13 : decode cX5_bruisesThen 13 = .ok (.ifCond .ne 9, 3) := by decide +kernel
theorem dX5_bruisesThen_16 : decode cX5_bruisesThen 16 = .ok (.aload_n 0, 1) := by decide +kernel
theorem dX5_bruisesThen_17 : decode cX5_bruisesThen 17 = .ok (.iconst (-1), 1) := by decide +kernel
theorem dX5_bruisesThen_18 : decode cX5_bruisesThen 18 = .ok (.invokevirtual 44, 3) := by decide +kernel
theorem dX5_bruisesThen_21 : decode cX5_bruisesThen 21 = .ok (.ireturn, 1) := by decide +kernel
theorem dX5_bruisesThen_22 : decode cX5_bruisesThen 22 = .ok (.iload_n 2, 1) := by decide +kernel
theorem dX5_bruisesThen_23 : decode cX5_bruisesThen 23 = .ok (.iconst 0, 1) := by decide +kernel
theorem dX5_bruisesThen_24 : decode cX5_bruisesThen 24 = .ok (.bipush 60, 2) := by decide +kernel
theorem dX5_bruisesThen_26 : decode cX5_bruisesThen 26 = .ok (.iconst 0, 1) := by decide +kernel
theorem dX5_bruisesThen_27 : decode cX5_bruisesThen 27 = .ok (.invokestatic 135, 3) := by decide +kernel
theorem dX5_bruisesThen_30 : decode cX5_bruisesThen 30 = .ok (.istore_n 3, 1) := by decide +kernel
theorem dX5_bruisesThen_31 : decode cX5_bruisesThen 31 = .ok (.iload_n 3, 1) := by decide +kernel
theorem dX5_bruisesThen_32 : decode cX5_bruisesThen 32 = .ok (.ifCond .eq 9, 3) := by decide +kernel
theorem dX5_bruisesThen_35 : decode cX5_bruisesThen 35 = .ok (.aload_n 0, 1) := by decide +kernel
theorem dX5_bruisesThen_36 : decode cX5_bruisesThen 36 = .ok (.iload_n 3, 1) := by decide +kernel
theorem dX5_bruisesThen_37 : decode cX5_bruisesThen 37 = .ok (.invokevirtual 44, 3) := by decide +kernel
theorem dX5_bruisesThen_40 : decode cX5_bruisesThen 40 = .ok (.ireturn, 1) := by decide +kernel
theorem dX5_bruisesThen_41 : decode cX5_bruisesThen 41 = .ok (.iload_n 1, 1) := by decide +kernel
theorem dX5_bruisesThen_42 : decode cX5_bruisesThen 42 = .ok (.iconst (-1), 1) := by decide +kernel
theorem dX5_bruisesThen_43 : decode cX5_bruisesThen 43 = .ok (.if_icmp .ne 14, 3) := by decide +kernel
theorem dX5_bruisesThen_46 : decode cX5_bruisesThen 46 = .ok (.aload_n 0, 1) := by decide +kernel
theorem dX5_bruisesThen_47 : decode cX5_bruisesThen 47 = .ok (.getfield 24, 3) := by decide +kernel
theorem dX5_bruisesThen_50 : decode cX5_bruisesThen 50 = .ok (.iload_n 2, 1) := by decide +kernel
theorem dX5_bruisesThen_51 : decode cX5_bruisesThen 51 = .ok (.invokevirtual 145, 3) := by decide +kernel
theorem dX5_bruisesThen_54 : decode cX5_bruisesThen 54 = .ok (.goto 12, 3) := by decide +kernel
theorem dX5_bruisesThen_57 : decode cX5_bruisesThen 57 = .ok (.aload_n 0, 1) := by decide +kernel
theorem dX5_bruisesThen_58 : decode cX5_bruisesThen 58 = .ok (.getfield 24, 3) := by decide +kernel
theorem dX5_bruisesThen_61 : decode cX5_bruisesThen 61 = .ok (.iload_n 1, 1) := by decide +kernel
theorem dX5_bruisesThen_62 : decode cX5_bruisesThen 62 = .ok (.iload_n 2, 1) := by decide +kernel
theorem dX5_bruisesThen_63 : decode cX5_bruisesThen 63 = .ok (.invokevirtual 148, 3) := by decide +kernel
theorem dX5_bruisesThen_66 : decode cX5_bruisesThen 66 = .ok (.ireturn, 1) := by decide +kernel
def rmX5_bruisesThen : Room := { frames := 6, cells := 0, slots := 0, locals := 137 }
abbrev wsX5_bruisesThen : List Cond := .code yX5_bruisesThen cX5_bruisesThen 4 (some .int) :: gw_tbl
def kX5_bruisesThen_66 : pProg := (66, 1, a_iret) :: []
def kX5_bruisesThen_57 : pProg := (57, 1, a_aload 0) :: (58, 3, a_getf 0 3 3) :: (61, 1, a_iload 1) :: (62, 1, a_iload 2) :: (63, 3, a_callv 3 2 [15, 1, 2, 3, 4, 5, 6, 7, 16, 17, 18, 19, 20, 21, 22, 23] tX4_bruisesOfThen) :: (66, 0, a_fall 66) :: []
def kX5_bruisesThen_41 : pProg := (41, 1, a_iload 1) :: (42, 1, a_iconst (-1)) :: (43, 3, a_icmp_ne 57) :: (46, 1, a_aload 0) :: (47, 3, a_getf 0 3 3) :: (50, 1, a_iload 2) :: (51, 3, a_callv 2 2 [15, 1, 2, 3, 4, 5, 6, 7, 16, 17, 18, 19, 20, 21, 22, 23] tX4_allBruisesThen) :: (54, 3, a_goto 66) :: []
def kX5_bruisesThen_22 : pProg := (22, 1, a_iload 2) :: (23, 1, a_iconst 0) :: (24, 2, a_iconst 60) :: (26, 1, a_iconst 0) :: (27, 3, a_calls 4 [] tX5_refusalOf) :: (30, 1, a_istore 3) :: (31, 1, a_iload 3) :: (32, 3, a_if_eq 41) :: (35, 1, a_aload 0) :: (36, 1, a_iload 3) :: (37, 3, a_callv 2 3 [0, 1, 2, 3, 4, 5, 6, 7, 8, 9, 10, 11, 12, 13, 14, 15, 16, 17, 18, 19, 20, 21, 22, 23, 24, 25, 26, 27, 28] tX5_refused) :: (40, 1, a_iret) :: []
def kX5_bruisesThen_0 : pProg := (0, 1, a_iload 1) :: (1, 1, a_iconst (-1)) :: (2, 3, a_icmp_eq 22) :: (5, 1, a_aload 0) :: (6, 3, a_getf 0 3 0) :: (9, 1, a_iload 1) :: (10, 3, a_callv 2 0 [1, 2, 3, 4, 5, 6, 7] tX0_isMiner) :: (13, 3, a_if_ne 22) :: (16, 1, a_aload 0) :: (17, 1, a_iconst (-1)) :: (18, 3, a_callv 2 3 [0, 1, 2, 3, 4, 5, 6, 7, 8, 9, 10, 11, 12, 13, 14, 15, 16, 17, 18, 19, 20, 21, 22, 23, 24, 25, 26, 27, 28] tX5_refused) :: (21, 1, a_iret) :: []
set_option maxRecDepth 100000 in
theorem sX5_bruisesThen_66 (l : Launch) : AllS (pSnd l rmX5_bruisesThen yX5_bruisesThen.cls cX5_bruisesThen wsX5_bruisesThen 4 (some .int)) 66 kX5_bruisesThen_66 :=
  alls _ (s_iret dX5_bruisesThen_66) <|
  alls_nil _
set_option maxRecDepth 100000 in
theorem sX5_bruisesThen_57 (l : Launch) : AllS (pSnd l rmX5_bruisesThen yX5_bruisesThen.cls cX5_bruisesThen wsX5_bruisesThen 4 (some .int)) 57 kX5_bruisesThen_57 :=
  alls _ (s_aload_n rfl dX5_bruisesThen_57) <|
  alls _ (s_getf (C := RX5) (T := TX5) (N := 7) rfl (in_c inX5) (by decide) (List.mem_cons_of_mem _ wd_146) rfl dX5_bruisesThen_58) <|
  alls _ (s_iload_n rfl dX5_bruisesThen_61) <|
  alls _ (s_iload_n rfl dX5_bruisesThen_62) <|
  alls _ (s_callv (ct_X4_bruisesOfThen l) rfl rfl rfl (gdV wd_449 wd_450 wd_451 wd_62 wd_452) rfl rfl (by decide +kernel) ⟨Nat.le_of_ble_eq_true rfl, Nat.le_of_ble_eq_true rfl⟩ dX5_bruisesThen_63) <|
  alls _ s_fall (alls_nil _)
set_option maxRecDepth 100000 in
theorem sX5_bruisesThen_41 (l : Launch) : AllS (pSnd l rmX5_bruisesThen yX5_bruisesThen.cls cX5_bruisesThen wsX5_bruisesThen 4 (some .int)) 41 kX5_bruisesThen_41 :=
  alls _ (s_iload_n rfl dX5_bruisesThen_41) <|
  alls _ (s_iconst dX5_bruisesThen_42) <|
  alls _ (s_icmp_ne (by decide) dX5_bruisesThen_43) <|
  alls _ (s_aload_n rfl dX5_bruisesThen_46) <|
  alls _ (s_getf (C := RX5) (T := TX5) (N := 7) rfl (in_c inX5) (by decide) (List.mem_cons_of_mem _ wd_146) rfl dX5_bruisesThen_47) <|
  alls _ (s_iload_n rfl dX5_bruisesThen_50) <|
  alls _ (s_callv (ct_X4_allBruisesThen l) rfl rfl rfl (gdV wd_440 wd_441 wd_442 wd_62 wd_443) rfl rfl (by decide +kernel) ⟨Nat.le_of_ble_eq_true rfl, Nat.le_of_ble_eq_true rfl⟩ dX5_bruisesThen_51) <|
  alls _ (s_goto (by decide) dX5_bruisesThen_54) <|
  alls_nil _
set_option maxRecDepth 100000 in
theorem sX5_bruisesThen_22 (l : Launch) : AllS (pSnd l rmX5_bruisesThen yX5_bruisesThen.cls cX5_bruisesThen wsX5_bruisesThen 4 (some .int)) 22 kX5_bruisesThen_22 :=
  alls _ (s_iload_n rfl dX5_bruisesThen_22) <|
  alls _ (s_iconst dX5_bruisesThen_23) <|
  alls _ (s_bipush (by decide) dX5_bruisesThen_24) <|
  alls _ (s_iconst dX5_bruisesThen_26) <|
  alls _ (s_calls (ct_X5_refusalOf l) rfl rfl (gdS wd_413) (List.mem_cons_of_mem _ wd_411) (List.mem_cons_of_mem _ wd_412) (List.mem_cons_of_mem _ wd_60) rfl rfl (by decide +kernel) ⟨Nat.le_of_ble_eq_true rfl, Nat.le_of_ble_eq_true rfl⟩ dX5_bruisesThen_27) <|
  alls _ (s_istore_n rfl dX5_bruisesThen_30) <|
  alls _ (s_iload_n rfl dX5_bruisesThen_31) <|
  alls _ (s_if_eq (by decide) dX5_bruisesThen_32) <|
  alls _ (s_aload_n rfl dX5_bruisesThen_35) <|
  alls _ (s_iload_n rfl dX5_bruisesThen_36) <|
  alls _ (s_callv (ct_X5_refused l) rfl rfl rfl (gdV wd_169 wd_171 wd_0 wd_60 wd_172) rfl rfl (by decide +kernel) ⟨Nat.le_of_ble_eq_true rfl, Nat.le_of_ble_eq_true rfl⟩ dX5_bruisesThen_37) <|
  alls _ (s_iret dX5_bruisesThen_40) <|
  alls_nil _
set_option maxRecDepth 100000 in
theorem sX5_bruisesThen_0 (l : Launch) : AllS (pSnd l rmX5_bruisesThen yX5_bruisesThen.cls cX5_bruisesThen wsX5_bruisesThen 4 (some .int)) 0 kX5_bruisesThen_0 :=
  alls _ (s_iload_n rfl dX5_bruisesThen_0) <|
  alls _ (s_iconst dX5_bruisesThen_1) <|
  alls _ (s_icmp_eq (by decide) dX5_bruisesThen_2) <|
  alls _ (s_aload_n rfl dX5_bruisesThen_5) <|
  alls _ (s_getf (C := RX5) (T := TX5) (N := 7) rfl (in_c inX5) (by decide) (List.mem_cons_of_mem _ wd_143) rfl dX5_bruisesThen_6) <|
  alls _ (s_iload_n rfl dX5_bruisesThen_9) <|
  alls _ (s_callv (ct_X0_isMiner l) rfl rfl rfl (gdV wd_338 wd_339 wd_340 wd_61 wd_341) rfl rfl (by decide +kernel) ⟨Nat.le_of_ble_eq_true rfl, Nat.le_of_ble_eq_true rfl⟩ dX5_bruisesThen_10) <|
  alls _ (s_if_ne (by decide) dX5_bruisesThen_13) <|
  alls _ (s_aload_n rfl dX5_bruisesThen_16) <|
  alls _ (s_iconst dX5_bruisesThen_17) <|
  alls _ (s_callv (ct_X5_refused l) rfl rfl rfl (gdV wd_169 wd_171 wd_0 wd_60 wd_172) rfl rfl (by decide +kernel) ⟨Nat.le_of_ble_eq_true rfl, Nat.le_of_ble_eq_true rfl⟩ dX5_bruisesThen_18) <|
  alls _ (s_iret dX5_bruisesThen_21) <|
  alls_nil _
def KX5_bruisesThen : List (Nat × pProg) := [(0, kX5_bruisesThen_0), (22, kX5_bruisesThen_22), (41, kX5_bruisesThen_41), (57, kX5_bruisesThen_57), (66, kX5_bruisesThen_66)]
theorem bX5_bruisesThen_0 : blkOf KX5_bruisesThen 0 = some kX5_bruisesThen_0 := rfl
theorem bX5_bruisesThen_22 : blkOf KX5_bruisesThen 22 = some kX5_bruisesThen_22 := rfl
theorem bX5_bruisesThen_41 : blkOf KX5_bruisesThen 41 = some kX5_bruisesThen_41 := rfl
theorem bX5_bruisesThen_57 : blkOf KX5_bruisesThen 57 = some kX5_bruisesThen_57 := rfl
theorem bX5_bruisesThen_66 : blkOf KX5_bruisesThen 66 = some kX5_bruisesThen_66 := rfl
def tX5_bruisesThen : pT := pM KX5_bruisesThen 4
theorem ct_X5_bruisesThen (l : Launch) : pCtr l yX5_bruisesThen wsX5_bruisesThen rmX5_bruisesThen 3 tX5_bruisesThen := ctr_of (by decide +kernel) rfl (List.forall_mem_cons.mpr ⟨sX5_bruisesThen_0 l, List.forall_mem_cons.mpr ⟨sX5_bruisesThen_22 l, List.forall_mem_cons.mpr ⟨sX5_bruisesThen_41 l, List.forall_mem_cons.mpr ⟨sX5_bruisesThen_57 l, List.forall_mem_cons.mpr ⟨sX5_bruisesThen_66 l, fun _ h => absurd h List.not_mem_nil⟩⟩⟩⟩⟩)
theorem dX5_faced_0 : decode cX5_faced 0 = .ok (.iload_n 1, 1) := by decide +kernel
theorem dX5_faced_1 : decode cX5_faced 1 = .ok (.iconst (-1), 1) := by decide +kernel
theorem dX5_faced_2 : decode cX5_faced 2 = .ok (.if_icmp .ne 11, 3) := by decide +kernel
theorem dX5_faced_5 : decode cX5_faced 5 = .ok (.aload_n 0, 1) := by decide +kernel
theorem dX5_faced_6 : decode cX5_faced 6 = .ok (.getfield 24, 3) := by decide +kernel
theorem dX5_faced_9 : decode cX5_faced 9 = .ok (.invokevirtual 151, 3) := by decide +kernel
theorem dX5_faced_12 : decode cX5_faced 12 = .ok (.ireturn, 1) := by decide +kernel
theorem dX5_faced_13 : decode cX5_faced 13 = .ok (.iload_n 1, 1) := by decide +kernel
theorem dX5_faced_14 : decode cX5_faced 14 = .ok (.bipush (-2), 2) := by decide +kernel
theorem dX5_faced_16 : decode cX5_faced 16 = .ok (.if_icmp .ne 11, 3) := by decide +kernel
theorem dX5_faced_19 : decode cX5_faced 19 = .ok (.aload_n 0, 1) := by decide +kernel
theorem dX5_faced_20 : decode cX5_faced 20 = .ok (.getfield 24, 3) := by decide +kernel
theorem dX5_faced_23 : decode cX5_faced 23 = .ok (.invokevirtual 154, 3) := by decide +kernel
theorem dX5_faced_26 : decode cX5_faced 26 = .ok (.ireturn, 1) := by decide +kernel
theorem dX5_faced_27 : decode cX5_faced 27 = .ok (.aload_n 0, 1) := by decide +kernel
theorem dX5_faced_28 : decode cX5_faced 28 = .ok (.getfield 12, 3) := by decide +kernel
theorem dX5_faced_31 : decode cX5_faced 31 = .ok (.iload_n 1, 1) := by decide +kernel
theorem dX5_faced_32 : decode cX5_faced 32 = .ok (.invokevirtual 82, 3) := by decide +kernel
theorem dX5_faced_35 : decode cX5_faced 35 = .ok (.ifCond .eq 14, 3) := by decide +kernel
theorem dX5_faced_38 : decode cX5_faced 38 = .ok (.aload_n 0, 1) := by decide +kernel
theorem dX5_faced_39 : decode cX5_faced 39 = .ok (.getfield 24, 3) := by decide +kernel
theorem dX5_faced_42 : decode cX5_faced 42 = .ok (.iload_n 1, 1) := by decide +kernel
theorem dX5_faced_43 : decode cX5_faced 43 = .ok (.invokevirtual 157, 3) := by decide +kernel
theorem dX5_faced_46 : decode cX5_faced 46 = .ok (.goto 8, 3) := by decide +kernel
theorem dX5_faced_49 : decode cX5_faced 49 = .ok (.aload_n 0, 1) := by decide +kernel
theorem dX5_faced_50 : decode cX5_faced 50 = .ok (.iconst (-1), 1) := by decide +kernel
theorem dX5_faced_51 : decode cX5_faced 51 = .ok (.invokevirtual 44, 3) := by decide +kernel
theorem dX5_faced_54 : decode cX5_faced 54 = .ok (.ireturn, 1) := by decide +kernel
def rmX5_faced : Room := { frames := 6, cells := 0, slots := 0, locals := 140 }
abbrev wsX5_faced : List Cond := .code yX5_faced cX5_faced 2 (some .int) :: gw_tbl
def kX5_faced_54 : pProg := (54, 1, a_iret) :: []
def kX5_faced_49 : pProg := (49, 1, a_aload 0) :: (50, 1, a_iconst (-1)) :: (51, 3, a_callv 2 3 [0, 1, 2, 3, 4, 5, 6, 7, 8, 9, 10, 11, 12, 13, 14, 15, 16, 17, 18, 19, 20, 21, 22, 23, 24, 25, 26, 27, 28] tX5_refused) :: (54, 0, a_fall 54) :: []
def kX5_faced_27 : pProg := (27, 1, a_aload 0) :: (28, 3, a_getf 0 3 0) :: (31, 1, a_iload 1) :: (32, 3, a_callv 2 0 [1, 2, 3, 4, 5, 6, 7] tX0_isPair) :: (35, 3, a_if_eq 49) :: (38, 1, a_aload 0) :: (39, 3, a_getf 0 3 3) :: (42, 1, a_iload 1) :: (43, 3, a_callv 2 2 [15, 1, 2, 3, 4, 5, 6, 7, 16, 17, 18, 19, 20, 21, 22, 23] tX4_facedBehind) :: (46, 3, a_goto 54) :: []
def kX5_faced_13 : pProg := (13, 1, a_iload 1) :: (14, 2, a_iconst (-2)) :: (16, 3, a_icmp_ne 27) :: (19, 1, a_aload 0) :: (20, 3, a_getf 0 3 3) :: (23, 3, a_callv 1 2 [15, 1, 2, 3, 4, 5, 6, 7, 16, 17, 18, 19, 20, 21, 22, 23] tX4_allFaced) :: (26, 1, a_iret) :: []
def kX5_faced_0 : pProg := (0, 1, a_iload 1) :: (1, 1, a_iconst (-1)) :: (2, 3, a_icmp_ne 13) :: (5, 1, a_aload 0) :: (6, 3, a_getf 0 3 3) :: (9, 3, a_callv 1 2 [15, 1, 2, 3, 4, 5, 6, 7, 16, 17, 18, 19, 20, 21, 22, 23] tX4_firstFaced) :: (12, 1, a_iret) :: []
set_option maxRecDepth 100000 in
theorem sX5_faced_54 (l : Launch) : AllS (pSnd l rmX5_faced yX5_faced.cls cX5_faced wsX5_faced 2 (some .int)) 54 kX5_faced_54 :=
  alls _ (s_iret dX5_faced_54) <|
  alls_nil _
set_option maxRecDepth 100000 in
theorem sX5_faced_49 (l : Launch) : AllS (pSnd l rmX5_faced yX5_faced.cls cX5_faced wsX5_faced 2 (some .int)) 49 kX5_faced_49 :=
  alls _ (s_aload_n rfl dX5_faced_49) <|
  alls _ (s_iconst dX5_faced_50) <|
  alls _ (s_callv (ct_X5_refused l) rfl rfl rfl (gdV wd_169 wd_171 wd_0 wd_60 wd_172) rfl rfl (by decide +kernel) ⟨Nat.le_of_ble_eq_true rfl, Nat.le_of_ble_eq_true rfl⟩ dX5_faced_51) <|
  alls _ s_fall (alls_nil _)
set_option maxRecDepth 100000 in
theorem sX5_faced_27 (l : Launch) : AllS (pSnd l rmX5_faced yX5_faced.cls cX5_faced wsX5_faced 2 (some .int)) 27 kX5_faced_27 :=
  alls _ (s_aload_n rfl dX5_faced_27) <|
  alls _ (s_getf (C := RX5) (T := TX5) (N := 7) rfl (in_c inX5) (by decide) (List.mem_cons_of_mem _ wd_143) rfl dX5_faced_28) <|
  alls _ (s_iload_n rfl dX5_faced_31) <|
  alls _ (s_callv (ct_X0_isPair l) rfl rfl rfl (gdV wd_350 wd_351 wd_352 wd_61 wd_353) rfl rfl (by decide +kernel) ⟨Nat.le_of_ble_eq_true rfl, Nat.le_of_ble_eq_true rfl⟩ dX5_faced_32) <|
  alls _ (s_if_eq (by decide) dX5_faced_35) <|
  alls _ (s_aload_n rfl dX5_faced_38) <|
  alls _ (s_getf (C := RX5) (T := TX5) (N := 7) rfl (in_c inX5) (by decide) (List.mem_cons_of_mem _ wd_146) rfl dX5_faced_39) <|
  alls _ (s_iload_n rfl dX5_faced_42) <|
  alls _ (s_callv (ct_X4_facedBehind l) rfl rfl rfl (gdV wd_483 wd_484 wd_485 wd_62 wd_486) rfl rfl (by decide +kernel) ⟨Nat.le_of_ble_eq_true rfl, Nat.le_of_ble_eq_true rfl⟩ dX5_faced_43) <|
  alls _ (s_goto (by decide) dX5_faced_46) <|
  alls_nil _
set_option maxRecDepth 100000 in
theorem sX5_faced_13 (l : Launch) : AllS (pSnd l rmX5_faced yX5_faced.cls cX5_faced wsX5_faced 2 (some .int)) 13 kX5_faced_13 :=
  alls _ (s_iload_n rfl dX5_faced_13) <|
  alls _ (s_bipush (by decide) dX5_faced_14) <|
  alls _ (s_icmp_ne (by decide) dX5_faced_16) <|
  alls _ (s_aload_n rfl dX5_faced_19) <|
  alls _ (s_getf (C := RX5) (T := TX5) (N := 7) rfl (in_c inX5) (by decide) (List.mem_cons_of_mem _ wd_146) rfl dX5_faced_20) <|
  alls _ (s_callv (ct_X4_allFaced l) rfl rfl rfl (gdV wd_471 wd_472 wd_473 wd_62 wd_474) rfl rfl (by decide +kernel) ⟨Nat.le_of_ble_eq_true rfl, Nat.le_of_ble_eq_true rfl⟩ dX5_faced_23) <|
  alls _ (s_iret dX5_faced_26) <|
  alls_nil _
set_option maxRecDepth 100000 in
theorem sX5_faced_0 (l : Launch) : AllS (pSnd l rmX5_faced yX5_faced.cls cX5_faced wsX5_faced 2 (some .int)) 0 kX5_faced_0 :=
  alls _ (s_iload_n rfl dX5_faced_0) <|
  alls _ (s_iconst dX5_faced_1) <|
  alls _ (s_icmp_ne (by decide) dX5_faced_2) <|
  alls _ (s_aload_n rfl dX5_faced_5) <|
  alls _ (s_getf (C := RX5) (T := TX5) (N := 7) rfl (in_c inX5) (by decide) (List.mem_cons_of_mem _ wd_146) rfl dX5_faced_6) <|
  alls _ (s_callv (ct_X4_firstFaced l) rfl rfl rfl (gdV wd_458 wd_459 wd_460 wd_62 wd_461) rfl rfl (by decide +kernel) ⟨Nat.le_of_ble_eq_true rfl, Nat.le_of_ble_eq_true rfl⟩ dX5_faced_9) <|
  alls _ (s_iret dX5_faced_12) <|
  alls_nil _
def KX5_faced : List (Nat × pProg) := [(0, kX5_faced_0), (13, kX5_faced_13), (27, kX5_faced_27), (49, kX5_faced_49), (54, kX5_faced_54)]
theorem bX5_faced_0 : blkOf KX5_faced 0 = some kX5_faced_0 := rfl
theorem bX5_faced_13 : blkOf KX5_faced 13 = some kX5_faced_13 := rfl
theorem bX5_faced_27 : blkOf KX5_faced 27 = some kX5_faced_27 := rfl
theorem bX5_faced_49 : blkOf KX5_faced 49 = some kX5_faced_49 := rfl
theorem bX5_faced_54 : blkOf KX5_faced 54 = some kX5_faced_54 := rfl
def tX5_faced : pT := pM KX5_faced 2
theorem ct_X5_faced (l : Launch) : pCtr l yX5_faced wsX5_faced rmX5_faced 2 tX5_faced := ctr_of (by decide +kernel) rfl (List.forall_mem_cons.mpr ⟨sX5_faced_0 l, List.forall_mem_cons.mpr ⟨sX5_faced_13 l, List.forall_mem_cons.mpr ⟨sX5_faced_27 l, List.forall_mem_cons.mpr ⟨sX5_faced_49 l, List.forall_mem_cons.mpr ⟨sX5_faced_54 l, fun _ h => absurd h List.not_mem_nil⟩⟩⟩⟩⟩)
theorem dX5_done_0 : decode cX5_done 0 = .ok (.aload_n 0, 1) := by decide +kernel
theorem dX5_done_1 : decode cX5_done 1 = .ok (.getfield 12, 3) := by decide +kernel
theorem dX5_done_4 : decode cX5_done 4 = .ok (.iload_n 1, 1) := by decide +kernel
theorem dX5_done_5 : decode cX5_done 5 = .ok (.invokevirtual 82, 3) := by decide +kernel
theorem dX5_done_8 : decode cX5_done 8 = .ok (.ifCond .eq 14, 3) := by decide +kernel
theorem dX5_done_11 : decode cX5_done 11 = .ok (.aload_n 0, 1) := by decide +kernel
theorem dX5_done_12 : decode cX5_done 12 = .ok (.getfield 24, 3) := by decide +kernel
theorem dX5_done_15 : decode cX5_done 15 = .ok (.iload_n 1, 1) := by decide +kernel
theorem dX5_done_16 : decode cX5_done 16 = .ok (.invokevirtual 160, 3) := by decide +kernel
theorem dX5_done_19 : decode cX5_done 19 = .ok (.goto 8, 3) := by decide +kernel
theorem dX5_done_22 : decode cX5_done 22 = .ok (.aload_n 0, 1) := by decide +kernel
theorem dX5_done_23 : decode cX5_done 23 = .ok (.iconst (-1), 1) := by decide +kernel
theorem dX5_done_24 : decode cX5_done 24 = .ok (.invokevirtual 44, 3) := by decide +kernel
theorem dX5_done_27 : decode cX5_done 27 = .ok (.ireturn, 1) := by decide +kernel
def rmX5_done : Room := { frames := 6, cells := 0, slots := 0, locals := 137 }
abbrev wsX5_done : List Cond := .code yX5_done cX5_done 2 (some .int) :: gw_tbl
def kX5_done_27 : pProg := (27, 1, a_iret) :: []
def kX5_done_22 : pProg := (22, 1, a_aload 0) :: (23, 1, a_iconst (-1)) :: (24, 3, a_callv 2 3 [0, 1, 2, 3, 4, 5, 6, 7, 8, 9, 10, 11, 12, 13, 14, 15, 16, 17, 18, 19, 20, 21, 22, 23, 24, 25, 26, 27, 28] tX5_refused) :: (27, 0, a_fall 27) :: []
def kX5_done_0 : pProg := (0, 1, a_aload 0) :: (1, 3, a_getf 0 3 0) :: (4, 1, a_iload 1) :: (5, 3, a_callv 2 0 [1, 2, 3, 4, 5, 6, 7] tX0_isPair) :: (8, 3, a_if_eq 22) :: (11, 1, a_aload 0) :: (12, 3, a_getf 0 3 3) :: (15, 1, a_iload 1) :: (16, 3, a_callv 2 2 [15, 1, 2, 3, 4, 5, 6, 7, 16, 17, 18, 19, 20, 21, 22, 23] tX4_doneBehind) :: (19, 3, a_goto 27) :: []
set_option maxRecDepth 100000 in
theorem sX5_done_27 (l : Launch) : AllS (pSnd l rmX5_done yX5_done.cls cX5_done wsX5_done 2 (some .int)) 27 kX5_done_27 :=
  alls _ (s_iret dX5_done_27) <|
  alls_nil _
set_option maxRecDepth 100000 in
theorem sX5_done_22 (l : Launch) : AllS (pSnd l rmX5_done yX5_done.cls cX5_done wsX5_done 2 (some .int)) 22 kX5_done_22 :=
  alls _ (s_aload_n rfl dX5_done_22) <|
  alls _ (s_iconst dX5_done_23) <|
  alls _ (s_callv (ct_X5_refused l) rfl rfl rfl (gdV wd_169 wd_171 wd_0 wd_60 wd_172) rfl rfl (by decide +kernel) ⟨Nat.le_of_ble_eq_true rfl, Nat.le_of_ble_eq_true rfl⟩ dX5_done_24) <|
  alls _ s_fall (alls_nil _)
set_option maxRecDepth 100000 in
theorem sX5_done_0 (l : Launch) : AllS (pSnd l rmX5_done yX5_done.cls cX5_done wsX5_done 2 (some .int)) 0 kX5_done_0 :=
  alls _ (s_aload_n rfl dX5_done_0) <|
  alls _ (s_getf (C := RX5) (T := TX5) (N := 7) rfl (in_c inX5) (by decide) (List.mem_cons_of_mem _ wd_143) rfl dX5_done_1) <|
  alls _ (s_iload_n rfl dX5_done_4) <|
  alls _ (s_callv (ct_X0_isPair l) rfl rfl rfl (gdV wd_350 wd_351 wd_352 wd_61 wd_353) rfl rfl (by decide +kernel) ⟨Nat.le_of_ble_eq_true rfl, Nat.le_of_ble_eq_true rfl⟩ dX5_done_5) <|
  alls _ (s_if_eq (by decide) dX5_done_8) <|
  alls _ (s_aload_n rfl dX5_done_11) <|
  alls _ (s_getf (C := RX5) (T := TX5) (N := 7) rfl (in_c inX5) (by decide) (List.mem_cons_of_mem _ wd_146) rfl dX5_done_12) <|
  alls _ (s_iload_n rfl dX5_done_15) <|
  alls _ (s_callv (ct_X4_doneBehind l) rfl rfl rfl (gdV wd_491 wd_492 wd_493 wd_62 wd_494) rfl rfl (by decide +kernel) ⟨Nat.le_of_ble_eq_true rfl, Nat.le_of_ble_eq_true rfl⟩ dX5_done_16) <|
  alls _ (s_goto (by decide) dX5_done_19) <|
  alls_nil _
def KX5_done : List (Nat × pProg) := [(0, kX5_done_0), (22, kX5_done_22), (27, kX5_done_27)]
theorem bX5_done_0 : blkOf KX5_done 0 = some kX5_done_0 := rfl
theorem bX5_done_22 : blkOf KX5_done 22 = some kX5_done_22 := rfl
theorem bX5_done_27 : blkOf KX5_done 27 = some kX5_done_27 := rfl
def tX5_done : pT := pM KX5_done 2
theorem ct_X5_done (l : Launch) : pCtr l yX5_done wsX5_done rmX5_done 2 tX5_done := ctr_of (by decide +kernel) rfl (List.forall_mem_cons.mpr ⟨sX5_done_0 l, List.forall_mem_cons.mpr ⟨sX5_done_22 l, List.forall_mem_cons.mpr ⟨sX5_done_27 l, fun _ h => absurd h List.not_mem_nil⟩⟩⟩)
theorem dX5_hurt_0 : decode cX5_hurt 0 = .ok (.aload_n 0, 1) := by decide +kernel
theorem dX5_hurt_1 : decode cX5_hurt 1 = .ok (.getfield 12, 3) := by decide +kernel
theorem dX5_hurt_4 : decode cX5_hurt 4 = .ok (.iload_n 1, 1) := by decide +kernel
theorem dX5_hurt_5 : decode cX5_hurt 5 = .ok (.invokevirtual 64, 3) := by decide +kernel
theorem dX5_hurt_8 : decode cX5_hurt 8 = .ok (.ifCond .ne 9, 3) := by decide +kernel
theorem dX5_hurt_11 : decode cX5_hurt 11 = .ok (.aload_n 0, 1) := by decide +kernel
theorem dX5_hurt_12 : decode cX5_hurt 12 = .ok (.iconst (-1), 1) := by decide +kernel
theorem dX5_hurt_13 : decode cX5_hurt 13 = .ok (.invokevirtual 44, 3) := by decide +kernel
theorem dX5_hurt_16 : decode cX5_hurt 16 = .ok (.ireturn, 1) := by decide +kernel
theorem dX5_hurt_17 : decode cX5_hurt 17 = .ok (.iload_n 2, 1) := by decide +kernel
theorem dX5_hurt_18 : decode cX5_hurt 18 = .ok (.iconst 0, 1) := by decide +kernel
theorem dX5_hurt_19 : decode cX5_hurt 19 = .ok (.bipush 99, 2) := by decide +kernel
theorem dX5_hurt_21 : decode cX5_hurt 21 = .ok (.iconst 0, 1) := by decide +kernel
theorem dX5_hurt_22 : decode cX5_hurt 22 = .ok (.invokestatic 135, 3) := by decide +kernel
theorem dX5_hurt_25 : decode cX5_hurt 25 = .ok (.istore_n 3, 1) := by decide +kernel
theorem dX5_hurt_26 : decode cX5_hurt 26 = .ok (.iload_n 3, 1) := by decide +kernel
theorem dX5_hurt_27 : decode cX5_hurt 27 = .ok (.ifCond .eq 11, 3) := by decide +kernel
theorem dX5_hurt_30 : decode cX5_hurt 30 = .ok (.aload_n 0, 1) := by decide +kernel
theorem dX5_hurt_31 : decode cX5_hurt 31 = .ok (.iload_n 3, 1) := by decide +kernel
theorem dX5_hurt_32 : decode cX5_hurt 32 = .ok (.invokevirtual 44, 3) := by decide +kernel
theorem dX5_hurt_35 : decode cX5_hurt 35 = .ok (.goto 12, 3) := by decide +kernel
theorem dX5_hurt_38 : decode cX5_hurt 38 = .ok (.aload_n 0, 1) := by decide +kernel
theorem dX5_hurt_39 : decode cX5_hurt 39 = .ok (.getfield 24, 3) := by decide +kernel
theorem dX5_hurt_42 : decode cX5_hurt 42 = .ok (.iload_n 1, 1) := by decide +kernel
theorem dX5_hurt_43 : decode cX5_hurt 43 = .ok (.iload_n 2, 1) := by decide +kernel
theorem dX5_hurt_44 : decode cX5_hurt 44 = .ok (.invokevirtual 163, 3) := by decide +kernel
theorem dX5_hurt_47 : decode cX5_hurt 47 = .ok (.ireturn, 1) := by decide +kernel
def rmX5_hurt : Room := { frames := 6, cells := 0, slots := 0, locals := 138 }
abbrev wsX5_hurt : List Cond := .code yX5_hurt cX5_hurt 4 (some .int) :: gw_tbl
def kX5_hurt_47 : pProg := (47, 1, a_iret) :: []
def kX5_hurt_38 : pProg := (38, 1, a_aload 0) :: (39, 3, a_getf 0 3 3) :: (42, 1, a_iload 1) :: (43, 1, a_iload 2) :: (44, 3, a_callv 3 2 [15, 1, 2, 3, 4, 5, 6, 7, 16, 17, 18, 19, 20, 21, 22, 23] tX4_hurtBehind) :: (47, 0, a_fall 47) :: []
def kX5_hurt_17 : pProg := (17, 1, a_iload 2) :: (18, 1, a_iconst 0) :: (19, 2, a_iconst 99) :: (21, 1, a_iconst 0) :: (22, 3, a_calls 4 [] tX5_refusalOf) :: (25, 1, a_istore 3) :: (26, 1, a_iload 3) :: (27, 3, a_if_eq 38) :: (30, 1, a_aload 0) :: (31, 1, a_iload 3) :: (32, 3, a_callv 2 3 [0, 1, 2, 3, 4, 5, 6, 7, 8, 9, 10, 11, 12, 13, 14, 15, 16, 17, 18, 19, 20, 21, 22, 23, 24, 25, 26, 27, 28] tX5_refused) :: (35, 3, a_goto 47) :: []
def kX5_hurt_0 : pProg := (0, 1, a_aload 0) :: (1, 3, a_getf 0 3 0) :: (4, 1, a_iload 1) :: (5, 3, a_callv 2 0 [1, 2, 3, 4, 5, 6, 7] tX0_isMiner) :: (8, 3, a_if_ne 17) :: (11, 1, a_aload 0) :: (12, 1, a_iconst (-1)) :: (13, 3, a_callv 2 3 [0, 1, 2, 3, 4, 5, 6, 7, 8, 9, 10, 11, 12, 13, 14, 15, 16, 17, 18, 19, 20, 21, 22, 23, 24, 25, 26, 27, 28] tX5_refused) :: (16, 1, a_iret) :: []
set_option maxRecDepth 100000 in
theorem sX5_hurt_47 (l : Launch) : AllS (pSnd l rmX5_hurt yX5_hurt.cls cX5_hurt wsX5_hurt 4 (some .int)) 47 kX5_hurt_47 :=
  alls _ (s_iret dX5_hurt_47) <|
  alls_nil _
set_option maxRecDepth 100000 in
theorem sX5_hurt_38 (l : Launch) : AllS (pSnd l rmX5_hurt yX5_hurt.cls cX5_hurt wsX5_hurt 4 (some .int)) 38 kX5_hurt_38 :=
  alls _ (s_aload_n rfl dX5_hurt_38) <|
  alls _ (s_getf (C := RX5) (T := TX5) (N := 7) rfl (in_c inX5) (by decide) (List.mem_cons_of_mem _ wd_146) rfl dX5_hurt_39) <|
  alls _ (s_iload_n rfl dX5_hurt_42) <|
  alls _ (s_iload_n rfl dX5_hurt_43) <|
  alls _ (s_callv (ct_X4_hurtBehind l) rfl rfl rfl (gdV wd_499 wd_500 wd_501 wd_62 wd_502) rfl rfl (by decide +kernel) ⟨Nat.le_of_ble_eq_true rfl, Nat.le_of_ble_eq_true rfl⟩ dX5_hurt_44) <|
  alls _ s_fall (alls_nil _)
set_option maxRecDepth 100000 in
theorem sX5_hurt_17 (l : Launch) : AllS (pSnd l rmX5_hurt yX5_hurt.cls cX5_hurt wsX5_hurt 4 (some .int)) 17 kX5_hurt_17 :=
  alls _ (s_iload_n rfl dX5_hurt_17) <|
  alls _ (s_iconst dX5_hurt_18) <|
  alls _ (s_bipush (by decide) dX5_hurt_19) <|
  alls _ (s_iconst dX5_hurt_21) <|
  alls _ (s_calls (ct_X5_refusalOf l) rfl rfl (gdS wd_413) (List.mem_cons_of_mem _ wd_411) (List.mem_cons_of_mem _ wd_412) (List.mem_cons_of_mem _ wd_60) rfl rfl (by decide +kernel) ⟨Nat.le_of_ble_eq_true rfl, Nat.le_of_ble_eq_true rfl⟩ dX5_hurt_22) <|
  alls _ (s_istore_n rfl dX5_hurt_25) <|
  alls _ (s_iload_n rfl dX5_hurt_26) <|
  alls _ (s_if_eq (by decide) dX5_hurt_27) <|
  alls _ (s_aload_n rfl dX5_hurt_30) <|
  alls _ (s_iload_n rfl dX5_hurt_31) <|
  alls _ (s_callv (ct_X5_refused l) rfl rfl rfl (gdV wd_169 wd_171 wd_0 wd_60 wd_172) rfl rfl (by decide +kernel) ⟨Nat.le_of_ble_eq_true rfl, Nat.le_of_ble_eq_true rfl⟩ dX5_hurt_32) <|
  alls _ (s_goto (by decide) dX5_hurt_35) <|
  alls_nil _
set_option maxRecDepth 100000 in
theorem sX5_hurt_0 (l : Launch) : AllS (pSnd l rmX5_hurt yX5_hurt.cls cX5_hurt wsX5_hurt 4 (some .int)) 0 kX5_hurt_0 :=
  alls _ (s_aload_n rfl dX5_hurt_0) <|
  alls _ (s_getf (C := RX5) (T := TX5) (N := 7) rfl (in_c inX5) (by decide) (List.mem_cons_of_mem _ wd_143) rfl dX5_hurt_1) <|
  alls _ (s_iload_n rfl dX5_hurt_4) <|
  alls _ (s_callv (ct_X0_isMiner l) rfl rfl rfl (gdV wd_338 wd_339 wd_340 wd_61 wd_341) rfl rfl (by decide +kernel) ⟨Nat.le_of_ble_eq_true rfl, Nat.le_of_ble_eq_true rfl⟩ dX5_hurt_5) <|
  alls _ (s_if_ne (by decide) dX5_hurt_8) <|
  alls _ (s_aload_n rfl dX5_hurt_11) <|
  alls _ (s_iconst dX5_hurt_12) <|
  alls _ (s_callv (ct_X5_refused l) rfl rfl rfl (gdV wd_169 wd_171 wd_0 wd_60 wd_172) rfl rfl (by decide +kernel) ⟨Nat.le_of_ble_eq_true rfl, Nat.le_of_ble_eq_true rfl⟩ dX5_hurt_13) <|
  alls _ (s_iret dX5_hurt_16) <|
  alls_nil _
def KX5_hurt : List (Nat × pProg) := [(0, kX5_hurt_0), (17, kX5_hurt_17), (38, kX5_hurt_38), (47, kX5_hurt_47)]
theorem bX5_hurt_0 : blkOf KX5_hurt 0 = some kX5_hurt_0 := rfl
theorem bX5_hurt_17 : blkOf KX5_hurt 17 = some kX5_hurt_17 := rfl
theorem bX5_hurt_38 : blkOf KX5_hurt 38 = some kX5_hurt_38 := rfl
theorem bX5_hurt_47 : blkOf KX5_hurt 47 = some kX5_hurt_47 := rfl
def tX5_hurt : pT := pM KX5_hurt 4
theorem ct_X5_hurt (l : Launch) : pCtr l yX5_hurt wsX5_hurt rmX5_hurt 3 tX5_hurt := ctr_of (by decide +kernel) rfl (List.forall_mem_cons.mpr ⟨sX5_hurt_0 l, List.forall_mem_cons.mpr ⟨sX5_hurt_17 l, List.forall_mem_cons.mpr ⟨sX5_hurt_38 l, List.forall_mem_cons.mpr ⟨sX5_hurt_47 l, fun _ h => absurd h List.not_mem_nil⟩⟩⟩⟩)
theorem dX5_begins_0 : decode cX5_begins 0 = .ok (.aload_n 0, 1) := by decide +kernel
theorem dX5_begins_1 : decode cX5_begins 1 = .ok (.getfield 12, 3) := by decide +kernel
theorem dX5_begins_4 : decode cX5_begins 4 = .ok (.iload_n 1, 1) := by decide +kernel
theorem dX5_begins_5 : decode cX5_begins 5 = .ok (.invokevirtual 82, 3) := by decide +kernel
theorem dX5_begins_8 : decode cX5_begins 8 = .ok (.ifCond .eq 14, 3) := by decide +kernel
theorem dX5_begins_11 : decode cX5_begins 11 = .ok (.aload_n 0, 1) := by decide +kernel
theorem dX5_begins_12 : decode cX5_begins 12 = .ok (.getfield 24, 3) := by decide +kernel
theorem dX5_begins_15 : decode cX5_begins 15 = .ok (.iload_n 1, 1) := by decide +kernel
theorem dX5_begins_16 : decode cX5_begins 16 = .ok (.invokevirtual 166, 3) := by decide +kernel
theorem dX5_begins_19 : decode cX5_begins 19 = .ok (.goto 8, 3) := by decide +kernel
theorem dX5_begins_22 : decode cX5_begins 22 = .ok (.aload_n 0, 1) := by decide +kernel
theorem dX5_begins_23 : decode cX5_begins 23 = .ok (.iconst (-1), 1) := by decide +kernel
theorem dX5_begins_24 : decode cX5_begins 24 = .ok (.invokevirtual 44, 3) := by decide +kernel
theorem dX5_begins_27 : decode cX5_begins 27 = .ok (.ireturn, 1) := by decide +kernel
def rmX5_begins : Room := { frames := 6, cells := 0, slots := 0, locals := 141 }
abbrev wsX5_begins : List Cond := .code yX5_begins cX5_begins 2 (some .int) :: gw_tbl
def kX5_begins_27 : pProg := (27, 1, a_iret) :: []
def kX5_begins_22 : pProg := (22, 1, a_aload 0) :: (23, 1, a_iconst (-1)) :: (24, 3, a_callv 2 3 [0, 1, 2, 3, 4, 5, 6, 7, 8, 9, 10, 11, 12, 13, 14, 15, 16, 17, 18, 19, 20, 21, 22, 23, 24, 25, 26, 27, 28] tX5_refused) :: (27, 0, a_fall 27) :: []
def kX5_begins_0 : pProg := (0, 1, a_aload 0) :: (1, 3, a_getf 0 3 0) :: (4, 1, a_iload 1) :: (5, 3, a_callv 2 0 [1, 2, 3, 4, 5, 6, 7] tX0_isPair) :: (8, 3, a_if_eq 22) :: (11, 1, a_aload 0) :: (12, 3, a_getf 0 3 3) :: (15, 1, a_iload 1) :: (16, 3, a_callv 2 2 [15, 1, 2, 3, 4, 5, 6, 7, 16, 17, 18, 19, 20, 21, 22, 23] tX4_bestToSay) :: (19, 3, a_goto 27) :: []
set_option maxRecDepth 100000 in
theorem sX5_begins_27 (l : Launch) : AllS (pSnd l rmX5_begins yX5_begins.cls cX5_begins wsX5_begins 2 (some .int)) 27 kX5_begins_27 :=
  alls _ (s_iret dX5_begins_27) <|
  alls_nil _
set_option maxRecDepth 100000 in
theorem sX5_begins_22 (l : Launch) : AllS (pSnd l rmX5_begins yX5_begins.cls cX5_begins wsX5_begins 2 (some .int)) 22 kX5_begins_22 :=
  alls _ (s_aload_n rfl dX5_begins_22) <|
  alls _ (s_iconst dX5_begins_23) <|
  alls _ (s_callv (ct_X5_refused l) rfl rfl rfl (gdV wd_169 wd_171 wd_0 wd_60 wd_172) rfl rfl (by decide +kernel) ⟨Nat.le_of_ble_eq_true rfl, Nat.le_of_ble_eq_true rfl⟩ dX5_begins_24) <|
  alls _ s_fall (alls_nil _)
set_option maxRecDepth 100000 in
theorem sX5_begins_0 (l : Launch) : AllS (pSnd l rmX5_begins yX5_begins.cls cX5_begins wsX5_begins 2 (some .int)) 0 kX5_begins_0 :=
  alls _ (s_aload_n rfl dX5_begins_0) <|
  alls _ (s_getf (C := RX5) (T := TX5) (N := 7) rfl (in_c inX5) (by decide) (List.mem_cons_of_mem _ wd_143) rfl dX5_begins_1) <|
  alls _ (s_iload_n rfl dX5_begins_4) <|
  alls _ (s_callv (ct_X0_isPair l) rfl rfl rfl (gdV wd_350 wd_351 wd_352 wd_61 wd_353) rfl rfl (by decide +kernel) ⟨Nat.le_of_ble_eq_true rfl, Nat.le_of_ble_eq_true rfl⟩ dX5_begins_5) <|
  alls _ (s_if_eq (by decide) dX5_begins_8) <|
  alls _ (s_aload_n rfl dX5_begins_11) <|
  alls _ (s_getf (C := RX5) (T := TX5) (N := 7) rfl (in_c inX5) (by decide) (List.mem_cons_of_mem _ wd_146) rfl dX5_begins_12) <|
  alls _ (s_iload_n rfl dX5_begins_15) <|
  alls _ (s_callv (ct_X4_bestToSay l) rfl rfl rfl (gdV wd_507 wd_508 wd_509 wd_62 wd_510) rfl rfl (by decide +kernel) ⟨Nat.le_of_ble_eq_true rfl, Nat.le_of_ble_eq_true rfl⟩ dX5_begins_16) <|
  alls _ (s_goto (by decide) dX5_begins_19) <|
  alls_nil _
def KX5_begins : List (Nat × pProg) := [(0, kX5_begins_0), (22, kX5_begins_22), (27, kX5_begins_27)]
theorem bX5_begins_0 : blkOf KX5_begins 0 = some kX5_begins_0 := rfl
theorem bX5_begins_22 : blkOf KX5_begins 22 = some kX5_begins_22 := rfl
theorem bX5_begins_27 : blkOf KX5_begins 27 = some kX5_begins_27 := rfl
def tX5_begins : pT := pM KX5_begins 2
theorem ct_X5_begins (l : Launch) : pCtr l yX5_begins wsX5_begins rmX5_begins 2 tX5_begins := ctr_of (by decide +kernel) rfl (List.forall_mem_cons.mpr ⟨sX5_begins_0 l, List.forall_mem_cons.mpr ⟨sX5_begins_22 l, List.forall_mem_cons.mpr ⟨sX5_begins_27 l, fun _ h => absurd h List.not_mem_nil⟩⟩⟩)
theorem dX5_clears_0 : decode cX5_clears 0 = .ok (.iload_n 1, 1) := by decide +kernel
theorem dX5_clears_1 : decode cX5_clears 1 = .ok (.iconst 0, 1) := by decide +kernel
theorem dX5_clears_2 : decode cX5_clears 2 = .ok (.bipush 40, 2) := by decide +kernel
theorem dX5_clears_4 : decode cX5_clears 4 = .ok (.iconst 0, 1) := by decide +kernel
theorem dX5_clears_5 : decode cX5_clears 5 = .ok (.invokestatic 135, 3) := by decide +kernel
theorem dX5_clears_8 : decode cX5_clears 8 = .ok (.istore_n 2, 1) := by decide +kernel
theorem dX5_clears_9 : decode cX5_clears 9 = .ok (.iload_n 2, 1) := by decide +kernel
theorem dX5_clears_10 : decode cX5_clears 10 = .ok (.ifCond .eq 11, 3) := by decide +kernel
theorem dX5_clears_13 : decode cX5_clears 13 = .ok (.aload_n 0, 1) := by decide +kernel
theorem dX5_clears_14 : decode cX5_clears 14 = .ok (.iload_n 2, 1) := by decide +kernel
theorem dX5_clears_15 : decode cX5_clears 15 = .ok (.invokevirtual 44, 3) := by decide +kernel
theorem dX5_clears_18 : decode cX5_clears 18 = .ok (.goto 11, 3) := by decide +kernel
theorem dX5_clears_21 : decode cX5_clears 21 = .ok (.aload_n 0, 1) := by decide +kernel
theorem dX5_clears_22 : decode cX5_clears 22 = .ok (.getfield 24, 3) := by decide +kernel
theorem dX5_clears_25 : decode cX5_clears 25 = .ok (.iload_n 1, 1) := by decide +kernel
theorem dX5_clears_26 : decode cX5_clears 26 = .ok (.invokevirtual 169, 3) := by decide +kernel
theorem dX5_clears_29 : decode cX5_clears 29 = .ok (.ireturn, 1) := by decide +kernel
def rmX5_clears : Room := { frames := 6, cells := 0, slots := 0, locals := 139 }
abbrev wsX5_clears : List Cond := .code yX5_clears cX5_clears 3 (some .int) :: gw_tbl
def kX5_clears_29 : pProg := (29, 1, a_iret) :: []
def kX5_clears_21 : pProg := (21, 1, a_aload 0) :: (22, 3, a_getf 0 3 3) :: (25, 1, a_iload 1) :: (26, 3, a_callv 2 2 [15, 1, 2, 3, 4, 5, 6, 7, 16, 17, 18, 19, 20, 21, 22, 23] tX4_dearestCell) :: (29, 0, a_fall 29) :: []
def kX5_clears_0 : pProg := (0, 1, a_iload 1) :: (1, 1, a_iconst 0) :: (2, 2, a_iconst 40) :: (4, 1, a_iconst 0) :: (5, 3, a_calls 4 [] tX5_refusalOf) :: (8, 1, a_istore 2) :: (9, 1, a_iload 2) :: (10, 3, a_if_eq 21) :: (13, 1, a_aload 0) :: (14, 1, a_iload 2) :: (15, 3, a_callv 2 3 [0, 1, 2, 3, 4, 5, 6, 7, 8, 9, 10, 11, 12, 13, 14, 15, 16, 17, 18, 19, 20, 21, 22, 23, 24, 25, 26, 27, 28] tX5_refused) :: (18, 3, a_goto 29) :: []
set_option maxRecDepth 100000 in
theorem sX5_clears_29 (l : Launch) : AllS (pSnd l rmX5_clears yX5_clears.cls cX5_clears wsX5_clears 3 (some .int)) 29 kX5_clears_29 :=
  alls _ (s_iret dX5_clears_29) <|
  alls_nil _
set_option maxRecDepth 100000 in
theorem sX5_clears_21 (l : Launch) : AllS (pSnd l rmX5_clears yX5_clears.cls cX5_clears wsX5_clears 3 (some .int)) 21 kX5_clears_21 :=
  alls _ (s_aload_n rfl dX5_clears_21) <|
  alls _ (s_getf (C := RX5) (T := TX5) (N := 7) rfl (in_c inX5) (by decide) (List.mem_cons_of_mem _ wd_146) rfl dX5_clears_22) <|
  alls _ (s_iload_n rfl dX5_clears_25) <|
  alls _ (s_callv (ct_X4_dearestCell l) rfl rfl rfl (gdV wd_516 wd_517 wd_518 wd_62 wd_519) rfl rfl (by decide +kernel) ⟨Nat.le_of_ble_eq_true rfl, Nat.le_of_ble_eq_true rfl⟩ dX5_clears_26) <|
  alls _ s_fall (alls_nil _)
set_option maxRecDepth 100000 in
theorem sX5_clears_0 (l : Launch) : AllS (pSnd l rmX5_clears yX5_clears.cls cX5_clears wsX5_clears 3 (some .int)) 0 kX5_clears_0 :=
  alls _ (s_iload_n rfl dX5_clears_0) <|
  alls _ (s_iconst dX5_clears_1) <|
  alls _ (s_bipush (by decide) dX5_clears_2) <|
  alls _ (s_iconst dX5_clears_4) <|
  alls _ (s_calls (ct_X5_refusalOf l) rfl rfl (gdS wd_413) (List.mem_cons_of_mem _ wd_411) (List.mem_cons_of_mem _ wd_412) (List.mem_cons_of_mem _ wd_60) rfl rfl (by decide +kernel) ⟨Nat.le_of_ble_eq_true rfl, Nat.le_of_ble_eq_true rfl⟩ dX5_clears_5) <|
  alls _ (s_istore_n rfl dX5_clears_8) <|
  alls _ (s_iload_n rfl dX5_clears_9) <|
  alls _ (s_if_eq (by decide) dX5_clears_10) <|
  alls _ (s_aload_n rfl dX5_clears_13) <|
  alls _ (s_iload_n rfl dX5_clears_14) <|
  alls _ (s_callv (ct_X5_refused l) rfl rfl rfl (gdV wd_169 wd_171 wd_0 wd_60 wd_172) rfl rfl (by decide +kernel) ⟨Nat.le_of_ble_eq_true rfl, Nat.le_of_ble_eq_true rfl⟩ dX5_clears_15) <|
  alls _ (s_goto (by decide) dX5_clears_18) <|
  alls_nil _
def KX5_clears : List (Nat × pProg) := [(0, kX5_clears_0), (21, kX5_clears_21), (29, kX5_clears_29)]
theorem bX5_clears_0 : blkOf KX5_clears 0 = some kX5_clears_0 := rfl
theorem bX5_clears_21 : blkOf KX5_clears 21 = some kX5_clears_21 := rfl
theorem bX5_clears_29 : blkOf KX5_clears 29 = some kX5_clears_29 := rfl
def tX5_clears : pT := pM KX5_clears 3
theorem ct_X5_clears (l : Launch) : pCtr l yX5_clears wsX5_clears rmX5_clears 2 tX5_clears := ctr_of (by decide +kernel) rfl (List.forall_mem_cons.mpr ⟨sX5_clears_0 l, List.forall_mem_cons.mpr ⟨sX5_clears_21 l, List.forall_mem_cons.mpr ⟨sX5_clears_29 l, fun _ h => absurd h List.not_mem_nil⟩⟩⟩)
theorem dX5_change_0 : decode cX5_change 0 = .ok (.aload_n 0, 1) := by decide +kernel
theorem dX5_change_1 : decode cX5_change 1 = .ok (.getfield 24, 3) := by decide +kernel
theorem dX5_change_4 : decode cX5_change 4 = .ok (.invokevirtual 172, 3) := by decide +kernel
theorem dX5_change_7 : decode cX5_change 7 = .ok (.ireturn, 1) := by decide +kernel
def rmX5_change : Room := { frames := 7, cells := 0, slots := 0, locals := 160 }
abbrev wsX5_change : List Cond := .code yX5_change cX5_change 1 (some .int) :: gw_tbl
def kX5_change_0 : pProg := (0, 1, a_aload 0) :: (1, 3, a_getf 0 3 3) :: (4, 3, a_callv 1 2 [15, 1, 2, 3, 4, 5, 6, 7, 16, 17, 18, 19, 20, 21, 22, 23] tX4_bestChange) :: (7, 1, a_iret) :: []
set_option maxRecDepth 100000 in
theorem sX5_change_0 (l : Launch) : AllS (pSnd l rmX5_change yX5_change.cls cX5_change wsX5_change 1 (some .int)) 0 kX5_change_0 :=
  alls _ (s_aload_n rfl dX5_change_0) <|
  alls _ (s_getf (C := RX5) (T := TX5) (N := 7) rfl (in_c inX5) (by decide) (List.mem_cons_of_mem _ wd_146) rfl dX5_change_1) <|
  alls _ (s_callv (ct_X4_bestChange l) rfl rfl rfl (gdV wd_525 wd_526 wd_527 wd_62 wd_528) rfl rfl (by decide +kernel) ⟨Nat.le_of_ble_eq_true rfl, Nat.le_of_ble_eq_true rfl⟩ dX5_change_4) <|
  alls _ (s_iret dX5_change_7) <|
  alls_nil _
def KX5_change : List (Nat × pProg) := [(0, kX5_change_0)]
theorem bX5_change_0 : blkOf KX5_change 0 = some kX5_change_0 := rfl
def tX5_change : pT := pM KX5_change 1
theorem ct_X5_change (l : Launch) : pCtr l yX5_change wsX5_change rmX5_change 1 tX5_change := ctr_of (by decide +kernel) rfl (List.forall_mem_cons.mpr ⟨sX5_change_0 l, fun _ h => absurd h List.not_mem_nil⟩)
theorem dX5_bestKind_0 : decode cX5_bestKind 0 = .ok (.aload_n 0, 1) := by decide +kernel
theorem dX5_bestKind_1 : decode cX5_bestKind 1 = .ok (.getfield 12, 3) := by decide +kernel
theorem dX5_bestKind_4 : decode cX5_bestKind 4 = .ok (.iload_n 1, 1) := by decide +kernel
theorem dX5_bestKind_5 : decode cX5_bestKind 5 = .ok (.invokevirtual 64, 3) := by decide +kernel
theorem dX5_bestKind_8 : decode cX5_bestKind 8 = .ok (.ifCond .ne 9, 3) := by decide +kernel
theorem dX5_bestKind_11 : decode cX5_bestKind 11 = .ok (.aload_n 0, 1) := by decide +kernel
theorem dX5_bestKind_12 : decode cX5_bestKind 12 = .ok (.iconst (-1), 1) := by decide +kernel
theorem dX5_bestKind_13 : decode cX5_bestKind 13 = .ok (.invokevirtual 44, 3) := by decide +kernel
theorem dX5_bestKind_16 : decode cX5_bestKind 16 = .ok (.ireturn, 1) := by decide +kernel
theorem dX5_bestKind_17 : decode cX5_bestKind 17 = .ok (.iload_n 2, 1) := by decide +kernel
theorem dX5_bestKind_18 : decode cX5_bestKind 18 = .ok (.ifCond .eq 15, 3) := by decide +kernel
theorem dX5_bestKind_21 : decode cX5_bestKind 21 = .ok (.iload_n 2, 1) := by decide +kernel
theorem dX5_bestKind_22 : decode cX5_bestKind 22 = .ok (.iconst 1, 1) := by decide +kernel
theorem dX5_bestKind_23 : decode cX5_bestKind 23 = .ok (.if_icmp .eq 10, 3) := by decide +kernel
theorem dX5_bestKind_26 : decode cX5_bestKind 26 = .ok (.aload_n 0, 1) := by decide +kernel
theorem dX5_bestKind_27 : decode cX5_bestKind 27 = .ok (.bipush (-2), 2) := by decide +kernel
theorem dX5_bestKind_29 : decode cX5_bestKind 29 = .ok (.invokevirtual 44, 3) := by decide +kernel
theorem dX5_bestKind_32 : decode cX5_bestKind 32 = .ok (.ireturn, 1) := by decide +kernel
theorem dX5_bestKind_33 : decode cX5_bestKind 33 = .ok (.aload_n 0, 1) := by decide +kernel
theorem dX5_bestKind_34 : decode cX5_bestKind 34 = .ok (.getfield 24, 3) := by decide +kernel
theorem dX5_bestKind_37 : decode cX5_bestKind 37 = .ok (.iload_n 1, 1) := by decide +kernel
theorem dX5_bestKind_38 : decode cX5_bestKind 38 = .ok (.iload_n 2, 1) := by decide +kernel
theorem dX5_bestKind_39 : decode cX5_bestKind 39 = .ok (.invokevirtual 175, 3) := by decide +kernel
theorem dX5_bestKind_42 : decode cX5_bestKind 42 = .ok (.ireturn, 1) := by decide +kernel
def rmX5_bestKind : Room := { frames := 6, cells := 0, slots := 0, locals := 142 }
abbrev wsX5_bestKind : List Cond := .code yX5_bestKind cX5_bestKind 3 (some .int) :: gw_tbl
def kX5_bestKind_33 : pProg := (33, 1, a_aload 0) :: (34, 3, a_getf 0 3 3) :: (37, 1, a_iload 1) :: (38, 1, a_iload 2) :: (39, 3, a_callv 3 2 [15, 1, 2, 3, 4, 5, 6, 7, 16, 17, 18, 19, 20, 21, 22, 23] tX4_soonestKind) :: (42, 1, a_iret) :: []
def kX5_bestKind_17 : pProg := (17, 1, a_iload 2) :: (18, 3, a_if_eq 33) :: (21, 1, a_iload 2) :: (22, 1, a_iconst 1) :: (23, 3, a_icmp_eq 33) :: (26, 1, a_aload 0) :: (27, 2, a_iconst (-2)) :: (29, 3, a_callv 2 3 [0, 1, 2, 3, 4, 5, 6, 7, 8, 9, 10, 11, 12, 13, 14, 15, 16, 17, 18, 19, 20, 21, 22, 23, 24, 25, 26, 27, 28] tX5_refused) :: (32, 1, a_iret) :: []
def kX5_bestKind_0 : pProg := (0, 1, a_aload 0) :: (1, 3, a_getf 0 3 0) :: (4, 1, a_iload 1) :: (5, 3, a_callv 2 0 [1, 2, 3, 4, 5, 6, 7] tX0_isMiner) :: (8, 3, a_if_ne 17) :: (11, 1, a_aload 0) :: (12, 1, a_iconst (-1)) :: (13, 3, a_callv 2 3 [0, 1, 2, 3, 4, 5, 6, 7, 8, 9, 10, 11, 12, 13, 14, 15, 16, 17, 18, 19, 20, 21, 22, 23, 24, 25, 26, 27, 28] tX5_refused) :: (16, 1, a_iret) :: []
set_option maxRecDepth 100000 in
theorem sX5_bestKind_33 (l : Launch) : AllS (pSnd l rmX5_bestKind yX5_bestKind.cls cX5_bestKind wsX5_bestKind 3 (some .int)) 33 kX5_bestKind_33 :=
  alls _ (s_aload_n rfl dX5_bestKind_33) <|
  alls _ (s_getf (C := RX5) (T := TX5) (N := 7) rfl (in_c inX5) (by decide) (List.mem_cons_of_mem _ wd_146) rfl dX5_bestKind_34) <|
  alls _ (s_iload_n rfl dX5_bestKind_37) <|
  alls _ (s_iload_n rfl dX5_bestKind_38) <|
  alls _ (s_callv (ct_X4_soonestKind l) rfl rfl rfl (gdV wd_536 wd_537 wd_538 wd_62 wd_539) rfl rfl (by decide +kernel) ⟨Nat.le_of_ble_eq_true rfl, Nat.le_of_ble_eq_true rfl⟩ dX5_bestKind_39) <|
  alls _ (s_iret dX5_bestKind_42) <|
  alls_nil _
set_option maxRecDepth 100000 in
theorem sX5_bestKind_17 (l : Launch) : AllS (pSnd l rmX5_bestKind yX5_bestKind.cls cX5_bestKind wsX5_bestKind 3 (some .int)) 17 kX5_bestKind_17 :=
  alls _ (s_iload_n rfl dX5_bestKind_17) <|
  alls _ (s_if_eq (by decide) dX5_bestKind_18) <|
  alls _ (s_iload_n rfl dX5_bestKind_21) <|
  alls _ (s_iconst dX5_bestKind_22) <|
  alls _ (s_icmp_eq (by decide) dX5_bestKind_23) <|
  alls _ (s_aload_n rfl dX5_bestKind_26) <|
  alls _ (s_bipush (by decide) dX5_bestKind_27) <|
  alls _ (s_callv (ct_X5_refused l) rfl rfl rfl (gdV wd_169 wd_171 wd_0 wd_60 wd_172) rfl rfl (by decide +kernel) ⟨Nat.le_of_ble_eq_true rfl, Nat.le_of_ble_eq_true rfl⟩ dX5_bestKind_29) <|
  alls _ (s_iret dX5_bestKind_32) <|
  alls_nil _
set_option maxRecDepth 100000 in
theorem sX5_bestKind_0 (l : Launch) : AllS (pSnd l rmX5_bestKind yX5_bestKind.cls cX5_bestKind wsX5_bestKind 3 (some .int)) 0 kX5_bestKind_0 :=
  alls _ (s_aload_n rfl dX5_bestKind_0) <|
  alls _ (s_getf (C := RX5) (T := TX5) (N := 7) rfl (in_c inX5) (by decide) (List.mem_cons_of_mem _ wd_143) rfl dX5_bestKind_1) <|
  alls _ (s_iload_n rfl dX5_bestKind_4) <|
  alls _ (s_callv (ct_X0_isMiner l) rfl rfl rfl (gdV wd_338 wd_339 wd_340 wd_61 wd_341) rfl rfl (by decide +kernel) ⟨Nat.le_of_ble_eq_true rfl, Nat.le_of_ble_eq_true rfl⟩ dX5_bestKind_5) <|
  alls _ (s_if_ne (by decide) dX5_bestKind_8) <|
  alls _ (s_aload_n rfl dX5_bestKind_11) <|
  alls _ (s_iconst dX5_bestKind_12) <|
  alls _ (s_callv (ct_X5_refused l) rfl rfl rfl (gdV wd_169 wd_171 wd_0 wd_60 wd_172) rfl rfl (by decide +kernel) ⟨Nat.le_of_ble_eq_true rfl, Nat.le_of_ble_eq_true rfl⟩ dX5_bestKind_13) <|
  alls _ (s_iret dX5_bestKind_16) <|
  alls_nil _
def KX5_bestKind : List (Nat × pProg) := [(0, kX5_bestKind_0), (17, kX5_bestKind_17), (33, kX5_bestKind_33)]
theorem bX5_bestKind_0 : blkOf KX5_bestKind 0 = some kX5_bestKind_0 := rfl
theorem bX5_bestKind_17 : blkOf KX5_bestKind 17 = some kX5_bestKind_17 := rfl
theorem bX5_bestKind_33 : blkOf KX5_bestKind 33 = some kX5_bestKind_33 := rfl
def tX5_bestKind : pT := pM KX5_bestKind 3
theorem ct_X5_bestKind (l : Launch) : pCtr l yX5_bestKind wsX5_bestKind rmX5_bestKind 3 tX5_bestKind := ctr_of (by decide +kernel) rfl (List.forall_mem_cons.mpr ⟨sX5_bestKind_0 l, List.forall_mem_cons.mpr ⟨sX5_bestKind_17 l, List.forall_mem_cons.mpr ⟨sX5_bestKind_33 l, fun _ h => absurd h List.not_mem_nil⟩⟩⟩)
theorem dX5_bestCell_0 : decode cX5_bestCell 0 = .ok (.aload_n 0, 1) := by decide +kernel
theorem dX5_bestCell_1 : decode cX5_bestCell 1 = .ok (.getfield 12, 3) := by decide +kernel
theorem dX5_bestCell_4 : decode cX5_bestCell 4 = .ok (.iload_n 1, 1) := by decide +kernel
theorem dX5_bestCell_5 : decode cX5_bestCell 5 = .ok (.invokevirtual 82, 3) := by decide +kernel
theorem dX5_bestCell_8 : decode cX5_bestCell 8 = .ok (.ifCond .ne 9, 3) := by decide +kernel
theorem dX5_bestCell_11 : decode cX5_bestCell 11 = .ok (.aload_n 0, 1) := by decide +kernel
theorem dX5_bestCell_12 : decode cX5_bestCell 12 = .ok (.iconst (-1), 1) := by decide +kernel
theorem dX5_bestCell_13 : decode cX5_bestCell 13 = .ok (.invokevirtual 44, 3) := by decide +kernel
theorem dX5_bestCell_16 : decode cX5_bestCell 16 = .ok (.ireturn, 1) := by decide +kernel
theorem dX5_bestCell_17 : decode cX5_bestCell 17 = .ok (.iload_n 2, 1) := by decide +kernel
theorem dX5_bestCell_18 : decode cX5_bestCell 18 = .ok (.ifCond .eq 15, 3) := by decide +kernel
theorem dX5_bestCell_21 : decode cX5_bestCell 21 = .ok (.iload_n 2, 1) := by decide +kernel
theorem dX5_bestCell_22 : decode cX5_bestCell 22 = .ok (.iconst 1, 1) := by decide +kernel
theorem dX5_bestCell_23 : decode cX5_bestCell 23 = .ok (.if_icmp .eq 10, 3) := by decide +kernel
theorem dX5_bestCell_26 : decode cX5_bestCell 26 = .ok (.aload_n 0, 1) := by decide +kernel
theorem dX5_bestCell_27 : decode cX5_bestCell 27 = .ok (.bipush (-2), 2) := by decide +kernel
theorem dX5_bestCell_29 : decode cX5_bestCell 29 = .ok (.invokevirtual 44, 3) := by decide +kernel
theorem dX5_bestCell_32 : decode cX5_bestCell 32 = .ok (.ireturn, 1) := by decide +kernel
theorem dX5_bestCell_33 : decode cX5_bestCell 33 = .ok (.aload_n 0, 1) := by decide +kernel
theorem dX5_bestCell_34 : decode cX5_bestCell 34 = .ok (.getfield 24, 3) := by decide +kernel
theorem dX5_bestCell_37 : decode cX5_bestCell 37 = .ok (.iload_n 1, 1) := by decide +kernel
theorem dX5_bestCell_38 : decode cX5_bestCell 38 = .ok (.iload_n 2, 1) := by decide +kernel
theorem dX5_bestCell_39 : decode cX5_bestCell 39 = .ok (.invokevirtual 178, 3) := by decide +kernel
theorem dX5_bestCell_42 : decode cX5_bestCell 42 = .ok (.ireturn, 1) := by decide +kernel
def rmX5_bestCell : Room := { frames := 6, cells := 0, slots := 0, locals := 143 }
abbrev wsX5_bestCell : List Cond := .code yX5_bestCell cX5_bestCell 3 (some .int) :: gw_tbl
def kX5_bestCell_33 : pProg := (33, 1, a_aload 0) :: (34, 3, a_getf 0 3 3) :: (37, 1, a_iload 1) :: (38, 1, a_iload 2) :: (39, 3, a_callv 3 2 [15, 1, 2, 3, 4, 5, 6, 7, 16, 17, 18, 19, 20, 21, 22, 23] tX4_easiestCell) :: (42, 1, a_iret) :: []
def kX5_bestCell_17 : pProg := (17, 1, a_iload 2) :: (18, 3, a_if_eq 33) :: (21, 1, a_iload 2) :: (22, 1, a_iconst 1) :: (23, 3, a_icmp_eq 33) :: (26, 1, a_aload 0) :: (27, 2, a_iconst (-2)) :: (29, 3, a_callv 2 3 [0, 1, 2, 3, 4, 5, 6, 7, 8, 9, 10, 11, 12, 13, 14, 15, 16, 17, 18, 19, 20, 21, 22, 23, 24, 25, 26, 27, 28] tX5_refused) :: (32, 1, a_iret) :: []
def kX5_bestCell_0 : pProg := (0, 1, a_aload 0) :: (1, 3, a_getf 0 3 0) :: (4, 1, a_iload 1) :: (5, 3, a_callv 2 0 [1, 2, 3, 4, 5, 6, 7] tX0_isPair) :: (8, 3, a_if_ne 17) :: (11, 1, a_aload 0) :: (12, 1, a_iconst (-1)) :: (13, 3, a_callv 2 3 [0, 1, 2, 3, 4, 5, 6, 7, 8, 9, 10, 11, 12, 13, 14, 15, 16, 17, 18, 19, 20, 21, 22, 23, 24, 25, 26, 27, 28] tX5_refused) :: (16, 1, a_iret) :: []
set_option maxRecDepth 100000 in
theorem sX5_bestCell_33 (l : Launch) : AllS (pSnd l rmX5_bestCell yX5_bestCell.cls cX5_bestCell wsX5_bestCell 3 (some .int)) 33 kX5_bestCell_33 :=
  alls _ (s_aload_n rfl dX5_bestCell_33) <|
  alls _ (s_getf (C := RX5) (T := TX5) (N := 7) rfl (in_c inX5) (by decide) (List.mem_cons_of_mem _ wd_146) rfl dX5_bestCell_34) <|
  alls _ (s_iload_n rfl dX5_bestCell_37) <|
  alls _ (s_iload_n rfl dX5_bestCell_38) <|
  alls _ (s_callv (ct_X4_easiestCell l) rfl rfl rfl (gdV wd_545 wd_546 wd_547 wd_62 wd_548) rfl rfl (by decide +kernel) ⟨Nat.le_of_ble_eq_true rfl, Nat.le_of_ble_eq_true rfl⟩ dX5_bestCell_39) <|
  alls _ (s_iret dX5_bestCell_42) <|
  alls_nil _
set_option maxRecDepth 100000 in
theorem sX5_bestCell_17 (l : Launch) : AllS (pSnd l rmX5_bestCell yX5_bestCell.cls cX5_bestCell wsX5_bestCell 3 (some .int)) 17 kX5_bestCell_17 :=
  alls _ (s_iload_n rfl dX5_bestCell_17) <|
  alls _ (s_if_eq (by decide) dX5_bestCell_18) <|
  alls _ (s_iload_n rfl dX5_bestCell_21) <|
  alls _ (s_iconst dX5_bestCell_22) <|
  alls _ (s_icmp_eq (by decide) dX5_bestCell_23) <|
  alls _ (s_aload_n rfl dX5_bestCell_26) <|
  alls _ (s_bipush (by decide) dX5_bestCell_27) <|
  alls _ (s_callv (ct_X5_refused l) rfl rfl rfl (gdV wd_169 wd_171 wd_0 wd_60 wd_172) rfl rfl (by decide +kernel) ⟨Nat.le_of_ble_eq_true rfl, Nat.le_of_ble_eq_true rfl⟩ dX5_bestCell_29) <|
  alls _ (s_iret dX5_bestCell_32) <|
  alls_nil _
set_option maxRecDepth 100000 in
theorem sX5_bestCell_0 (l : Launch) : AllS (pSnd l rmX5_bestCell yX5_bestCell.cls cX5_bestCell wsX5_bestCell 3 (some .int)) 0 kX5_bestCell_0 :=
  alls _ (s_aload_n rfl dX5_bestCell_0) <|
  alls _ (s_getf (C := RX5) (T := TX5) (N := 7) rfl (in_c inX5) (by decide) (List.mem_cons_of_mem _ wd_143) rfl dX5_bestCell_1) <|
  alls _ (s_iload_n rfl dX5_bestCell_4) <|
  alls _ (s_callv (ct_X0_isPair l) rfl rfl rfl (gdV wd_350 wd_351 wd_352 wd_61 wd_353) rfl rfl (by decide +kernel) ⟨Nat.le_of_ble_eq_true rfl, Nat.le_of_ble_eq_true rfl⟩ dX5_bestCell_5) <|
  alls _ (s_if_ne (by decide) dX5_bestCell_8) <|
  alls _ (s_aload_n rfl dX5_bestCell_11) <|
  alls _ (s_iconst dX5_bestCell_12) <|
  alls _ (s_callv (ct_X5_refused l) rfl rfl rfl (gdV wd_169 wd_171 wd_0 wd_60 wd_172) rfl rfl (by decide +kernel) ⟨Nat.le_of_ble_eq_true rfl, Nat.le_of_ble_eq_true rfl⟩ dX5_bestCell_13) <|
  alls _ (s_iret dX5_bestCell_16) <|
  alls_nil _
def KX5_bestCell : List (Nat × pProg) := [(0, kX5_bestCell_0), (17, kX5_bestCell_17), (33, kX5_bestCell_33)]
theorem bX5_bestCell_0 : blkOf KX5_bestCell 0 = some kX5_bestCell_0 := rfl
theorem bX5_bestCell_17 : blkOf KX5_bestCell 17 = some kX5_bestCell_17 := rfl
theorem bX5_bestCell_33 : blkOf KX5_bestCell 33 = some kX5_bestCell_33 := rfl
def tX5_bestCell : pT := pM KX5_bestCell 3
theorem ct_X5_bestCell (l : Launch) : pCtr l yX5_bestCell wsX5_bestCell rmX5_bestCell 3 tX5_bestCell := ctr_of (by decide +kernel) rfl (List.forall_mem_cons.mpr ⟨sX5_bestCell_0 l, List.forall_mem_cons.mpr ⟨sX5_bestCell_17 l, List.forall_mem_cons.mpr ⟨sX5_bestCell_33 l, fun _ h => absurd h List.not_mem_nil⟩⟩⟩)
theorem dX5_hum_0 : decode cX5_hum 0 = .ok (.aload_n 0, 1) := by decide +kernel
theorem dX5_hum_1 : decode cX5_hum 1 = .ok (.getfield 12, 3) := by decide +kernel
theorem dX5_hum_4 : decode cX5_hum 4 = .ok (.iload_n 1, 1) := by decide +kernel
theorem dX5_hum_5 : decode cX5_hum 5 = .ok (.invokevirtual 82, 3) := by decide +kernel
theorem dX5_hum_8 : decode cX5_hum 8 = .ok (.ifCond .ne 9, 3) := by decide +kernel
theorem dX5_hum_11 : decode cX5_hum 11 = .ok (.aload_n 0, 1) := by decide +kernel
theorem dX5_hum_12 : decode cX5_hum 12 = .ok (.iconst (-1), 1) := by decide +kernel
theorem dX5_hum_13 : decode cX5_hum 13 = .ok (.invokevirtual 44, 3) := by decide +kernel
theorem dX5_hum_16 : decode cX5_hum 16 = .ok (.ireturn, 1) := by decide +kernel
theorem dX5_hum_17 : decode cX5_hum 17 = .ok (.iload_n 2, 1) := by decide +kernel
theorem dX5_hum_18 : decode cX5_hum 18 = .ok (.iconst 0, 1) := by decide +kernel
theorem dX5_hum_19 : decode cX5_hum 19 = .ok (.bipush 12, 2) := by decide +kernel
theorem dX5_hum_21 : decode cX5_hum 21 = .ok (.iconst 0, 1) := by decide +kernel
theorem dX5_hum_22 : decode cX5_hum 22 = .ok (.invokestatic 135, 3) := by decide +kernel
theorem dX5_hum_25 : decode cX5_hum 25 = .ok (.istore_n 3, 1) := by decide +kernel
theorem dX5_hum_26 : decode cX5_hum 26 = .ok (.iload_n 3, 1) := by decide +kernel
theorem dX5_hum_27 : decode cX5_hum 27 = .ok (.ifCond .eq 11, 3) := by decide +kernel
theorem dX5_hum_30 : decode cX5_hum 30 = .ok (.aload_n 0, 1) := by decide +kernel
theorem dX5_hum_31 : decode cX5_hum 31 = .ok (.iload_n 3, 1) := by decide +kernel
theorem dX5_hum_32 : decode cX5_hum 32 = .ok (.invokevirtual 44, 3) := by decide +kernel
theorem dX5_hum_35 : decode cX5_hum 35 = .ok (.goto 12, 3) := by decide +kernel
theorem dX5_hum_38 : decode cX5_hum 38 = .ok (.aload_n 0, 1) := by decide +kernel
theorem dX5_hum_39 : decode cX5_hum 39 = .ok (.getfield 24, 3) := by decide +kernel
theorem dX5_hum_42 : decode cX5_hum 42 = .ok (.iload_n 1, 1) := by decide +kernel
theorem dX5_hum_43 : decode cX5_hum 43 = .ok (.iload_n 2, 1) := by decide +kernel
theorem dX5_hum_44 : decode cX5_hum 44 = .ok (.invokevirtual 181, 3) := by decide +kernel
theorem dX5_hum_47 : decode cX5_hum 47 = .ok (.ireturn, 1) := by decide +kernel
def rmX5_hum : Room := { frames := 3, cells := 0, slots := 0, locals := 71 }
abbrev wsX5_hum : List Cond := .code yX5_hum cX5_hum 4 (some .int) :: gw_tbl
def kX5_hum_47 : pProg := (47, 1, a_iret) :: []
def kX5_hum_38 : pProg := (38, 1, a_aload 0) :: (39, 3, a_getf 0 3 3) :: (42, 1, a_iload 1) :: (43, 1, a_iload 2) :: (44, 3, a_callv 3 2 [15, 1, 2, 3, 4, 5, 6, 7, 16, 17, 18, 19, 20, 21, 22, 23] tX4_fewestBeams) :: (47, 0, a_fall 47) :: []
def kX5_hum_17 : pProg := (17, 1, a_iload 2) :: (18, 1, a_iconst 0) :: (19, 2, a_iconst 12) :: (21, 1, a_iconst 0) :: (22, 3, a_calls 4 [] tX5_refusalOf) :: (25, 1, a_istore 3) :: (26, 1, a_iload 3) :: (27, 3, a_if_eq 38) :: (30, 1, a_aload 0) :: (31, 1, a_iload 3) :: (32, 3, a_callv 2 3 [0, 1, 2, 3, 4, 5, 6, 7, 8, 9, 10, 11, 12, 13, 14, 15, 16, 17, 18, 19, 20, 21, 22, 23, 24, 25, 26, 27, 28] tX5_refused) :: (35, 3, a_goto 47) :: []
def kX5_hum_0 : pProg := (0, 1, a_aload 0) :: (1, 3, a_getf 0 3 0) :: (4, 1, a_iload 1) :: (5, 3, a_callv 2 0 [1, 2, 3, 4, 5, 6, 7] tX0_isPair) :: (8, 3, a_if_ne 17) :: (11, 1, a_aload 0) :: (12, 1, a_iconst (-1)) :: (13, 3, a_callv 2 3 [0, 1, 2, 3, 4, 5, 6, 7, 8, 9, 10, 11, 12, 13, 14, 15, 16, 17, 18, 19, 20, 21, 22, 23, 24, 25, 26, 27, 28] tX5_refused) :: (16, 1, a_iret) :: []
set_option maxRecDepth 100000 in
theorem sX5_hum_47 (l : Launch) : AllS (pSnd l rmX5_hum yX5_hum.cls cX5_hum wsX5_hum 4 (some .int)) 47 kX5_hum_47 :=
  alls _ (s_iret dX5_hum_47) <|
  alls_nil _
set_option maxRecDepth 100000 in
theorem sX5_hum_38 (l : Launch) : AllS (pSnd l rmX5_hum yX5_hum.cls cX5_hum wsX5_hum 4 (some .int)) 38 kX5_hum_38 :=
  alls _ (s_aload_n rfl dX5_hum_38) <|
  alls _ (s_getf (C := RX5) (T := TX5) (N := 7) rfl (in_c inX5) (by decide) (List.mem_cons_of_mem _ wd_146) rfl dX5_hum_39) <|
  alls _ (s_iload_n rfl dX5_hum_42) <|
  alls _ (s_iload_n rfl dX5_hum_43) <|
  alls _ (s_callv (ct_X4_fewestBeams l) rfl rfl rfl (gdV wd_561 wd_562 wd_563 wd_62 wd_564) rfl rfl (by decide +kernel) ⟨Nat.le_of_ble_eq_true rfl, Nat.le_of_ble_eq_true rfl⟩ dX5_hum_44) <|
  alls _ s_fall (alls_nil _)
set_option maxRecDepth 100000 in
theorem sX5_hum_17 (l : Launch) : AllS (pSnd l rmX5_hum yX5_hum.cls cX5_hum wsX5_hum 4 (some .int)) 17 kX5_hum_17 :=
  alls _ (s_iload_n rfl dX5_hum_17) <|
  alls _ (s_iconst dX5_hum_18) <|
  alls _ (s_bipush (by decide) dX5_hum_19) <|
  alls _ (s_iconst dX5_hum_21) <|
  alls _ (s_calls (ct_X5_refusalOf l) rfl rfl (gdS wd_413) (List.mem_cons_of_mem _ wd_411) (List.mem_cons_of_mem _ wd_412) (List.mem_cons_of_mem _ wd_60) rfl rfl (by decide +kernel) ⟨Nat.le_of_ble_eq_true rfl, Nat.le_of_ble_eq_true rfl⟩ dX5_hum_22) <|
  alls _ (s_istore_n rfl dX5_hum_25) <|
  alls _ (s_iload_n rfl dX5_hum_26) <|
  alls _ (s_if_eq (by decide) dX5_hum_27) <|
  alls _ (s_aload_n rfl dX5_hum_30) <|
  alls _ (s_iload_n rfl dX5_hum_31) <|
  alls _ (s_callv (ct_X5_refused l) rfl rfl rfl (gdV wd_169 wd_171 wd_0 wd_60 wd_172) rfl rfl (by decide +kernel) ⟨Nat.le_of_ble_eq_true rfl, Nat.le_of_ble_eq_true rfl⟩ dX5_hum_32) <|
  alls _ (s_goto (by decide) dX5_hum_35) <|
  alls_nil _
set_option maxRecDepth 100000 in
theorem sX5_hum_0 (l : Launch) : AllS (pSnd l rmX5_hum yX5_hum.cls cX5_hum wsX5_hum 4 (some .int)) 0 kX5_hum_0 :=
  alls _ (s_aload_n rfl dX5_hum_0) <|
  alls _ (s_getf (C := RX5) (T := TX5) (N := 7) rfl (in_c inX5) (by decide) (List.mem_cons_of_mem _ wd_143) rfl dX5_hum_1) <|
  alls _ (s_iload_n rfl dX5_hum_4) <|
  alls _ (s_callv (ct_X0_isPair l) rfl rfl rfl (gdV wd_350 wd_351 wd_352 wd_61 wd_353) rfl rfl (by decide +kernel) ⟨Nat.le_of_ble_eq_true rfl, Nat.le_of_ble_eq_true rfl⟩ dX5_hum_5) <|
  alls _ (s_if_ne (by decide) dX5_hum_8) <|
  alls _ (s_aload_n rfl dX5_hum_11) <|
  alls _ (s_iconst dX5_hum_12) <|
  alls _ (s_callv (ct_X5_refused l) rfl rfl rfl (gdV wd_169 wd_171 wd_0 wd_60 wd_172) rfl rfl (by decide +kernel) ⟨Nat.le_of_ble_eq_true rfl, Nat.le_of_ble_eq_true rfl⟩ dX5_hum_13) <|
  alls _ (s_iret dX5_hum_16) <|
  alls_nil _
def KX5_hum : List (Nat × pProg) := [(0, kX5_hum_0), (17, kX5_hum_17), (38, kX5_hum_38), (47, kX5_hum_47)]
theorem bX5_hum_0 : blkOf KX5_hum 0 = some kX5_hum_0 := rfl
theorem bX5_hum_17 : blkOf KX5_hum 17 = some kX5_hum_17 := rfl
theorem bX5_hum_38 : blkOf KX5_hum 38 = some kX5_hum_38 := rfl
theorem bX5_hum_47 : blkOf KX5_hum 47 = some kX5_hum_47 := rfl
def tX5_hum : pT := pM KX5_hum 4
theorem ct_X5_hum (l : Launch) : pCtr l yX5_hum wsX5_hum rmX5_hum 3 tX5_hum := ctr_of (by decide +kernel) rfl (List.forall_mem_cons.mpr ⟨sX5_hum_0 l, List.forall_mem_cons.mpr ⟨sX5_hum_17 l, List.forall_mem_cons.mpr ⟨sX5_hum_38 l, List.forall_mem_cons.mpr ⟨sX5_hum_47 l, fun _ h => absurd h List.not_mem_nil⟩⟩⟩⟩)
theorem dX5_first_0 : decode cX5_first 0 = .ok (.iload_n 1, 1) := by decide +kernel
theorem dX5_first_1 : decode cX5_first 1 = .ok (.tableswitch 63 0 3 #[31, 39, 47, 55], 31) := by decide +kernel
theorem dX5_first_32 : decode cX5_first 32 = .ok (.aload_n 0, 1) := by decide +kernel
theorem dX5_first_33 : decode cX5_first 33 = .ok (.getfield 12, 3) := by decide +kernel
theorem dX5_first_36 : decode cX5_first 36 = .ok (.invokevirtual 184, 3) := by decide +kernel
theorem dX5_first_39 : decode cX5_first 39 = .ok (.ireturn, 1) := by decide +kernel
theorem dX5_first_40 : decode cX5_first 40 = .ok (.aload_n 0, 1) := by decide +kernel
theorem dX5_first_41 : decode cX5_first 41 = .ok (.getfield 12, 3) := by decide +kernel
theorem dX5_first_44 : decode cX5_first 44 = .ok (.invokevirtual 187, 3) := by decide +kernel
theorem dX5_first_47 : decode cX5_first 47 = .ok (.ireturn, 1) := by decide +kernel
theorem dX5_first_48 : decode cX5_first 48 = .ok (.aload_n 0, 1) := by decide +kernel
theorem dX5_first_49 : decode cX5_first 49 = .ok (.getfield 12, 3) := by decide +kernel
theorem dX5_first_52 : decode cX5_first 52 = .ok (.invokevirtual 190, 3) := by decide +kernel
theorem dX5_first_55 : decode cX5_first 55 = .ok (.ireturn, 1) := by decide +kernel
theorem dX5_first_56 : decode cX5_first 56 = .ok (.aload_n 0, 1) := by decide +kernel
theorem dX5_first_57 : decode cX5_first 57 = .ok (.getfield 12, 3) := by decide +kernel
theorem dX5_first_60 : decode cX5_first 60 = .ok (.invokevirtual 193, 3) := by decide +kernel
theorem dX5_first_63 : decode cX5_first 63 = .ok (.ireturn, 1) := by decide +kernel
theorem dX5_first_64 : decode cX5_first 64 = .ok (.aload_n 0, 1) := by decide +kernel
theorem dX5_first_65 : decode cX5_first 65 = .ok (.bipush (-2), 2) := by decide +kernel
theorem dX5_first_67 : decode cX5_first 67 = .ok (.invokevirtual 44, 3) := by decide +kernel
theorem dX5_first_70 : decode cX5_first 70 = .ok (.ireturn, 1) := by decide +kernel
def rmX5_first : Room := { frames := 2, cells := 0, slots := 0, locals := 44 }
abbrev wsX5_first : List Cond := .code yX5_first cX5_first 2 (some .int) :: gw_tbl
def kX5_first_64 : pProg := (64, 1, a_aload 0) :: (65, 2, a_iconst (-2)) :: (67, 3, a_callv 2 3 [0, 1, 2, 3, 4, 5, 6, 7, 8, 9, 10, 11, 12, 13, 14, 15, 16, 17, 18, 19, 20, 21, 22, 23, 24, 25, 26, 27, 28] tX5_refused) :: (70, 1, a_iret) :: []
def kX5_first_56 : pProg := (56, 1, a_aload 0) :: (57, 3, a_getf 0 3 0) :: (60, 3, a_callv 1 0 [1, 2, 3, 4, 5, 6, 7] tX0_twosTogether) :: (63, 1, a_iret) :: []
def kX5_first_48 : pProg := (48, 1, a_aload 0) :: (49, 3, a_getf 0 3 0) :: (52, 3, a_callv 1 0 [1, 2, 3, 4, 5, 6, 7] tX0_mostHurt) :: (55, 1, a_iret) :: []
def kX5_first_40 : pProg := (40, 1, a_aload 0) :: (41, 3, a_getf 0 3 0) :: (44, 3, a_callv 1 0 [1, 2, 3, 4, 5, 6, 7] tX0_leastFar) :: (47, 1, a_iret) :: []
def kX5_first_32 : pProg := (32, 1, a_aload 0) :: (33, 3, a_getf 0 3 0) :: (36, 3, a_callv 1 0 [1, 2, 3, 4, 5, 6, 7] tX0_farthestOn) :: (39, 1, a_iret) :: []
def kX5_first_0 : pProg := (0, 1, a_iload 1) :: (1, 31, a_lsw [(0, 32), (1, 40), (2, 48), (3, 56)] 64) :: []
set_option maxRecDepth 100000 in
theorem sX5_first_64 (l : Launch) : AllS (pSnd l rmX5_first yX5_first.cls cX5_first wsX5_first 2 (some .int)) 64 kX5_first_64 :=
  alls _ (s_aload_n rfl dX5_first_64) <|
  alls _ (s_bipush (by decide) dX5_first_65) <|
  alls _ (s_callv (ct_X5_refused l) rfl rfl rfl (gdV wd_169 wd_171 wd_0 wd_60 wd_172) rfl rfl (by decide +kernel) ⟨Nat.le_of_ble_eq_true rfl, Nat.le_of_ble_eq_true rfl⟩ dX5_first_67) <|
  alls _ (s_iret dX5_first_70) <|
  alls_nil _
set_option maxRecDepth 100000 in
theorem sX5_first_56 (l : Launch) : AllS (pSnd l rmX5_first yX5_first.cls cX5_first wsX5_first 2 (some .int)) 56 kX5_first_56 :=
  alls _ (s_aload_n rfl dX5_first_56) <|
  alls _ (s_getf (C := RX5) (T := TX5) (N := 7) rfl (in_c inX5) (by decide) (List.mem_cons_of_mem _ wd_143) rfl dX5_first_57) <|
  alls _ (s_callv (ct_X0_twosTogether l) rfl rfl rfl (gdV wd_591 wd_592 wd_593 wd_61 wd_594) rfl rfl (by decide +kernel) ⟨Nat.le_of_ble_eq_true rfl, Nat.le_of_ble_eq_true rfl⟩ dX5_first_60) <|
  alls _ (s_iret dX5_first_63) <|
  alls_nil _
set_option maxRecDepth 100000 in
theorem sX5_first_48 (l : Launch) : AllS (pSnd l rmX5_first yX5_first.cls cX5_first wsX5_first 2 (some .int)) 48 kX5_first_48 :=
  alls _ (s_aload_n rfl dX5_first_48) <|
  alls _ (s_getf (C := RX5) (T := TX5) (N := 7) rfl (in_c inX5) (by decide) (List.mem_cons_of_mem _ wd_143) rfl dX5_first_49) <|
  alls _ (s_callv (ct_X0_mostHurt l) rfl rfl rfl (gdV wd_587 wd_588 wd_589 wd_61 wd_590) rfl rfl (by decide +kernel) ⟨Nat.le_of_ble_eq_true rfl, Nat.le_of_ble_eq_true rfl⟩ dX5_first_52) <|
  alls _ (s_iret dX5_first_55) <|
  alls_nil _
set_option maxRecDepth 100000 in
theorem sX5_first_40 (l : Launch) : AllS (pSnd l rmX5_first yX5_first.cls cX5_first wsX5_first 2 (some .int)) 40 kX5_first_40 :=
  alls _ (s_aload_n rfl dX5_first_40) <|
  alls _ (s_getf (C := RX5) (T := TX5) (N := 7) rfl (in_c inX5) (by decide) (List.mem_cons_of_mem _ wd_143) rfl dX5_first_41) <|
  alls _ (s_callv (ct_X0_leastFar l) rfl rfl rfl (gdV wd_583 wd_584 wd_585 wd_61 wd_586) rfl rfl (by decide +kernel) ⟨Nat.le_of_ble_eq_true rfl, Nat.le_of_ble_eq_true rfl⟩ dX5_first_44) <|
  alls _ (s_iret dX5_first_47) <|
  alls_nil _
set_option maxRecDepth 100000 in
theorem sX5_first_32 (l : Launch) : AllS (pSnd l rmX5_first yX5_first.cls cX5_first wsX5_first 2 (some .int)) 32 kX5_first_32 :=
  alls _ (s_aload_n rfl dX5_first_32) <|
  alls _ (s_getf (C := RX5) (T := TX5) (N := 7) rfl (in_c inX5) (by decide) (List.mem_cons_of_mem _ wd_143) rfl dX5_first_33) <|
  alls _ (s_callv (ct_X0_farthestOn l) rfl rfl rfl (gdV wd_579 wd_580 wd_581 wd_61 wd_582) rfl rfl (by decide +kernel) ⟨Nat.le_of_ble_eq_true rfl, Nat.le_of_ble_eq_true rfl⟩ dX5_first_36) <|
  alls _ (s_iret dX5_first_39) <|
  alls_nil _
set_option maxRecDepth 100000 in
theorem sX5_first_0 (l : Launch) : AllS (pSnd l rmX5_first yX5_first.cls cX5_first wsX5_first 2 (some .int)) 0 kX5_first_0 :=
  alls _ (s_iload_n rfl dX5_first_0) <|
  alls _ (s_tsw (by decide) (by decide) (by decide) (by decide) dX5_first_1) <|
  alls_nil _
def KX5_first : List (Nat × pProg) := [(0, kX5_first_0), (32, kX5_first_32), (40, kX5_first_40), (48, kX5_first_48), (56, kX5_first_56), (64, kX5_first_64)]
theorem bX5_first_0 : blkOf KX5_first 0 = some kX5_first_0 := rfl
theorem bX5_first_32 : blkOf KX5_first 32 = some kX5_first_32 := rfl
theorem bX5_first_40 : blkOf KX5_first 40 = some kX5_first_40 := rfl
theorem bX5_first_48 : blkOf KX5_first 48 = some kX5_first_48 := rfl
theorem bX5_first_56 : blkOf KX5_first 56 = some kX5_first_56 := rfl
theorem bX5_first_64 : blkOf KX5_first 64 = some kX5_first_64 := rfl
def tX5_first : pT := pM KX5_first 2
theorem ct_X5_first (l : Launch) : pCtr l yX5_first wsX5_first rmX5_first 2 tX5_first := ctr_of (by decide +kernel) rfl (List.forall_mem_cons.mpr ⟨sX5_first_0 l, List.forall_mem_cons.mpr ⟨sX5_first_32 l, List.forall_mem_cons.mpr ⟨sX5_first_40 l, List.forall_mem_cons.mpr ⟨sX5_first_48 l, List.forall_mem_cons.mpr ⟨sX5_first_56 l, List.forall_mem_cons.mpr ⟨sX5_first_64 l, fun _ h => absurd h List.not_mem_nil⟩⟩⟩⟩⟩⟩)
theorem dX5_timber_0 : decode cX5_timber 0 = .ok (.iload_n 1, 1) := by decide +kernel
theorem dX5_timber_1 : decode cX5_timber 1 = .ok (.tableswitch 51 0 2 #[27, 35, 43], 27) := by decide +kernel
theorem dX5_timber_28 : decode cX5_timber 28 = .ok (.aload_n 0, 1) := by decide +kernel
theorem dX5_timber_29 : decode cX5_timber 29 = .ok (.getfield 12, 3) := by decide +kernel
theorem dX5_timber_32 : decode cX5_timber 32 = .ok (.invokevirtual 196, 3) := by decide +kernel
theorem dX5_timber_35 : decode cX5_timber 35 = .ok (.ireturn, 1) := by decide +kernel
theorem dX5_timber_36 : decode cX5_timber 36 = .ok (.aload_n 0, 1) := by decide +kernel
theorem dX5_timber_37 : decode cX5_timber 37 = .ok (.getfield 12, 3) := by decide +kernel
theorem dX5_timber_40 : decode cX5_timber 40 = .ok (.invokevirtual 199, 3) := by decide +kernel
theorem dX5_timber_43 : decode cX5_timber 43 = .ok (.ireturn, 1) := by decide +kernel
theorem dX5_timber_44 : decode cX5_timber 44 = .ok (.aload_n 0, 1) := by decide +kernel
theorem dX5_timber_45 : decode cX5_timber 45 = .ok (.getfield 12, 3) := by decide +kernel
theorem dX5_timber_48 : decode cX5_timber 48 = .ok (.invokevirtual 202, 3) := by decide +kernel
theorem dX5_timber_51 : decode cX5_timber 51 = .ok (.ireturn, 1) := by decide +kernel
theorem dX5_timber_52 : decode cX5_timber 52 = .ok (.aload_n 0, 1) := by decide +kernel
theorem dX5_timber_53 : decode cX5_timber 53 = .ok (.bipush (-2), 2) := by decide +kernel
theorem dX5_timber_55 : decode cX5_timber 55 = .ok (.invokevirtual 44, 3) := by decide +kernel
theorem dX5_timber_58 : decode cX5_timber 58 = .ok (.ireturn, 1) := by decide +kernel
def rmX5_timber : Room := { frames := 2, cells := 0, slots := 0, locals := 43 }
abbrev wsX5_timber : List Cond := .code yX5_timber cX5_timber 2 (some .int) :: gw_tbl
def kX5_timber_52 : pProg := (52, 1, a_aload 0) :: (53, 2, a_iconst (-2)) :: (55, 3, a_callv 2 3 [0, 1, 2, 3, 4, 5, 6, 7, 8, 9, 10, 11, 12, 13, 14, 15, 16, 17, 18, 19, 20, 21, 22, 23, 24, 25, 26, 27, 28] tX5_refused) :: (58, 1, a_iret) :: []
def kX5_timber_44 : pProg := (44, 1, a_aload 0) :: (45, 3, a_getf 0 3 0) :: (48, 3, a_callv 1 0 [1, 2, 3, 4, 5, 6, 7] tX0_freeBits) :: (51, 1, a_iret) :: []
def kX5_timber_36 : pProg := (36, 1, a_aload 0) :: (37, 3, a_getf 0 3 0) :: (40, 3, a_callv 1 0 [1, 2, 3, 4, 5, 6, 7] tX0_cellOfMost) :: (43, 1, a_iret) :: []
def kX5_timber_28 : pProg := (28, 1, a_aload 0) :: (29, 3, a_getf 0 3 0) :: (32, 3, a_callv 1 0 [1, 2, 3, 4, 5, 6, 7] tX0_allBeams) :: (35, 1, a_iret) :: []
def kX5_timber_0 : pProg := (0, 1, a_iload 1) :: (1, 27, a_lsw [(0, 28), (1, 36), (2, 44)] 52) :: []
set_option maxRecDepth 100000 in
theorem sX5_timber_52 (l : Launch) : AllS (pSnd l rmX5_timber yX5_timber.cls cX5_timber wsX5_timber 2 (some .int)) 52 kX5_timber_52 :=
  alls _ (s_aload_n rfl dX5_timber_52) <|
  alls _ (s_bipush (by decide) dX5_timber_53) <|
  alls _ (s_callv (ct_X5_refused l) rfl rfl rfl (gdV wd_169 wd_171 wd_0 wd_60 wd_172) rfl rfl (by decide +kernel) ⟨Nat.le_of_ble_eq_true rfl, Nat.le_of_ble_eq_true rfl⟩ dX5_timber_55) <|
  alls _ (s_iret dX5_timber_58) <|
  alls_nil _
set_option maxRecDepth 100000 in
theorem sX5_timber_44 (l : Launch) : AllS (pSnd l rmX5_timber yX5_timber.cls cX5_timber wsX5_timber 2 (some .int)) 44 kX5_timber_44 :=
  alls _ (s_aload_n rfl dX5_timber_44) <|
  alls _ (s_getf (C := RX5) (T := TX5) (N := 7) rfl (in_c inX5) (by decide) (List.mem_cons_of_mem _ wd_143) rfl dX5_timber_45) <|
  alls _ (s_callv (ct_X0_freeBits l) rfl rfl rfl (gdV wd_607 wd_608 wd_609 wd_61 wd_610) rfl rfl (by decide +kernel) ⟨Nat.le_of_ble_eq_true rfl, Nat.le_of_ble_eq_true rfl⟩ dX5_timber_48) <|
  alls _ (s_iret dX5_timber_51) <|
  alls_nil _
set_option maxRecDepth 100000 in
theorem sX5_timber_36 (l : Launch) : AllS (pSnd l rmX5_timber yX5_timber.cls cX5_timber wsX5_timber 2 (some .int)) 36 kX5_timber_36 :=
  alls _ (s_aload_n rfl dX5_timber_36) <|
  alls _ (s_getf (C := RX5) (T := TX5) (N := 7) rfl (in_c inX5) (by decide) (List.mem_cons_of_mem _ wd_143) rfl dX5_timber_37) <|
  alls _ (s_callv (ct_X0_cellOfMost l) rfl rfl rfl (gdV wd_603 wd_604 wd_605 wd_61 wd_606) rfl rfl (by decide +kernel) ⟨Nat.le_of_ble_eq_true rfl, Nat.le_of_ble_eq_true rfl⟩ dX5_timber_40) <|
  alls _ (s_iret dX5_timber_43) <|
  alls_nil _
set_option maxRecDepth 100000 in
theorem sX5_timber_28 (l : Launch) : AllS (pSnd l rmX5_timber yX5_timber.cls cX5_timber wsX5_timber 2 (some .int)) 28 kX5_timber_28 :=
  alls _ (s_aload_n rfl dX5_timber_28) <|
  alls _ (s_getf (C := RX5) (T := TX5) (N := 7) rfl (in_c inX5) (by decide) (List.mem_cons_of_mem _ wd_143) rfl dX5_timber_29) <|
  alls _ (s_callv (ct_X0_allBeams l) rfl rfl rfl (gdV wd_599 wd_600 wd_601 wd_61 wd_602) rfl rfl (by decide +kernel) ⟨Nat.le_of_ble_eq_true rfl, Nat.le_of_ble_eq_true rfl⟩ dX5_timber_32) <|
  alls _ (s_iret dX5_timber_35) <|
  alls_nil _
set_option maxRecDepth 100000 in
theorem sX5_timber_0 (l : Launch) : AllS (pSnd l rmX5_timber yX5_timber.cls cX5_timber wsX5_timber 2 (some .int)) 0 kX5_timber_0 :=
  alls _ (s_iload_n rfl dX5_timber_0) <|
  alls _ (s_tsw (by decide) (by decide) (by decide) (by decide) dX5_timber_1) <|
  alls_nil _
def KX5_timber : List (Nat × pProg) := [(0, kX5_timber_0), (28, kX5_timber_28), (36, kX5_timber_36), (44, kX5_timber_44), (52, kX5_timber_52)]
theorem bX5_timber_0 : blkOf KX5_timber 0 = some kX5_timber_0 := rfl
theorem bX5_timber_28 : blkOf KX5_timber 28 = some kX5_timber_28 := rfl
theorem bX5_timber_36 : blkOf KX5_timber 36 = some kX5_timber_36 := rfl
theorem bX5_timber_44 : blkOf KX5_timber 44 = some kX5_timber_44 := rfl
theorem bX5_timber_52 : blkOf KX5_timber 52 = some kX5_timber_52 := rfl
def tX5_timber : pT := pM KX5_timber 2
theorem ct_X5_timber (l : Launch) : pCtr l yX5_timber wsX5_timber rmX5_timber 2 tX5_timber := ctr_of (by decide +kernel) rfl (List.forall_mem_cons.mpr ⟨sX5_timber_0 l, List.forall_mem_cons.mpr ⟨sX5_timber_28 l, List.forall_mem_cons.mpr ⟨sX5_timber_36 l, List.forall_mem_cons.mpr ⟨sX5_timber_44 l, List.forall_mem_cons.mpr ⟨sX5_timber_52 l, fun _ h => absurd h List.not_mem_nil⟩⟩⟩⟩⟩)
theorem dX5_eager_0 : decode cX5_eager 0 = .ok (.aload_n 0, 1) := by decide +kernel
theorem dX5_eager_1 : decode cX5_eager 1 = .ok (.getfield 12, 3) := by decide +kernel
theorem dX5_eager_4 : decode cX5_eager 4 = .ok (.invokevirtual 205, 3) := by decide +kernel
theorem dX5_eager_7 : decode cX5_eager 7 = .ok (.ireturn, 1) := by decide +kernel
def rmX5_eager : Room := { frames := 3, cells := 0, slots := 0, locals := 71 }
abbrev wsX5_eager : List Cond := .code yX5_eager cX5_eager 1 (some .int) :: gw_tbl
def kX5_eager_0 : pProg := (0, 1, a_aload 0) :: (1, 3, a_getf 0 3 0) :: (4, 3, a_callv 1 0 [1, 2, 3, 4, 5, 6, 7] tX0_eagerBits) :: (7, 1, a_iret) :: []
set_option maxRecDepth 100000 in
theorem sX5_eager_0 (l : Launch) : AllS (pSnd l rmX5_eager yX5_eager.cls cX5_eager wsX5_eager 1 (some .int)) 0 kX5_eager_0 :=
  alls _ (s_aload_n rfl dX5_eager_0) <|
  alls _ (s_getf (C := RX5) (T := TX5) (N := 7) rfl (in_c inX5) (by decide) (List.mem_cons_of_mem _ wd_143) rfl dX5_eager_1) <|
  alls _ (s_callv (ct_X0_eagerBits l) rfl rfl rfl (gdV wd_615 wd_616 wd_617 wd_61 wd_618) rfl rfl (by decide +kernel) ⟨Nat.le_of_ble_eq_true rfl, Nat.le_of_ble_eq_true rfl⟩ dX5_eager_4) <|
  alls _ (s_iret dX5_eager_7) <|
  alls_nil _
def KX5_eager : List (Nat × pProg) := [(0, kX5_eager_0)]
theorem bX5_eager_0 : blkOf KX5_eager 0 = some kX5_eager_0 := rfl
def tX5_eager : pT := pM KX5_eager 1
theorem ct_X5_eager (l : Launch) : pCtr l yX5_eager wsX5_eager rmX5_eager 1 tX5_eager := ctr_of (by decide +kernel) rfl (List.forall_mem_cons.mpr ⟨sX5_eager_0 l, fun _ h => absurd h List.not_mem_nil⟩)
theorem dX5_two_0 : decode cX5_two 0 = .ok (.aload_n 0, 1) := by decide +kernel
theorem dX5_two_1 : decode cX5_two 1 = .ok (.getfield 12, 3) := by decide +kernel
theorem dX5_two_4 : decode cX5_two 4 = .ok (.iload_n 1, 1) := by decide +kernel
theorem dX5_two_5 : decode cX5_two 5 = .ok (.invokevirtual 82, 3) := by decide +kernel
theorem dX5_two_8 : decode cX5_two 8 = .ok (.ifCond .ne 9, 3) := by decide +kernel
theorem dX5_two_11 : decode cX5_two 11 = .ok (.aload_n 0, 1) := by decide +kernel
theorem dX5_two_12 : decode cX5_two 12 = .ok (.iconst (-1), 1) := by decide +kernel
theorem dX5_two_13 : decode cX5_two 13 = .ok (.invokevirtual 44, 3) := by decide +kernel
theorem dX5_two_16 : decode cX5_two 16 = .ok (.ireturn, 1) := by decide +kernel
theorem dX5_two_17 : decode cX5_two 17 = .ok (.iload_n 2, 1) := by decide +kernel
theorem dX5_two_18 : decode cX5_two 18 = .ok (.iconst 0, 1) := by decide +kernel
theorem dX5_two_19 : decode cX5_two 19 = .ok (.bipush 30, 2) := by decide +kernel
theorem dX5_two_21 : decode cX5_two 21 = .ok (.iconst 0, 1) := by decide +kernel
theorem dX5_two_22 : decode cX5_two 22 = .ok (.invokestatic 135, 3) := by decide +kernel
theorem dX5_two_25 : decode cX5_two 25 = .ok (.istore_n 3, 1) := by decide +kernel
theorem dX5_two_26 : decode cX5_two 26 = .ok (.iload_n 3, 1) := by decide +kernel
theorem dX5_two_27 : decode cX5_two 27 = .ok (.ifCond .eq 11, 3) := by decide +kernel
theorem dX5_two_30 : decode cX5_two 30 = .ok (.aload_n 0, 1) := by decide +kernel
theorem dX5_two_31 : decode cX5_two 31 = .ok (.iload_n 3, 1) := by decide +kernel
theorem dX5_two_32 : decode cX5_two 32 = .ok (.invokevirtual 44, 3) := by decide +kernel
theorem dX5_two_35 : decode cX5_two 35 = .ok (.goto 12, 3) := by decide +kernel
theorem dX5_two_38 : decode cX5_two 38 = .ok (.aload_n 0, 1) := by decide +kernel
theorem dX5_two_39 : decode cX5_two 39 = .ok (.getfield 24, 3) := by decide +kernel
theorem dX5_two_42 : decode cX5_two 42 = .ok (.iload_n 1, 1) := by decide +kernel
theorem dX5_two_43 : decode cX5_two 43 = .ok (.iload_n 2, 1) := by decide +kernel
theorem dX5_two_44 : decode cX5_two 44 = .ok (.invokevirtual 208, 3) := by decide +kernel
theorem dX5_two_47 : decode cX5_two 47 = .ok (.ireturn, 1) := by decide +kernel
def rmX5_two : Room := { frames := 7, cells := 0, slots := 0, locals := 168 }
abbrev wsX5_two : List Cond := .code yX5_two cX5_two 4 (some .int) :: gw_tbl
def kX5_two_47 : pProg := (47, 1, a_iret) :: []
def kX5_two_38 : pProg := (38, 1, a_aload 0) :: (39, 3, a_getf 0 3 3) :: (42, 1, a_iload 1) :: (43, 1, a_iload 2) :: (44, 3, a_callv 3 2 [15, 1, 2, 3, 4, 5, 6, 7, 16, 17, 18, 19, 20, 21, 22, 23] tX4_settledTwo) :: (47, 0, a_fall 47) :: []
def kX5_two_17 : pProg := (17, 1, a_iload 2) :: (18, 1, a_iconst 0) :: (19, 2, a_iconst 30) :: (21, 1, a_iconst 0) :: (22, 3, a_calls 4 [] tX5_refusalOf) :: (25, 1, a_istore 3) :: (26, 1, a_iload 3) :: (27, 3, a_if_eq 38) :: (30, 1, a_aload 0) :: (31, 1, a_iload 3) :: (32, 3, a_callv 2 3 [0, 1, 2, 3, 4, 5, 6, 7, 8, 9, 10, 11, 12, 13, 14, 15, 16, 17, 18, 19, 20, 21, 22, 23, 24, 25, 26, 27, 28] tX5_refused) :: (35, 3, a_goto 47) :: []
def kX5_two_0 : pProg := (0, 1, a_aload 0) :: (1, 3, a_getf 0 3 0) :: (4, 1, a_iload 1) :: (5, 3, a_callv 2 0 [1, 2, 3, 4, 5, 6, 7] tX0_isPair) :: (8, 3, a_if_ne 17) :: (11, 1, a_aload 0) :: (12, 1, a_iconst (-1)) :: (13, 3, a_callv 2 3 [0, 1, 2, 3, 4, 5, 6, 7, 8, 9, 10, 11, 12, 13, 14, 15, 16, 17, 18, 19, 20, 21, 22, 23, 24, 25, 26, 27, 28] tX5_refused) :: (16, 1, a_iret) :: []
set_option maxRecDepth 100000 in
theorem sX5_two_47 (l : Launch) : AllS (pSnd l rmX5_two yX5_two.cls cX5_two wsX5_two 4 (some .int)) 47 kX5_two_47 :=
  alls _ (s_iret dX5_two_47) <|
  alls_nil _
set_option maxRecDepth 100000 in
theorem sX5_two_38 (l : Launch) : AllS (pSnd l rmX5_two yX5_two.cls cX5_two wsX5_two 4 (some .int)) 38 kX5_two_38 :=
  alls _ (s_aload_n rfl dX5_two_38) <|
  alls _ (s_getf (C := RX5) (T := TX5) (N := 7) rfl (in_c inX5) (by decide) (List.mem_cons_of_mem _ wd_146) rfl dX5_two_39) <|
  alls _ (s_iload_n rfl dX5_two_42) <|
  alls _ (s_iload_n rfl dX5_two_43) <|
  alls _ (s_callv (ct_X4_settledTwo l) rfl rfl rfl (gdV wd_623 wd_624 wd_625 wd_62 wd_626) rfl rfl (by decide +kernel) ⟨Nat.le_of_ble_eq_true rfl, Nat.le_of_ble_eq_true rfl⟩ dX5_two_44) <|
  alls _ s_fall (alls_nil _)
set_option maxRecDepth 100000 in
theorem sX5_two_17 (l : Launch) : AllS (pSnd l rmX5_two yX5_two.cls cX5_two wsX5_two 4 (some .int)) 17 kX5_two_17 :=
  alls _ (s_iload_n rfl dX5_two_17) <|
  alls _ (s_iconst dX5_two_18) <|
  alls _ (s_bipush (by decide) dX5_two_19) <|
  alls _ (s_iconst dX5_two_21) <|
  alls _ (s_calls (ct_X5_refusalOf l) rfl rfl (gdS wd_413) (List.mem_cons_of_mem _ wd_411) (List.mem_cons_of_mem _ wd_412) (List.mem_cons_of_mem _ wd_60) rfl rfl (by decide +kernel) ⟨Nat.le_of_ble_eq_true rfl, Nat.le_of_ble_eq_true rfl⟩ dX5_two_22) <|
  alls _ (s_istore_n rfl dX5_two_25) <|
  alls _ (s_iload_n rfl dX5_two_26) <|
  alls _ (s_if_eq (by decide) dX5_two_27) <|
  alls _ (s_aload_n rfl dX5_two_30) <|
  alls _ (s_iload_n rfl dX5_two_31) <|
  alls _ (s_callv (ct_X5_refused l) rfl rfl rfl (gdV wd_169 wd_171 wd_0 wd_60 wd_172) rfl rfl (by decide +kernel) ⟨Nat.le_of_ble_eq_true rfl, Nat.le_of_ble_eq_true rfl⟩ dX5_two_32) <|
  alls _ (s_goto (by decide) dX5_two_35) <|
  alls_nil _
set_option maxRecDepth 100000 in
theorem sX5_two_0 (l : Launch) : AllS (pSnd l rmX5_two yX5_two.cls cX5_two wsX5_two 4 (some .int)) 0 kX5_two_0 :=
  alls _ (s_aload_n rfl dX5_two_0) <|
  alls _ (s_getf (C := RX5) (T := TX5) (N := 7) rfl (in_c inX5) (by decide) (List.mem_cons_of_mem _ wd_143) rfl dX5_two_1) <|
  alls _ (s_iload_n rfl dX5_two_4) <|
  alls _ (s_callv (ct_X0_isPair l) rfl rfl rfl (gdV wd_350 wd_351 wd_352 wd_61 wd_353) rfl rfl (by decide +kernel) ⟨Nat.le_of_ble_eq_true rfl, Nat.le_of_ble_eq_true rfl⟩ dX5_two_5) <|
  alls _ (s_if_ne (by decide) dX5_two_8) <|
  alls _ (s_aload_n rfl dX5_two_11) <|
  alls _ (s_iconst dX5_two_12) <|
  alls _ (s_callv (ct_X5_refused l) rfl rfl rfl (gdV wd_169 wd_171 wd_0 wd_60 wd_172) rfl rfl (by decide +kernel) ⟨Nat.le_of_ble_eq_true rfl, Nat.le_of_ble_eq_true rfl⟩ dX5_two_13) <|
  alls _ (s_iret dX5_two_16) <|
  alls_nil _
def KX5_two : List (Nat × pProg) := [(0, kX5_two_0), (17, kX5_two_17), (38, kX5_two_38), (47, kX5_two_47)]
theorem bX5_two_0 : blkOf KX5_two 0 = some kX5_two_0 := rfl
theorem bX5_two_17 : blkOf KX5_two 17 = some kX5_two_17 := rfl
theorem bX5_two_38 : blkOf KX5_two 38 = some kX5_two_38 := rfl
theorem bX5_two_47 : blkOf KX5_two 47 = some kX5_two_47 := rfl
def tX5_two : pT := pM KX5_two 4
theorem ct_X5_two (l : Launch) : pCtr l yX5_two wsX5_two rmX5_two 3 tX5_two := ctr_of (by decide +kernel) rfl (List.forall_mem_cons.mpr ⟨sX5_two_0 l, List.forall_mem_cons.mpr ⟨sX5_two_17 l, List.forall_mem_cons.mpr ⟨sX5_two_38 l, List.forall_mem_cons.mpr ⟨sX5_two_47 l, fun _ h => absurd h List.not_mem_nil⟩⟩⟩⟩)
theorem dX5_longRefused_0 : decode cX5_longRefused 0 = .ok (.ldc2_w 269, 3) := by decide +kernel
theorem dX5_longRefused_3 : decode cX5_longRefused 3 = .ok (.aload_n 0, 1) := by decide +kernel
theorem dX5_longRefused_4 : decode cX5_longRefused 4 = .ok (.iload_n 1, 1) := by decide +kernel
theorem dX5_longRefused_5 : decode cX5_longRefused 5 = .ok (.invokevirtual 44, 3) := by decide +kernel
theorem dX5_longRefused_8 : decode cX5_longRefused 8 = .ok (.i2l, 1) := by decide +kernel
theorem dX5_longRefused_9 : decode cX5_longRefused 9 = .ok (.lsub, 1) := by decide +kernel
theorem dX5_longRefused_10 : decode cX5_longRefused 10 = .ok (.lreturn, 1) := by decide +kernel
def rmX5_longRefused : Room := { frames := 1, cells := 0, slots := 0, locals := 22 }
abbrev wsX5_longRefused : List Cond := .code yX5_longRefused cX5_longRefused 2 (some .long) :: gw_tbl
def kX5_longRefused_0 : pProg := (0, 3, a_lconst 4000000000000000000) :: (3, 1, a_aload 0) :: (4, 1, a_iload 1) :: (5, 3, a_callv 2 3 [0, 1, 2, 3, 4, 5, 6, 7, 8, 9, 10, 11, 12, 13, 14, 15, 16, 17, 18, 19, 20, 21, 22, 23, 24, 25, 26, 27, 28] tX5_refused) :: (8, 1, a_i2l) :: (9, 1, a_lsub) :: (10, 1, a_lret) :: []
set_option maxRecDepth 100000 in
theorem sX5_longRefused_0 (l : Launch) : AllS (pSnd l rmX5_longRefused yX5_longRefused.cls cX5_longRefused wsX5_longRefused 2 (some .long)) 0 kX5_longRefused_0 :=
  alls _ (s_ldc2 (List.mem_cons_of_mem _ wd_640) dX5_longRefused_0) <|
  alls _ (s_aload_n rfl dX5_longRefused_3) <|
  alls _ (s_iload_n rfl dX5_longRefused_4) <|
  alls _ (s_callv (ct_X5_refused l) rfl rfl rfl (gdV wd_169 wd_171 wd_0 wd_60 wd_172) rfl rfl (by decide +kernel) ⟨Nat.le_of_ble_eq_true rfl, Nat.le_of_ble_eq_true rfl⟩ dX5_longRefused_5) <|
  alls _ (s_i2l dX5_longRefused_8) <|
  alls _ (s_lsub dX5_longRefused_9) <|
  alls _ (s_lret dX5_longRefused_10) <|
  alls_nil _
def KX5_longRefused : List (Nat × pProg) := [(0, kX5_longRefused_0)]
theorem bX5_longRefused_0 : blkOf KX5_longRefused 0 = some kX5_longRefused_0 := rfl
def tX5_longRefused : pT := pM KX5_longRefused 2
theorem ct_X5_longRefused (l : Launch) : pCtr l yX5_longRefused wsX5_longRefused rmX5_longRefused 2 tX5_longRefused := ctr_of (by decide +kernel) rfl (List.forall_mem_cons.mpr ⟨sX5_longRefused_0 l, fun _ h => absurd h List.not_mem_nil⟩)
theorem dX5_sharedDivisor_0 : decode cX5_sharedDivisor 0 = .ok (.lload_n 0, 1) := by decide +kernel
theorem dX5_sharedDivisor_1 : decode cX5_sharedDivisor 1 = .ok (.lstore 4, 2) := by decide +kernel
theorem dX5_sharedDivisor_3 : decode cX5_sharedDivisor 3 = .ok (.lload_n 2, 1) := by decide +kernel
theorem dX5_sharedDivisor_4 : decode cX5_sharedDivisor 4 = .ok (.lstore 6, 2) := by decide +kernel
theorem dX5_sharedDivisor_6 : decode cX5_sharedDivisor 6 = .ok (.iconst 0, 1) := by decide +kernel
theorem dX5_sharedDivisor_7 : decode cX5_sharedDivisor 7 = .ok (.istore 8, 2) := by decide +kernel
theorem dX5_sharedDivisor_9 : decode cX5_sharedDivisor 9 = .ok (.iload 8, 2) := by decide +kernel
theorem dX5_sharedDivisor_11 : decode cX5_sharedDivisor 11 = .ok (.bipush 100, 2) := by decide +kernel
theorem dX5_sharedDivisor_13 : decode cX5_sharedDivisor 13 = .ok (.if_icmp .ge 31, 3) := by decide +kernel
theorem dX5_sharedDivisor_16 : decode cX5_sharedDivisor 16 = .ok (.lload 6, 2) := by decide +kernel
theorem dX5_sharedDivisor_18 : decode cX5_sharedDivisor 18 = .ok (.lconst 0, 1) := by decide +kernel
theorem dX5_sharedDivisor_19 : decode cX5_sharedDivisor 19 = .ok (.lcmp, 1) := by decide +kernel
theorem dX5_sharedDivisor_20 : decode cX5_sharedDivisor 20 = .ok (.ifCond .eq 24, 3) := by decide +kernel
theorem dX5_sharedDivisor_23 : decode cX5_sharedDivisor 23 = .ok (.lload 4, 2) := by decide +kernel
theorem dX5_sharedDivisor_25 : decode cX5_sharedDivisor 25 = .ok (.lload 6, 2) := by decide +kernel
theorem dX5_sharedDivisor_27 : decode cX5_sharedDivisor 27 = .ok (.lrem, 1) := by decide +kernel
theorem dX5_sharedDivisor_28 : decode cX5_sharedDivisor 28 = .ok (.lstore 9, 2) := by decide +kernel
theorem dX5_sharedDivisor_30 : decode cX5_sharedDivisor 30 = .ok (.lload 6, 2) := by decide +kernel
theorem dX5_sharedDivisor_32 : decode cX5_sharedDivisor 32 = .ok (.lstore 4, 2) := by decide +kernel
theorem dX5_sharedDivisor_34 : decode cX5_sharedDivisor 34 = .ok (.lload 9, 2) := by decide +kernel
theorem dX5_sharedDivisor_36 : decode cX5_sharedDivisor 36 = .ok (.lstore 6, 2) := by decide +kernel
theorem dX5_sharedDivisor_38 : decode cX5_sharedDivisor 38 = .ok (.iinc 8 1, 3) := by decide +kernel
theorem dX5_sharedDivisor_41 : decode cX5_sharedDivisor 41 = .ok (.goto (-32), 3) := by decide +kernel
theorem dX5_sharedDivisor_44 : decode cX5_sharedDivisor 44 = .ok (.lload 4, 2) := by decide +kernel
theorem dX5_sharedDivisor_46 : decode cX5_sharedDivisor 46 = .ok (.lreturn, 1) := by decide +kernel
def rmX5_sharedDivisor : Room := { frames := 0, cells := 0, slots := 0, locals := 0 }
abbrev wsX5_sharedDivisor : List Cond := .code yX5_sharedDivisor cX5_sharedDivisor 11 (some .long) :: gw_tbl
def kX5_sharedDivisor_44 : pProg := (44, 2, a_lload 4) :: (46, 1, a_lret) :: []
def kX5_sharedDivisor_9 : pProg := (9, 2, a_iload 8) :: (11, 2, a_iconst 100) :: (13, 3, a_icmp_ge 44) :: (16, 2, a_lload 6) :: (18, 1, a_lconst 0) :: (19, 1, a_lcmp) :: (20, 3, a_if_eq 44) :: (23, 2, a_lload 4) :: (25, 2, a_lload 6) :: (27, 1, a_lrem) :: (28, 2, a_lstore 9) :: (30, 2, a_lload 6) :: (32, 2, a_lstore 4) :: (34, 2, a_lload 9) :: (36, 2, a_lstore 6) :: (38, 3, a_iinc 8 1) :: (41, 3, a_goto 9) :: []
def kX5_sharedDivisor_0 : pProg := (0, 1, a_lload 0) :: (1, 2, a_lstore 4) :: (3, 1, a_lload 2) :: (4, 2, a_lstore 6) :: (6, 1, a_iconst 0) :: (7, 2, a_istore 8) :: (9, 0, a_fall 9) :: []
set_option maxRecDepth 100000 in
theorem sX5_sharedDivisor_44 (l : Launch) : AllS (pSnd l rmX5_sharedDivisor yX5_sharedDivisor.cls cX5_sharedDivisor wsX5_sharedDivisor 11 (some .long)) 44 kX5_sharedDivisor_44 :=
  alls _ (s_lload dX5_sharedDivisor_44) <|
  alls _ (s_lret dX5_sharedDivisor_46) <|
  alls_nil _
set_option maxRecDepth 100000 in
theorem sX5_sharedDivisor_9 (l : Launch) : AllS (pSnd l rmX5_sharedDivisor yX5_sharedDivisor.cls cX5_sharedDivisor wsX5_sharedDivisor 11 (some .long)) 9 kX5_sharedDivisor_9 :=
  alls _ (s_iload dX5_sharedDivisor_9) <|
  alls _ (s_bipush (by decide) dX5_sharedDivisor_11) <|
  alls _ (s_icmp_ge (by decide) dX5_sharedDivisor_13) <|
  alls _ (s_lload dX5_sharedDivisor_16) <|
  alls _ (s_lconst (by decide) dX5_sharedDivisor_18) <|
  alls _ (s_lcmp dX5_sharedDivisor_19) <|
  alls _ (s_if_eq (by decide) dX5_sharedDivisor_20) <|
  alls _ (s_lload dX5_sharedDivisor_23) <|
  alls _ (s_lload dX5_sharedDivisor_25) <|
  alls _ (s_lrem dX5_sharedDivisor_27) <|
  alls _ (s_lstore dX5_sharedDivisor_28) <|
  alls _ (s_lload dX5_sharedDivisor_30) <|
  alls _ (s_lstore dX5_sharedDivisor_32) <|
  alls _ (s_lload dX5_sharedDivisor_34) <|
  alls _ (s_lstore dX5_sharedDivisor_36) <|
  alls _ (s_iinc dX5_sharedDivisor_38) <|
  alls _ (s_goto (by decide) dX5_sharedDivisor_41) <|
  alls_nil _
set_option maxRecDepth 100000 in
theorem sX5_sharedDivisor_0 (l : Launch) : AllS (pSnd l rmX5_sharedDivisor yX5_sharedDivisor.cls cX5_sharedDivisor wsX5_sharedDivisor 11 (some .long)) 0 kX5_sharedDivisor_0 :=
  alls _ (s_lload_n rfl dX5_sharedDivisor_0) <|
  alls _ (s_lstore dX5_sharedDivisor_1) <|
  alls _ (s_lload_n rfl dX5_sharedDivisor_3) <|
  alls _ (s_lstore dX5_sharedDivisor_4) <|
  alls _ (s_iconst dX5_sharedDivisor_6) <|
  alls _ (s_istore dX5_sharedDivisor_7) <|
  alls _ s_fall (alls_nil _)
def KX5_sharedDivisor : List (Nat × pProg) := [(0, kX5_sharedDivisor_0), (9, kX5_sharedDivisor_9), (44, kX5_sharedDivisor_44)]
theorem bX5_sharedDivisor_0 : blkOf KX5_sharedDivisor 0 = some kX5_sharedDivisor_0 := rfl
theorem bX5_sharedDivisor_9 : blkOf KX5_sharedDivisor 9 = some kX5_sharedDivisor_9 := rfl
theorem bX5_sharedDivisor_44 : blkOf KX5_sharedDivisor 44 = some kX5_sharedDivisor_44 := rfl
def tX5_sharedDivisor : pT := pM KX5_sharedDivisor 11
theorem ct_X5_sharedDivisor (l : Launch) : pCtr l yX5_sharedDivisor wsX5_sharedDivisor rmX5_sharedDivisor 2 tX5_sharedDivisor := ctr_of (by decide +kernel) rfl (List.forall_mem_cons.mpr ⟨sX5_sharedDivisor_0 l, List.forall_mem_cons.mpr ⟨sX5_sharedDivisor_9 l, List.forall_mem_cons.mpr ⟨sX5_sharedDivisor_44 l, fun _ h => absurd h List.not_mem_nil⟩⟩⟩)
theorem dX5_partOf_0 : decode cX5_partOf 0 = .ok (.lload_n 0, 1) := by decide +kernel
theorem dX5_partOf_1 : decode cX5_partOf 1 = .ok (.lload_n 2, 1) := by decide +kernel
theorem dX5_partOf_2 : decode cX5_partOf 2 = .ok (.invokestatic 271, 3) := by decide +kernel
theorem dX5_partOf_5 : decode cX5_partOf 5 = .ok (.lstore 5, 2) := by decide +kernel
theorem dX5_partOf_7 : decode cX5_partOf 7 = .ok (.lload 5, 2) := by decide +kernel
theorem dX5_partOf_9 : decode cX5_partOf 9 = .ok (.lconst 1, 1) := by decide +kernel
theorem dX5_partOf_10 : decode cX5_partOf 10 = .ok (.lcmp, 1) := by decide +kernel
theorem dX5_partOf_11 : decode cX5_partOf 11 = .ok (.ifCond .ge 14, 3) := by decide +kernel
theorem dX5_partOf_14 : decode cX5_partOf 14 = .ok (.iload 4, 2) := by decide +kernel
theorem dX5_partOf_16 : decode cX5_partOf 16 = .ok (.ifCond .ne 7, 3) := by decide +kernel
theorem dX5_partOf_19 : decode cX5_partOf 19 = .ok (.lload_n 0, 1) := by decide +kernel
theorem dX5_partOf_20 : decode cX5_partOf 20 = .ok (.goto 4, 3) := by decide +kernel
theorem dX5_partOf_23 : decode cX5_partOf 23 = .ok (.lload_n 2, 1) := by decide +kernel
theorem dX5_partOf_24 : decode cX5_partOf 24 = .ok (.lreturn, 1) := by decide +kernel
theorem dX5_partOf_25 : decode cX5_partOf 25 = .ok (.iload 4, 2) := by decide +kernel
theorem dX5_partOf_27 : decode cX5_partOf 27 = .ok (.ifCond .ne 10, 3) := by decide +kernel
theorem dX5_partOf_30 : decode cX5_partOf 30 = .ok (.lload_n 0, 1) := by decide +kernel
theorem dX5_partOf_31 : decode cX5_partOf 31 = .ok (.lload 5, 2) := by decide +kernel
theorem dX5_partOf_33 : decode cX5_partOf 33 = .ok (.ldiv, 1) := by decide +kernel
theorem dX5_partOf_34 : decode cX5_partOf 34 = .ok (.goto 7, 3) := by decide +kernel
theorem dX5_partOf_37 : decode cX5_partOf 37 = .ok (.lload_n 2, 1) := by decide +kernel
theorem dX5_partOf_38 : decode cX5_partOf 38 = .ok (.lload 5, 2) := by decide +kernel
theorem dX5_partOf_40 : decode cX5_partOf 40 = .ok (.ldiv, 1) := by decide +kernel
theorem dX5_partOf_41 : decode cX5_partOf 41 = .ok (.lreturn, 1) := by decide +kernel
def rmX5_partOf : Room := { frames := 1, cells := 0, slots := 0, locals := 30 }
abbrev wsX5_partOf : List Cond := .code yX5_partOf cX5_partOf 7 (some .long) :: gw_tbl
def kX5_partOf_41 : pProg := (41, 1, a_lret) :: []
def kX5_partOf_37 : pProg := (37, 1, a_lload 2) :: (38, 2, a_lload 5) :: (40, 1, a_ldiv) :: (41, 0, a_fall 41) :: []
def kX5_partOf_25 : pProg := (25, 2, a_iload 4) :: (27, 3, a_if_ne 37) :: (30, 1, a_lload 0) :: (31, 2, a_lload 5) :: (33, 1, a_ldiv) :: (34, 3, a_goto 41) :: []
def kX5_partOf_24 : pProg := (24, 1, a_lret) :: []
def kX5_partOf_23 : pProg := (23, 1, a_lload 2) :: (24, 0, a_fall 24) :: []
def kX5_partOf_0 : pProg := (0, 1, a_lload 0) :: (1, 1, a_lload 2) :: (2, 3, a_calls 2 [] tX5_sharedDivisor) :: (5, 2, a_lstore 5) :: (7, 2, a_lload 5) :: (9, 1, a_lconst 1) :: (10, 1, a_lcmp) :: (11, 3, a_if_ge 25) :: (14, 2, a_iload 4) :: (16, 3, a_if_ne 23) :: (19, 1, a_lload 0) :: (20, 3, a_goto 24) :: []
set_option maxRecDepth 100000 in
theorem sX5_partOf_41 (l : Launch) : AllS (pSnd l rmX5_partOf yX5_partOf.cls cX5_partOf wsX5_partOf 7 (some .long)) 41 kX5_partOf_41 :=
  alls _ (s_lret dX5_partOf_41) <|
  alls_nil _
set_option maxRecDepth 100000 in
theorem sX5_partOf_37 (l : Launch) : AllS (pSnd l rmX5_partOf yX5_partOf.cls cX5_partOf wsX5_partOf 7 (some .long)) 37 kX5_partOf_37 :=
  alls _ (s_lload_n rfl dX5_partOf_37) <|
  alls _ (s_lload dX5_partOf_38) <|
  alls _ (s_ldiv dX5_partOf_40) <|
  alls _ s_fall (alls_nil _)
set_option maxRecDepth 100000 in
theorem sX5_partOf_25 (l : Launch) : AllS (pSnd l rmX5_partOf yX5_partOf.cls cX5_partOf wsX5_partOf 7 (some .long)) 25 kX5_partOf_25 :=
  alls _ (s_iload dX5_partOf_25) <|
  alls _ (s_if_ne (by decide) dX5_partOf_27) <|
  alls _ (s_lload_n rfl dX5_partOf_30) <|
  alls _ (s_lload dX5_partOf_31) <|
  alls _ (s_ldiv dX5_partOf_33) <|
  alls _ (s_goto (by decide) dX5_partOf_34) <|
  alls_nil _
set_option maxRecDepth 100000 in
theorem sX5_partOf_24 (l : Launch) : AllS (pSnd l rmX5_partOf yX5_partOf.cls cX5_partOf wsX5_partOf 7 (some .long)) 24 kX5_partOf_24 :=
  alls _ (s_lret dX5_partOf_24) <|
  alls_nil _
set_option maxRecDepth 100000 in
theorem sX5_partOf_23 (l : Launch) : AllS (pSnd l rmX5_partOf yX5_partOf.cls cX5_partOf wsX5_partOf 7 (some .long)) 23 kX5_partOf_23 :=
  alls _ (s_lload_n rfl dX5_partOf_23) <|
  alls _ s_fall (alls_nil _)
set_option maxRecDepth 100000 in
theorem sX5_partOf_0 (l : Launch) : AllS (pSnd l rmX5_partOf yX5_partOf.cls cX5_partOf wsX5_partOf 7 (some .long)) 0 kX5_partOf_0 :=
  alls _ (s_lload_n rfl dX5_partOf_0) <|
  alls _ (s_lload_n rfl dX5_partOf_1) <|
  alls _ (s_calls (ct_X5_sharedDivisor l) rfl rfl (gdS wd_659) (List.mem_cons_of_mem _ wd_657) (List.mem_cons_of_mem _ wd_658) (List.mem_cons_of_mem _ wd_60) rfl rfl (by decide +kernel) ⟨Nat.le_of_ble_eq_true rfl, Nat.le_of_ble_eq_true rfl⟩ dX5_partOf_2) <|
  alls _ (s_lstore dX5_partOf_5) <|
  alls _ (s_lload dX5_partOf_7) <|
  alls _ (s_lconst (by decide) dX5_partOf_9) <|
  alls _ (s_lcmp dX5_partOf_10) <|
  alls _ (s_if_ge (by decide) dX5_partOf_11) <|
  alls _ (s_iload dX5_partOf_14) <|
  alls _ (s_if_ne (by decide) dX5_partOf_16) <|
  alls _ (s_lload_n rfl dX5_partOf_19) <|
  alls _ (s_goto (by decide) dX5_partOf_20) <|
  alls_nil _
def KX5_partOf : List (Nat × pProg) := [(0, kX5_partOf_0), (23, kX5_partOf_23), (24, kX5_partOf_24), (25, kX5_partOf_25), (37, kX5_partOf_37), (41, kX5_partOf_41)]
theorem bX5_partOf_0 : blkOf KX5_partOf 0 = some kX5_partOf_0 := rfl
theorem bX5_partOf_23 : blkOf KX5_partOf 23 = some kX5_partOf_23 := rfl
theorem bX5_partOf_24 : blkOf KX5_partOf 24 = some kX5_partOf_24 := rfl
theorem bX5_partOf_25 : blkOf KX5_partOf 25 = some kX5_partOf_25 := rfl
theorem bX5_partOf_37 : blkOf KX5_partOf 37 = some kX5_partOf_37 := rfl
theorem bX5_partOf_41 : blkOf KX5_partOf 41 = some kX5_partOf_41 := rfl
def tX5_partOf : pT := pM KX5_partOf 7
theorem ct_X5_partOf (l : Launch) : pCtr l yX5_partOf wsX5_partOf rmX5_partOf 3 tX5_partOf := ctr_of (by decide +kernel) rfl (List.forall_mem_cons.mpr ⟨sX5_partOf_0 l, List.forall_mem_cons.mpr ⟨sX5_partOf_23 l, List.forall_mem_cons.mpr ⟨sX5_partOf_24 l, List.forall_mem_cons.mpr ⟨sX5_partOf_25 l, List.forall_mem_cons.mpr ⟨sX5_partOf_37 l, List.forall_mem_cons.mpr ⟨sX5_partOf_41 l, fun _ h => absurd h List.not_mem_nil⟩⟩⟩⟩⟩⟩)
theorem dX5_cough_0 : decode cX5_cough 0 = .ok (.aload_n 0, 1) := by decide +kernel
theorem dX5_cough_1 : decode cX5_cough 1 = .ok (.getfield 12, 3) := by decide +kernel
theorem dX5_cough_4 : decode cX5_cough 4 = .ok (.iload_n 1, 1) := by decide +kernel
theorem dX5_cough_5 : decode cX5_cough 5 = .ok (.invokevirtual 82, 3) := by decide +kernel
theorem dX5_cough_8 : decode cX5_cough 8 = .ok (.ifCond .ne 9, 3) := by decide +kernel
theorem dX5_cough_11 : decode cX5_cough 11 = .ok (.aload_n 0, 1) := by decide +kernel
theorem dX5_cough_12 : decode cX5_cough 12 = .ok (.iconst (-1), 1) := by decide +kernel
theorem dX5_cough_13 : decode cX5_cough 13 = .ok (.invokevirtual 211, 3) := by decide +kernel
theorem dX5_cough_16 : decode cX5_cough 16 = .ok (.lreturn, 1) := by decide +kernel
theorem dX5_cough_17 : decode cX5_cough 17 = .ok (.iload_n 2, 1) := by decide +kernel
theorem dX5_cough_18 : decode cX5_cough 18 = .ok (.ifCond .lt 13, 3) := by decide +kernel
theorem dX5_cough_21 : decode cX5_cough 21 = .ok (.iload 4, 2) := by decide +kernel
theorem dX5_cough_23 : decode cX5_cough 23 = .ok (.ifCond .lt 8, 3) := by decide +kernel
theorem dX5_cough_26 : decode cX5_cough 26 = .ok (.iload_n 3, 1) := by decide +kernel
theorem dX5_cough_27 : decode cX5_cough 27 = .ok (.iconst 2, 1) := by decide +kernel
theorem dX5_cough_28 : decode cX5_cough 28 = .ok (.if_icmp .ge 10, 3) := by decide +kernel
theorem dX5_cough_31 : decode cX5_cough 31 = .ok (.aload_n 0, 1) := by decide +kernel
theorem dX5_cough_32 : decode cX5_cough 32 = .ok (.bipush (-4), 2) := by decide +kernel
theorem dX5_cough_34 : decode cX5_cough 34 = .ok (.invokevirtual 211, 3) := by decide +kernel
theorem dX5_cough_37 : decode cX5_cough 37 = .ok (.lreturn, 1) := by decide +kernel
theorem dX5_cough_38 : decode cX5_cough 38 = .ok (.iload_n 2, 1) := by decide +kernel
theorem dX5_cough_39 : decode cX5_cough 39 = .ok (.bipush 7, 2) := by decide +kernel
theorem dX5_cough_41 : decode cX5_cough 41 = .ok (.if_icmp .gt 16, 3) := by decide +kernel
theorem dX5_cough_44 : decode cX5_cough 44 = .ok (.iload_n 3, 1) := by decide +kernel
theorem dX5_cough_45 : decode cX5_cough 45 = .ok (.bipush 20, 2) := by decide +kernel
theorem dX5_cough_47 : decode cX5_cough 47 = .ok (.if_icmp .gt 10, 3) := by decide +kernel
theorem dX5_cough_50 : decode cX5_cough 50 = .ok (.iload 4, 2) := by decide +kernel
theorem dX5_cough_52 : decode cX5_cough 52 = .ok (.bipush 19, 2) := by decide +kernel
theorem dX5_cough_54 : decode cX5_cough 54 = .ok (.if_icmp .le 10, 3) := by decide +kernel
theorem dX5_cough_57 : decode cX5_cough 57 = .ok (.aload_n 0, 1) := by decide +kernel
theorem dX5_cough_58 : decode cX5_cough 58 = .ok (.bipush (-6), 2) := by decide +kernel
theorem dX5_cough_60 : decode cX5_cough 60 = .ok (.invokevirtual 211, 3) := by decide +kernel
theorem dX5_cough_63 : decode cX5_cough 63 = .ok (.lreturn, 1) := by decide +kernel
theorem dX5_cough_64 : decode cX5_cough 64 = .ok (.iload 5, 2) := by decide +kernel
theorem dX5_cough_66 : decode cX5_cough 66 = .ok (.ifCond .eq 16, 3) := by decide +kernel
theorem dX5_cough_69 : decode cX5_cough 69 = .ok (.iload 5, 2) := by decide +kernel
theorem dX5_cough_71 : decode cX5_cough 71 = .ok (.iconst 1, 1) := by decide +kernel
theorem dX5_cough_72 : decode cX5_cough 72 = .ok (.if_icmp .eq 10, 3) := by decide +kernel
theorem dX5_cough_75 : decode cX5_cough 75 = .ok (.aload_n 0, 1) := by decide +kernel
theorem dX5_cough_76 : decode cX5_cough 76 = .ok (.bipush (-2), 2) := by decide +kernel
theorem dX5_cough_78 : decode cX5_cough 78 = .ok (.invokevirtual 211, 3) := by decide +kernel
theorem dX5_cough_81 : decode cX5_cough 81 = .ok (.lreturn, 1) := by decide +kernel
theorem dX5_cough_82 : decode cX5_cough 82 = .ok (.aload_n 0, 1) := by decide +kernel
theorem dX5_cough_83 : decode cX5_cough 83 = .ok (.getfield 24, 3) := by decide +kernel
theorem dX5_cough_86 : decode cX5_cough 86 = .ok (.iload_n 1, 1) := by decide +kernel
theorem dX5_cough_87 : decode cX5_cough 87 = .ok (.iload_n 2, 1) := by decide +kernel
theorem dX5_cough_88 : decode cX5_cough 88 = .ok (.iload_n 3, 1) := by decide +kernel
theorem dX5_cough_89 : decode cX5_cough 89 = .ok (.iload 4, 2) := by decide +kernel
theorem dX5_cough_91 : decode cX5_cough 91 = .ok (.invokevirtual 215, 3) := by decide +kernel
theorem dX5_cough_94 : decode cX5_cough 94 = .ok (.iload_n 3, 1) := by decide +kernel
theorem dX5_cough_95 : decode cX5_cough 95 = .ok (.i2l, 1) := by decide +kernel
theorem dX5_cough_96 : decode cX5_cough 96 = .ok (.iload_n 2, 1) := by decide +kernel
theorem dX5_cough_97 : decode cX5_cough 97 = .ok (.invokestatic 219, 3) := by decide +kernel
theorem dX5_cough_100 : decode cX5_cough 100 = .ok (.iload 5, 2) := by decide +kernel
theorem dX5_cough_102 : decode cX5_cough 102 = .ok (.invokestatic 223, 3) := by decide +kernel
theorem dX5_cough_105 : decode cX5_cough 105 = .ok (.lreturn, 1) := by decide +kernel
def rmX5_cough : Room := { frames := 7, cells := 0, slots := 0, locals := 168 }
abbrev wsX5_cough : List Cond := .code yX5_cough cX5_cough 6 (some .long) :: gw_tbl
def kX5_cough_82 : pProg := (82, 1, a_aload 0) :: (83, 3, a_getf 0 3 3) :: (86, 1, a_iload 1) :: (87, 1, a_iload 2) :: (88, 1, a_iload 3) :: (89, 2, a_iload 4) :: (91, 3, a_callv 5 2 [15, 1, 2, 3, 4, 5, 6, 7, 16, 17, 18, 19, 20, 21, 22, 23] tX4_coughsThatReach) :: (94, 1, a_iload 3) :: (95, 1, a_i2l) :: (96, 1, a_iload 2) :: (97, 3, a_calls 2 [] tX5_power) :: (100, 2, a_iload 5) :: (102, 3, a_calls 3 [] tX5_partOf) :: (105, 1, a_lret) :: []
def kX5_cough_64 : pProg := (64, 2, a_iload 5) :: (66, 3, a_if_eq 82) :: (69, 2, a_iload 5) :: (71, 1, a_iconst 1) :: (72, 3, a_icmp_eq 82) :: (75, 1, a_aload 0) :: (76, 2, a_iconst (-2)) :: (78, 3, a_callv 2 3 [0, 1, 2, 3, 4, 5, 6, 7, 8, 9, 10, 11, 12, 13, 14, 15, 16, 17, 18, 19, 20, 21, 22, 23, 24, 25, 26, 27, 28] tX5_longRefused) :: (81, 1, a_lret) :: []
def kX5_cough_57 : pProg := (57, 1, a_aload 0) :: (58, 2, a_iconst (-6)) :: (60, 3, a_callv 2 3 [0, 1, 2, 3, 4, 5, 6, 7, 8, 9, 10, 11, 12, 13, 14, 15, 16, 17, 18, 19, 20, 21, 22, 23, 24, 25, 26, 27, 28] tX5_longRefused) :: (63, 1, a_lret) :: []
def kX5_cough_38 : pProg := (38, 1, a_iload 2) :: (39, 2, a_iconst 7) :: (41, 3, a_icmp_gt 57) :: (44, 1, a_iload 3) :: (45, 2, a_iconst 20) :: (47, 3, a_icmp_gt 57) :: (50, 2, a_iload 4) :: (52, 2, a_iconst 19) :: (54, 3, a_icmp_le 64) :: (57, 0, a_fall 57) :: []
def kX5_cough_31 : pProg := (31, 1, a_aload 0) :: (32, 2, a_iconst (-4)) :: (34, 3, a_callv 2 3 [0, 1, 2, 3, 4, 5, 6, 7, 8, 9, 10, 11, 12, 13, 14, 15, 16, 17, 18, 19, 20, 21, 22, 23, 24, 25, 26, 27, 28] tX5_longRefused) :: (37, 1, a_lret) :: []
def kX5_cough_17 : pProg := (17, 1, a_iload 2) :: (18, 3, a_if_lt 31) :: (21, 2, a_iload 4) :: (23, 3, a_if_lt 31) :: (26, 1, a_iload 3) :: (27, 1, a_iconst 2) :: (28, 3, a_icmp_ge 38) :: (31, 0, a_fall 31) :: []
def kX5_cough_0 : pProg := (0, 1, a_aload 0) :: (1, 3, a_getf 0 3 0) :: (4, 1, a_iload 1) :: (5, 3, a_callv 2 0 [1, 2, 3, 4, 5, 6, 7] tX0_isPair) :: (8, 3, a_if_ne 17) :: (11, 1, a_aload 0) :: (12, 1, a_iconst (-1)) :: (13, 3, a_callv 2 3 [0, 1, 2, 3, 4, 5, 6, 7, 8, 9, 10, 11, 12, 13, 14, 15, 16, 17, 18, 19, 20, 21, 22, 23, 24, 25, 26, 27, 28] tX5_longRefused) :: (16, 1, a_lret) :: []
set_option maxRecDepth 100000 in
theorem sX5_cough_82 (l : Launch) : AllS (pSnd l rmX5_cough yX5_cough.cls cX5_cough wsX5_cough 6 (some .long)) 82 kX5_cough_82 :=
  alls _ (s_aload_n rfl dX5_cough_82) <|
  alls _ (s_getf (C := RX5) (T := TX5) (N := 7) rfl (in_c inX5) (by decide) (List.mem_cons_of_mem _ wd_146) rfl dX5_cough_83) <|
  alls _ (s_iload_n rfl dX5_cough_86) <|
  alls _ (s_iload_n rfl dX5_cough_87) <|
  alls _ (s_iload_n rfl dX5_cough_88) <|
  alls _ (s_iload dX5_cough_89) <|
  alls _ (s_callv (ct_X4_coughsThatReach l) rfl rfl rfl (gdV wd_641 wd_642 wd_643 wd_62 wd_644) rfl rfl (by decide +kernel) ⟨Nat.le_of_ble_eq_true rfl, Nat.le_of_ble_eq_true rfl⟩ dX5_cough_91) <|
  alls _ (s_iload_n rfl dX5_cough_94) <|
  alls _ (s_i2l dX5_cough_95) <|
  alls _ (s_iload_n rfl dX5_cough_96) <|
  alls _ (s_calls (ct_X5_power l) rfl rfl (gdS wd_652) (List.mem_cons_of_mem _ wd_653) (List.mem_cons_of_mem _ wd_651) (List.mem_cons_of_mem _ wd_60) rfl rfl (by decide +kernel) ⟨Nat.le_of_ble_eq_true rfl, Nat.le_of_ble_eq_true rfl⟩ dX5_cough_97) <|
  alls _ (s_iload dX5_cough_100) <|
  alls _ (s_calls (ct_X5_partOf l) rfl rfl (gdS wd_656) (List.mem_cons_of_mem _ wd_654) (List.mem_cons_of_mem _ wd_655) (List.mem_cons_of_mem _ wd_60) rfl rfl (by decide +kernel) ⟨Nat.le_of_ble_eq_true rfl, Nat.le_of_ble_eq_true rfl⟩ dX5_cough_102) <|
  alls _ (s_lret dX5_cough_105) <|
  alls_nil _
set_option maxRecDepth 100000 in
theorem sX5_cough_64 (l : Launch) : AllS (pSnd l rmX5_cough yX5_cough.cls cX5_cough wsX5_cough 6 (some .long)) 64 kX5_cough_64 :=
  alls _ (s_iload dX5_cough_64) <|
  alls _ (s_if_eq (by decide) dX5_cough_66) <|
  alls _ (s_iload dX5_cough_69) <|
  alls _ (s_iconst dX5_cough_71) <|
  alls _ (s_icmp_eq (by decide) dX5_cough_72) <|
  alls _ (s_aload_n rfl dX5_cough_75) <|
  alls _ (s_bipush (by decide) dX5_cough_76) <|
  alls _ (s_callv (ct_X5_longRefused l) rfl rfl rfl (gdV wd_636 wd_638 wd_8 wd_60 wd_639) rfl rfl (by decide +kernel) ⟨Nat.le_of_ble_eq_true rfl, Nat.le_of_ble_eq_true rfl⟩ dX5_cough_78) <|
  alls _ (s_lret dX5_cough_81) <|
  alls_nil _
set_option maxRecDepth 100000 in
theorem sX5_cough_57 (l : Launch) : AllS (pSnd l rmX5_cough yX5_cough.cls cX5_cough wsX5_cough 6 (some .long)) 57 kX5_cough_57 :=
  alls _ (s_aload_n rfl dX5_cough_57) <|
  alls _ (s_bipush (by decide) dX5_cough_58) <|
  alls _ (s_callv (ct_X5_longRefused l) rfl rfl rfl (gdV wd_636 wd_638 wd_8 wd_60 wd_639) rfl rfl (by decide +kernel) ⟨Nat.le_of_ble_eq_true rfl, Nat.le_of_ble_eq_true rfl⟩ dX5_cough_60) <|
  alls _ (s_lret dX5_cough_63) <|
  alls_nil _
set_option maxRecDepth 100000 in
theorem sX5_cough_38 (l : Launch) : AllS (pSnd l rmX5_cough yX5_cough.cls cX5_cough wsX5_cough 6 (some .long)) 38 kX5_cough_38 :=
  alls _ (s_iload_n rfl dX5_cough_38) <|
  alls _ (s_bipush (by decide) dX5_cough_39) <|
  alls _ (s_icmp_gt (by decide) dX5_cough_41) <|
  alls _ (s_iload_n rfl dX5_cough_44) <|
  alls _ (s_bipush (by decide) dX5_cough_45) <|
  alls _ (s_icmp_gt (by decide) dX5_cough_47) <|
  alls _ (s_iload dX5_cough_50) <|
  alls _ (s_bipush (by decide) dX5_cough_52) <|
  alls _ (s_icmp_le (by decide) dX5_cough_54) <|
  alls _ s_fall (alls_nil _)
set_option maxRecDepth 100000 in
theorem sX5_cough_31 (l : Launch) : AllS (pSnd l rmX5_cough yX5_cough.cls cX5_cough wsX5_cough 6 (some .long)) 31 kX5_cough_31 :=
  alls _ (s_aload_n rfl dX5_cough_31) <|
  alls _ (s_bipush (by decide) dX5_cough_32) <|
  alls _ (s_callv (ct_X5_longRefused l) rfl rfl rfl (gdV wd_636 wd_638 wd_8 wd_60 wd_639) rfl rfl (by decide +kernel) ⟨Nat.le_of_ble_eq_true rfl, Nat.le_of_ble_eq_true rfl⟩ dX5_cough_34) <|
  alls _ (s_lret dX5_cough_37) <|
  alls_nil _
set_option maxRecDepth 100000 in
theorem sX5_cough_17 (l : Launch) : AllS (pSnd l rmX5_cough yX5_cough.cls cX5_cough wsX5_cough 6 (some .long)) 17 kX5_cough_17 :=
  alls _ (s_iload_n rfl dX5_cough_17) <|
  alls _ (s_if_lt (by decide) dX5_cough_18) <|
  alls _ (s_iload dX5_cough_21) <|
  alls _ (s_if_lt (by decide) dX5_cough_23) <|
  alls _ (s_iload_n rfl dX5_cough_26) <|
  alls _ (s_iconst dX5_cough_27) <|
  alls _ (s_icmp_ge (by decide) dX5_cough_28) <|
  alls _ s_fall (alls_nil _)
set_option maxRecDepth 100000 in
theorem sX5_cough_0 (l : Launch) : AllS (pSnd l rmX5_cough yX5_cough.cls cX5_cough wsX5_cough 6 (some .long)) 0 kX5_cough_0 :=
  alls _ (s_aload_n rfl dX5_cough_0) <|
  alls _ (s_getf (C := RX5) (T := TX5) (N := 7) rfl (in_c inX5) (by decide) (List.mem_cons_of_mem _ wd_143) rfl dX5_cough_1) <|
  alls _ (s_iload_n rfl dX5_cough_4) <|
  alls _ (s_callv (ct_X0_isPair l) rfl rfl rfl (gdV wd_350 wd_351 wd_352 wd_61 wd_353) rfl rfl (by decide +kernel) ⟨Nat.le_of_ble_eq_true rfl, Nat.le_of_ble_eq_true rfl⟩ dX5_cough_5) <|
  alls _ (s_if_ne (by decide) dX5_cough_8) <|
  alls _ (s_aload_n rfl dX5_cough_11) <|
  alls _ (s_iconst dX5_cough_12) <|
  alls _ (s_callv (ct_X5_longRefused l) rfl rfl rfl (gdV wd_636 wd_638 wd_8 wd_60 wd_639) rfl rfl (by decide +kernel) ⟨Nat.le_of_ble_eq_true rfl, Nat.le_of_ble_eq_true rfl⟩ dX5_cough_13) <|
  alls _ (s_lret dX5_cough_16) <|
  alls_nil _
def KX5_cough : List (Nat × pProg) := [(0, kX5_cough_0), (17, kX5_cough_17), (31, kX5_cough_31), (38, kX5_cough_38), (57, kX5_cough_57), (64, kX5_cough_64), (82, kX5_cough_82)]
theorem bX5_cough_0 : blkOf KX5_cough 0 = some kX5_cough_0 := rfl
theorem bX5_cough_17 : blkOf KX5_cough 17 = some kX5_cough_17 := rfl
theorem bX5_cough_31 : blkOf KX5_cough 31 = some kX5_cough_31 := rfl
theorem bX5_cough_38 : blkOf KX5_cough 38 = some kX5_cough_38 := rfl
theorem bX5_cough_57 : blkOf KX5_cough 57 = some kX5_cough_57 := rfl
theorem bX5_cough_64 : blkOf KX5_cough 64 = some kX5_cough_64 := rfl
theorem bX5_cough_82 : blkOf KX5_cough 82 = some kX5_cough_82 := rfl
def tX5_cough : pT := pM KX5_cough 6
theorem ct_X5_cough (l : Launch) : pCtr l yX5_cough wsX5_cough rmX5_cough 6 tX5_cough := ctr_of (by decide +kernel) rfl (List.forall_mem_cons.mpr ⟨sX5_cough_0 l, List.forall_mem_cons.mpr ⟨sX5_cough_17 l, List.forall_mem_cons.mpr ⟨sX5_cough_31 l, List.forall_mem_cons.mpr ⟨sX5_cough_38 l, List.forall_mem_cons.mpr ⟨sX5_cough_57 l, List.forall_mem_cons.mpr ⟨sX5_cough_64 l, List.forall_mem_cons.mpr ⟨sX5_cough_82 l, fun _ h => absurd h List.not_mem_nil⟩⟩⟩⟩⟩⟩⟩)
theorem dX5_mean_0 : decode cX5_mean 0 = .ok (.iload_n 1, 1) := by decide +kernel
theorem dX5_mean_1 : decode cX5_mean 1 = .ok (.ifCond .eq 15, 3) := by decide +kernel
theorem dX5_mean_4 : decode cX5_mean 4 = .ok (.iload_n 1, 1) := by decide +kernel
theorem dX5_mean_5 : decode cX5_mean 5 = .ok (.iconst 1, 1) := by decide +kernel
theorem dX5_mean_6 : decode cX5_mean 6 = .ok (.if_icmp .eq 10, 3) := by decide +kernel
theorem dX5_mean_9 : decode cX5_mean 9 = .ok (.aload_n 0, 1) := by decide +kernel
theorem dX5_mean_10 : decode cX5_mean 10 = .ok (.bipush (-2), 2) := by decide +kernel
theorem dX5_mean_12 : decode cX5_mean 12 = .ok (.invokevirtual 211, 3) := by decide +kernel
theorem dX5_mean_15 : decode cX5_mean 15 = .ok (.lreturn, 1) := by decide +kernel
theorem dX5_mean_16 : decode cX5_mean 16 = .ok (.aload_n 0, 1) := by decide +kernel
theorem dX5_mean_17 : decode cX5_mean 17 = .ok (.getfield 12, 3) := by decide +kernel
theorem dX5_mean_20 : decode cX5_mean 20 = .ok (.invokevirtual 227, 3) := by decide +kernel
theorem dX5_mean_23 : decode cX5_mean 23 = .ok (.i2l, 1) := by decide +kernel
theorem dX5_mean_24 : decode cX5_mean 24 = .ok (.iconst 1, 1) := by decide +kernel
theorem dX5_mean_25 : decode cX5_mean 25 = .ok (.aload_n 0, 1) := by decide +kernel
theorem dX5_mean_26 : decode cX5_mean 26 = .ok (.getfield 12, 3) := by decide +kernel
theorem dX5_mean_29 : decode cX5_mean 29 = .ok (.invokevirtual 230, 3) := by decide +kernel
theorem dX5_mean_32 : decode cX5_mean 32 = .ok (.invokestatic 233, 3) := by decide +kernel
theorem dX5_mean_35 : decode cX5_mean 35 = .ok (.i2l, 1) := by decide +kernel
theorem dX5_mean_36 : decode cX5_mean 36 = .ok (.iload_n 1, 1) := by decide +kernel
theorem dX5_mean_37 : decode cX5_mean 37 = .ok (.invokestatic 223, 3) := by decide +kernel
theorem dX5_mean_40 : decode cX5_mean 40 = .ok (.lreturn, 1) := by decide +kernel
def rmX5_mean : Room := { frames := 2, cells := 0, slots := 0, locals := 56 }
abbrev wsX5_mean : List Cond := .code yX5_mean cX5_mean 2 (some .long) :: gw_tbl
def kX5_mean_16 : pProg := (16, 1, a_aload 0) :: (17, 3, a_getf 0 3 0) :: (20, 3, a_callv 1 0 [1, 2, 3, 4, 5, 6, 7] tX0_allBruises) :: (23, 1, a_i2l) :: (24, 1, a_iconst 1) :: (25, 1, a_aload 0) :: (26, 3, a_getf 0 3 0) :: (29, 3, a_callv 1 0 [1, 2, 3, 4, 5, 6, 7] tX0_miners) :: (32, 3, a_mmax) :: (35, 1, a_i2l) :: (36, 1, a_iload 1) :: (37, 3, a_calls 3 [] tX5_partOf) :: (40, 1, a_lret) :: []
def kX5_mean_0 : pProg := (0, 1, a_iload 1) :: (1, 3, a_if_eq 16) :: (4, 1, a_iload 1) :: (5, 1, a_iconst 1) :: (6, 3, a_icmp_eq 16) :: (9, 1, a_aload 0) :: (10, 2, a_iconst (-2)) :: (12, 3, a_callv 2 3 [0, 1, 2, 3, 4, 5, 6, 7, 8, 9, 10, 11, 12, 13, 14, 15, 16, 17, 18, 19, 20, 21, 22, 23, 24, 25, 26, 27, 28] tX5_longRefused) :: (15, 1, a_lret) :: []
set_option maxRecDepth 100000 in
theorem sX5_mean_16 (l : Launch) : AllS (pSnd l rmX5_mean yX5_mean.cls cX5_mean wsX5_mean 2 (some .long)) 16 kX5_mean_16 :=
  alls _ (s_aload_n rfl dX5_mean_16) <|
  alls _ (s_getf (C := RX5) (T := TX5) (N := 7) rfl (in_c inX5) (by decide) (List.mem_cons_of_mem _ wd_143) rfl dX5_mean_17) <|
  alls _ (s_callv (ct_X0_allBruises l) rfl rfl rfl (gdV wd_664 wd_445 wd_446 wd_61 wd_447) rfl rfl (by decide +kernel) ⟨Nat.le_of_ble_eq_true rfl, Nat.le_of_ble_eq_true rfl⟩ dX5_mean_20) <|
  alls _ (s_i2l dX5_mean_23) <|
  alls _ (s_iconst dX5_mean_24) <|
  alls _ (s_aload_n rfl dX5_mean_25) <|
  alls _ (s_getf (C := RX5) (T := TX5) (N := 7) rfl (in_c inX5) (by decide) (List.mem_cons_of_mem _ wd_143) rfl dX5_mean_26) <|
  alls _ (s_callv (ct_X0_miners l) rfl rfl rfl (gdV wd_665 wd_240 wd_241 wd_61 wd_242) rfl rfl (by decide +kernel) ⟨Nat.le_of_ble_eq_true rfl, Nat.le_of_ble_eq_true rfl⟩ dX5_mean_29) <|
  alls _ (s_mmax (List.mem_cons_of_mem _ wd_666) (List.mem_cons_of_mem _ wd_134) (List.mem_cons_of_mem _ wd_64) (List.mem_cons_of_mem _ wd_135) ⟨Nat.le_of_ble_eq_true rfl, Nat.le_of_ble_eq_true rfl⟩ dX5_mean_32) <|
  alls _ (s_i2l dX5_mean_35) <|
  alls _ (s_iload_n rfl dX5_mean_36) <|
  alls _ (s_calls (ct_X5_partOf l) rfl rfl (gdS wd_656) (List.mem_cons_of_mem _ wd_654) (List.mem_cons_of_mem _ wd_655) (List.mem_cons_of_mem _ wd_60) rfl rfl (by decide +kernel) ⟨Nat.le_of_ble_eq_true rfl, Nat.le_of_ble_eq_true rfl⟩ dX5_mean_37) <|
  alls _ (s_lret dX5_mean_40) <|
  alls_nil _
set_option maxRecDepth 100000 in
theorem sX5_mean_0 (l : Launch) : AllS (pSnd l rmX5_mean yX5_mean.cls cX5_mean wsX5_mean 2 (some .long)) 0 kX5_mean_0 :=
  alls _ (s_iload_n rfl dX5_mean_0) <|
  alls _ (s_if_eq (by decide) dX5_mean_1) <|
  alls _ (s_iload_n rfl dX5_mean_4) <|
  alls _ (s_iconst dX5_mean_5) <|
  alls _ (s_icmp_eq (by decide) dX5_mean_6) <|
  alls _ (s_aload_n rfl dX5_mean_9) <|
  alls _ (s_bipush (by decide) dX5_mean_10) <|
  alls _ (s_callv (ct_X5_longRefused l) rfl rfl rfl (gdV wd_636 wd_638 wd_8 wd_60 wd_639) rfl rfl (by decide +kernel) ⟨Nat.le_of_ble_eq_true rfl, Nat.le_of_ble_eq_true rfl⟩ dX5_mean_12) <|
  alls _ (s_lret dX5_mean_15) <|
  alls_nil _
def KX5_mean : List (Nat × pProg) := [(0, kX5_mean_0), (16, kX5_mean_16)]
theorem bX5_mean_0 : blkOf KX5_mean 0 = some kX5_mean_0 := rfl
theorem bX5_mean_16 : blkOf KX5_mean 16 = some kX5_mean_16 := rfl
def tX5_mean : pT := pM KX5_mean 2
theorem ct_X5_mean (l : Launch) : pCtr l yX5_mean wsX5_mean rmX5_mean 2 tX5_mean := ctr_of (by decide +kernel) rfl (List.forall_mem_cons.mpr ⟨sX5_mean_0 l, List.forall_mem_cons.mpr ⟨sX5_mean_16 l, fun _ h => absurd h List.not_mem_nil⟩⟩)
theorem dX5_whatIs_0 : decode cX5_whatIs 0 = .ok (.aload_n 0, 1) := by decide +kernel
theorem dX5_whatIs_1 : decode cX5_whatIs 1 = .ok (.getfield 12, 3) := by decide +kernel
theorem dX5_whatIs_4 : decode cX5_whatIs 4 = .ok (.iload_n 1, 1) := by decide +kernel
theorem dX5_whatIs_5 : decode cX5_whatIs 5 = .ok (.invokevirtual 64, 3) := by decide +kernel
theorem dX5_whatIs_8 : decode cX5_whatIs 8 = .ok (.ifCond .ne 9, 3) := by decide +kernel
theorem dX5_whatIs_11 : decode cX5_whatIs 11 = .ok (.aload_n 0, 1) := by decide +kernel
theorem dX5_whatIs_12 : decode cX5_whatIs 12 = .ok (.iconst (-1), 1) := by decide +kernel
theorem dX5_whatIs_13 : decode cX5_whatIs 13 = .ok (.invokevirtual 44, 3) := by decide +kernel
theorem dX5_whatIs_16 : decode cX5_whatIs 16 = .ok (.ireturn, 1) := by decide +kernel
theorem dX5_whatIs_17 : decode cX5_whatIs 17 = .ok (.iload_n 2, 1) := by decide +kernel
theorem dX5_whatIs_18 : decode cX5_whatIs 18 = .ok (.lookupswitch 52 #[(0, 26), (1, 39)], 26) := by decide +kernel
theorem dX5_whatIs_44 : decode cX5_whatIs 44 = .ok (.aload_n 0, 1) := by decide +kernel
theorem dX5_whatIs_45 : decode cX5_whatIs 45 = .ok (.getfield 24, 3) := by decide +kernel
theorem dX5_whatIs_48 : decode cX5_whatIs 48 = .ok (.iload_n 1, 1) := by decide +kernel
theorem dX5_whatIs_49 : decode cX5_whatIs 49 = .ok (.aload_n 0, 1) := by decide +kernel
theorem dX5_whatIs_50 : decode cX5_whatIs 50 = .ok (.getfield 37, 3) := by decide +kernel
theorem dX5_whatIs_53 : decode cX5_whatIs 53 = .ok (.invokevirtual 238, 3) := by decide +kernel
theorem dX5_whatIs_56 : decode cX5_whatIs 56 = .ok (.ireturn, 1) := by decide +kernel
theorem dX5_whatIs_57 : decode cX5_whatIs 57 = .ok (.aload_n 0, 1) := by decide +kernel
theorem dX5_whatIs_58 : decode cX5_whatIs 58 = .ok (.getfield 24, 3) := by decide +kernel
theorem dX5_whatIs_61 : decode cX5_whatIs 61 = .ok (.iload_n 1, 1) := by decide +kernel
theorem dX5_whatIs_62 : decode cX5_whatIs 62 = .ok (.aload_n 0, 1) := by decide +kernel
theorem dX5_whatIs_63 : decode cX5_whatIs 63 = .ok (.getfield 37, 3) := by decide +kernel
theorem dX5_whatIs_66 : decode cX5_whatIs 66 = .ok (.invokevirtual 242, 3) := by decide +kernel
theorem dX5_whatIs_69 : decode cX5_whatIs 69 = .ok (.ireturn, 1) := by decide +kernel
theorem dX5_whatIs_70 : decode cX5_whatIs 70 = .ok (.aload_n 0, 1) := by decide +kernel
theorem dX5_whatIs_71 : decode cX5_whatIs 71 = .ok (.bipush (-2), 2) := by decide +kernel
theorem dX5_whatIs_73 : decode cX5_whatIs 73 = .ok (.invokevirtual 44, 3) := by decide +kernel
theorem dX5_whatIs_76 : decode cX5_whatIs 76 = .ok (.ireturn, 1) := by decide +kernel
def rmX5_whatIs : Room := { frames := 6, cells := 0, slots := 0, locals := 141 }
abbrev wsX5_whatIs : List Cond := .code yX5_whatIs cX5_whatIs 3 (some .int) :: gw_tbl
def kX5_whatIs_70 : pProg := (70, 1, a_aload 0) :: (71, 2, a_iconst (-2)) :: (73, 3, a_callv 2 3 [0, 1, 2, 3, 4, 5, 6, 7, 8, 9, 10, 11, 12, 13, 14, 15, 16, 17, 18, 19, 20, 21, 22, 23, 24, 25, 26, 27, 28] tX5_refused) :: (76, 1, a_iret) :: []
def kX5_whatIs_57 : pProg := (57, 1, a_aload 0) :: (58, 3, a_getf 0 3 3) :: (61, 1, a_iload 1) :: (62, 1, a_aload 0) :: (63, 3, a_getf 0 3 5) :: (66, 3, a_callv 3 2 [15, 1, 2, 3, 4, 5, 6, 7, 16, 17, 18, 19, 20, 21, 22, 23, 26, 27] tX4_figuresSo) :: (69, 1, a_iret) :: []
def kX5_whatIs_44 : pProg := (44, 1, a_aload 0) :: (45, 3, a_getf 0 3 3) :: (48, 1, a_iload 1) :: (49, 1, a_aload 0) :: (50, 3, a_getf 0 3 5) :: (53, 3, a_callv 3 2 [15, 1, 2, 3, 4, 5, 6, 7, 16, 17, 18, 19, 20, 21, 22, 23, 26, 27] tX4_kindsSo) :: (56, 1, a_iret) :: []
def kX5_whatIs_17 : pProg := (17, 1, a_iload 2) :: (18, 26, a_lsw [(0, 44), (1, 57)] 70) :: []
def kX5_whatIs_0 : pProg := (0, 1, a_aload 0) :: (1, 3, a_getf 0 3 0) :: (4, 1, a_iload 1) :: (5, 3, a_callv 2 0 [1, 2, 3, 4, 5, 6, 7] tX0_isMiner) :: (8, 3, a_if_ne 17) :: (11, 1, a_aload 0) :: (12, 1, a_iconst (-1)) :: (13, 3, a_callv 2 3 [0, 1, 2, 3, 4, 5, 6, 7, 8, 9, 10, 11, 12, 13, 14, 15, 16, 17, 18, 19, 20, 21, 22, 23, 24, 25, 26, 27, 28] tX5_refused) :: (16, 1, a_iret) :: []
set_option maxRecDepth 100000 in
theorem sX5_whatIs_70 (l : Launch) : AllS (pSnd l rmX5_whatIs yX5_whatIs.cls cX5_whatIs wsX5_whatIs 3 (some .int)) 70 kX5_whatIs_70 :=
  alls _ (s_aload_n rfl dX5_whatIs_70) <|
  alls _ (s_bipush (by decide) dX5_whatIs_71) <|
  alls _ (s_callv (ct_X5_refused l) rfl rfl rfl (gdV wd_169 wd_171 wd_0 wd_60 wd_172) rfl rfl (by decide +kernel) ⟨Nat.le_of_ble_eq_true rfl, Nat.le_of_ble_eq_true rfl⟩ dX5_whatIs_73) <|
  alls _ (s_iret dX5_whatIs_76) <|
  alls_nil _
set_option maxRecDepth 100000 in
theorem sX5_whatIs_57 (l : Launch) : AllS (pSnd l rmX5_whatIs yX5_whatIs.cls cX5_whatIs wsX5_whatIs 3 (some .int)) 57 kX5_whatIs_57 :=
  alls _ (s_aload_n rfl dX5_whatIs_57) <|
  alls _ (s_getf (C := RX5) (T := TX5) (N := 7) rfl (in_c inX5) (by decide) (List.mem_cons_of_mem _ wd_146) rfl dX5_whatIs_58) <|
  alls _ (s_iload_n rfl dX5_whatIs_61) <|
  alls _ (s_aload_n rfl dX5_whatIs_62) <|
  alls _ (s_getf (C := RX5) (T := TX5) (N := 7) rfl (in_c inX5) (by decide) (List.mem_cons_of_mem _ wd_148) rfl dX5_whatIs_63) <|
  alls _ (s_callv (ct_X4_figuresSo l) rfl rfl rfl (gdV wd_681 wd_682 wd_683 wd_62 wd_684) rfl rfl (by decide +kernel) ⟨Nat.le_of_ble_eq_true rfl, Nat.le_of_ble_eq_true rfl⟩ dX5_whatIs_66) <|
  alls _ (s_iret dX5_whatIs_69) <|
  alls_nil _
set_option maxRecDepth 100000 in
theorem sX5_whatIs_44 (l : Launch) : AllS (pSnd l rmX5_whatIs yX5_whatIs.cls cX5_whatIs wsX5_whatIs 3 (some .int)) 44 kX5_whatIs_44 :=
  alls _ (s_aload_n rfl dX5_whatIs_44) <|
  alls _ (s_getf (C := RX5) (T := TX5) (N := 7) rfl (in_c inX5) (by decide) (List.mem_cons_of_mem _ wd_146) rfl dX5_whatIs_45) <|
  alls _ (s_iload_n rfl dX5_whatIs_48) <|
  alls _ (s_aload_n rfl dX5_whatIs_49) <|
  alls _ (s_getf (C := RX5) (T := TX5) (N := 7) rfl (in_c inX5) (by decide) (List.mem_cons_of_mem _ wd_148) rfl dX5_whatIs_50) <|
  alls _ (s_callv (ct_X4_kindsSo l) rfl rfl rfl (gdV wd_671 wd_672 wd_673 wd_62 wd_674) rfl rfl (by decide +kernel) ⟨Nat.le_of_ble_eq_true rfl, Nat.le_of_ble_eq_true rfl⟩ dX5_whatIs_53) <|
  alls _ (s_iret dX5_whatIs_56) <|
  alls_nil _
set_option maxRecDepth 100000 in
theorem sX5_whatIs_17 (l : Launch) : AllS (pSnd l rmX5_whatIs yX5_whatIs.cls cX5_whatIs wsX5_whatIs 3 (some .int)) 17 kX5_whatIs_17 :=
  alls _ (s_iload_n rfl dX5_whatIs_17) <|
  alls _ (s_lsw (by decide) (by decide) (by decide) dX5_whatIs_18) <|
  alls_nil _
set_option maxRecDepth 100000 in
theorem sX5_whatIs_0 (l : Launch) : AllS (pSnd l rmX5_whatIs yX5_whatIs.cls cX5_whatIs wsX5_whatIs 3 (some .int)) 0 kX5_whatIs_0 :=
  alls _ (s_aload_n rfl dX5_whatIs_0) <|
  alls _ (s_getf (C := RX5) (T := TX5) (N := 7) rfl (in_c inX5) (by decide) (List.mem_cons_of_mem _ wd_143) rfl dX5_whatIs_1) <|
  alls _ (s_iload_n rfl dX5_whatIs_4) <|
  alls _ (s_callv (ct_X0_isMiner l) rfl rfl rfl (gdV wd_338 wd_339 wd_340 wd_61 wd_341) rfl rfl (by decide +kernel) ⟨Nat.le_of_ble_eq_true rfl, Nat.le_of_ble_eq_true rfl⟩ dX5_whatIs_5) <|
  alls _ (s_if_ne (by decide) dX5_whatIs_8) <|
  alls _ (s_aload_n rfl dX5_whatIs_11) <|
  alls _ (s_iconst dX5_whatIs_12) <|
  alls _ (s_callv (ct_X5_refused l) rfl rfl rfl (gdV wd_169 wd_171 wd_0 wd_60 wd_172) rfl rfl (by decide +kernel) ⟨Nat.le_of_ble_eq_true rfl, Nat.le_of_ble_eq_true rfl⟩ dX5_whatIs_13) <|
  alls _ (s_iret dX5_whatIs_16) <|
  alls_nil _
def KX5_whatIs : List (Nat × pProg) := [(0, kX5_whatIs_0), (17, kX5_whatIs_17), (44, kX5_whatIs_44), (57, kX5_whatIs_57), (70, kX5_whatIs_70)]
theorem bX5_whatIs_0 : blkOf KX5_whatIs 0 = some kX5_whatIs_0 := rfl
theorem bX5_whatIs_17 : blkOf KX5_whatIs 17 = some kX5_whatIs_17 := rfl
theorem bX5_whatIs_44 : blkOf KX5_whatIs 44 = some kX5_whatIs_44 := rfl
theorem bX5_whatIs_57 : blkOf KX5_whatIs 57 = some kX5_whatIs_57 := rfl
theorem bX5_whatIs_70 : blkOf KX5_whatIs 70 = some kX5_whatIs_70 := rfl
def tX5_whatIs : pT := pM KX5_whatIs 3
theorem ct_X5_whatIs (l : Launch) : pCtr l yX5_whatIs wsX5_whatIs rmX5_whatIs 3 tX5_whatIs := ctr_of (by decide +kernel) rfl (List.forall_mem_cons.mpr ⟨sX5_whatIs_0 l, List.forall_mem_cons.mpr ⟨sX5_whatIs_17 l, List.forall_mem_cons.mpr ⟨sX5_whatIs_44 l, List.forall_mem_cons.mpr ⟨sX5_whatIs_57 l, List.forall_mem_cons.mpr ⟨sX5_whatIs_70 l, fun _ h => absurd h List.not_mem_nil⟩⟩⟩⟩⟩)
theorem dX5_row_0 : decode cX5_row 0 = .ok (.iload_n 1, 1) := by decide +kernel
theorem dX5_row_1 : decode cX5_row 1 = .ok (.ifCond .ge 10, 3) := by decide +kernel
theorem dX5_row_4 : decode cX5_row 4 = .ok (.aload_n 0, 1) := by decide +kernel
theorem dX5_row_5 : decode cX5_row 5 = .ok (.bipush (-4), 2) := by decide +kernel
theorem dX5_row_7 : decode cX5_row 7 = .ok (.invokevirtual 44, 3) := by decide +kernel
theorem dX5_row_10 : decode cX5_row 10 = .ok (.ireturn, 1) := by decide +kernel
theorem dX5_row_11 : decode cX5_row 11 = .ok (.iload_n 1, 1) := by decide +kernel
theorem dX5_row_12 : decode cX5_row 12 = .ok (.bipush 99, 2) := by decide +kernel
theorem dX5_row_14 : decode cX5_row 14 = .ok (.if_icmp .gt 13, 3) := by decide +kernel
theorem dX5_row_17 : decode cX5_row 17 = .ok (.aload_n 0, 1) := by decide +kernel
theorem dX5_row_18 : decode cX5_row 18 = .ok (.getfield 37, 3) := by decide +kernel
theorem dX5_row_21 : decode cX5_row 21 = .ok (.invokevirtual 48, 3) := by decide +kernel
theorem dX5_row_24 : decode cX5_row 24 = .ok (.ifCond .eq 10, 3) := by decide +kernel
theorem dX5_row_27 : decode cX5_row 27 = .ok (.aload_n 0, 1) := by decide +kernel
theorem dX5_row_28 : decode cX5_row 28 = .ok (.bipush (-6), 2) := by decide +kernel
theorem dX5_row_30 : decode cX5_row 30 = .ok (.invokevirtual 44, 3) := by decide +kernel
theorem dX5_row_33 : decode cX5_row 33 = .ok (.ireturn, 1) := by decide +kernel
theorem dX5_row_34 : decode cX5_row 34 = .ok (.aload_n 0, 1) := by decide +kernel
theorem dX5_row_35 : decode cX5_row 35 = .ok (.getfield 37, 3) := by decide +kernel
theorem dX5_row_38 : decode cX5_row 38 = .ok (.iload_n 1, 1) := by decide +kernel
theorem dX5_row_39 : decode cX5_row 39 = .ok (.invokevirtual 52, 3) := by decide +kernel
theorem dX5_row_42 : decode cX5_row 42 = .ok (.ireturn, 1) := by decide +kernel
def rmX5_row : Room := { frames := 1, cells := 0, slots := 0, locals := 22 }
abbrev wsX5_row : List Cond := .code yX5_row cX5_row 2 (some .int) :: gw_tbl
def kX5_row_34 : pProg := (34, 1, a_aload 0) :: (35, 3, a_getf 0 3 5) :: (38, 1, a_iload 1) :: (39, 3, a_callv 2 1 [26, 27] tX2_add) :: (42, 1, a_iret) :: []
def kX5_row_27 : pProg := (27, 1, a_aload 0) :: (28, 2, a_iconst (-6)) :: (30, 3, a_callv 2 3 [0, 1, 2, 3, 4, 5, 6, 7, 8, 9, 10, 11, 12, 13, 14, 15, 16, 17, 18, 19, 20, 21, 22, 23, 24, 25, 26, 27, 28] tX5_refused) :: (33, 1, a_iret) :: []
def kX5_row_11 : pProg := (11, 1, a_iload 1) :: (12, 2, a_iconst 99) :: (14, 3, a_icmp_gt 27) :: (17, 1, a_aload 0) :: (18, 3, a_getf 0 3 5) :: (21, 3, a_callv 1 1 [26, 27] tX2_isFull) :: (24, 3, a_if_eq 34) :: (27, 0, a_fall 27) :: []
def kX5_row_0 : pProg := (0, 1, a_iload 1) :: (1, 3, a_if_ge 11) :: (4, 1, a_aload 0) :: (5, 2, a_iconst (-4)) :: (7, 3, a_callv 2 3 [0, 1, 2, 3, 4, 5, 6, 7, 8, 9, 10, 11, 12, 13, 14, 15, 16, 17, 18, 19, 20, 21, 22, 23, 24, 25, 26, 27, 28] tX5_refused) :: (10, 1, a_iret) :: []
set_option maxRecDepth 100000 in
theorem sX5_row_34 (l : Launch) : AllS (pSnd l rmX5_row yX5_row.cls cX5_row wsX5_row 2 (some .int)) 34 kX5_row_34 :=
  alls _ (s_aload_n rfl dX5_row_34) <|
  alls _ (s_getf (C := RX5) (T := TX5) (N := 7) rfl (in_c inX5) (by decide) (List.mem_cons_of_mem _ wd_148) rfl dX5_row_35) <|
  alls _ (s_iload_n rfl dX5_row_38) <|
  alls _ (s_callv (ct_X2_add l) rfl rfl rfl (gdV wd_177 wd_178 wd_179 wd_63 wd_180) rfl rfl (by decide +kernel) ⟨Nat.le_of_ble_eq_true rfl, Nat.le_of_ble_eq_true rfl⟩ dX5_row_39) <|
  alls _ (s_iret dX5_row_42) <|
  alls_nil _
set_option maxRecDepth 100000 in
theorem sX5_row_27 (l : Launch) : AllS (pSnd l rmX5_row yX5_row.cls cX5_row wsX5_row 2 (some .int)) 27 kX5_row_27 :=
  alls _ (s_aload_n rfl dX5_row_27) <|
  alls _ (s_bipush (by decide) dX5_row_28) <|
  alls _ (s_callv (ct_X5_refused l) rfl rfl rfl (gdV wd_169 wd_171 wd_0 wd_60 wd_172) rfl rfl (by decide +kernel) ⟨Nat.le_of_ble_eq_true rfl, Nat.le_of_ble_eq_true rfl⟩ dX5_row_30) <|
  alls _ (s_iret dX5_row_33) <|
  alls_nil _
set_option maxRecDepth 100000 in
theorem sX5_row_11 (l : Launch) : AllS (pSnd l rmX5_row yX5_row.cls cX5_row wsX5_row 2 (some .int)) 11 kX5_row_11 :=
  alls _ (s_iload_n rfl dX5_row_11) <|
  alls _ (s_bipush (by decide) dX5_row_12) <|
  alls _ (s_icmp_gt (by decide) dX5_row_14) <|
  alls _ (s_aload_n rfl dX5_row_17) <|
  alls _ (s_getf (C := RX5) (T := TX5) (N := 7) rfl (in_c inX5) (by decide) (List.mem_cons_of_mem _ wd_148) rfl dX5_row_18) <|
  alls _ (s_callv (ct_X2_isFull l) rfl rfl rfl (gdV wd_173 wd_174 wd_175 wd_63 wd_176) rfl rfl (by decide +kernel) ⟨Nat.le_of_ble_eq_true rfl, Nat.le_of_ble_eq_true rfl⟩ dX5_row_21) <|
  alls _ (s_if_eq (by decide) dX5_row_24) <|
  alls _ s_fall (alls_nil _)
set_option maxRecDepth 100000 in
theorem sX5_row_0 (l : Launch) : AllS (pSnd l rmX5_row yX5_row.cls cX5_row wsX5_row 2 (some .int)) 0 kX5_row_0 :=
  alls _ (s_iload_n rfl dX5_row_0) <|
  alls _ (s_if_ge (by decide) dX5_row_1) <|
  alls _ (s_aload_n rfl dX5_row_4) <|
  alls _ (s_bipush (by decide) dX5_row_5) <|
  alls _ (s_callv (ct_X5_refused l) rfl rfl rfl (gdV wd_169 wd_171 wd_0 wd_60 wd_172) rfl rfl (by decide +kernel) ⟨Nat.le_of_ble_eq_true rfl, Nat.le_of_ble_eq_true rfl⟩ dX5_row_7) <|
  alls _ (s_iret dX5_row_10) <|
  alls_nil _
def KX5_row : List (Nat × pProg) := [(0, kX5_row_0), (11, kX5_row_11), (27, kX5_row_27), (34, kX5_row_34)]
theorem bX5_row_0 : blkOf KX5_row 0 = some kX5_row_0 := rfl
theorem bX5_row_11 : blkOf KX5_row 11 = some kX5_row_11 := rfl
theorem bX5_row_27 : blkOf KX5_row 27 = some kX5_row_27 := rfl
theorem bX5_row_34 : blkOf KX5_row 34 = some kX5_row_34 := rfl
def tX5_row : pT := pM KX5_row 2
theorem ct_X5_row (l : Launch) : pCtr l yX5_row wsX5_row rmX5_row 2 tX5_row := ctr_of (by decide +kernel) rfl (List.forall_mem_cons.mpr ⟨sX5_row_0 l, List.forall_mem_cons.mpr ⟨sX5_row_11 l, List.forall_mem_cons.mpr ⟨sX5_row_27 l, List.forall_mem_cons.mpr ⟨sX5_row_34 l, fun _ h => absurd h List.not_mem_nil⟩⟩⟩⟩)
theorem dX5_judge_0 : decode cX5_judge 0 = .ok (.aload_n 0, 1) := by decide +kernel
theorem dX5_judge_1 : decode cX5_judge 1 = .ok (.getfield 12, 3) := by decide +kernel
theorem dX5_judge_4 : decode cX5_judge 4 = .ok (.aload_n 0, 1) := by decide +kernel
theorem dX5_judge_5 : decode cX5_judge 5 = .ok (.getfield 37, 3) := by decide +kernel
theorem dX5_judge_8 : decode cX5_judge 8 = .ok (.invokevirtual 245, 3) := by decide +kernel
theorem dX5_judge_11 : decode cX5_judge 11 = .ok (.istore_n 1, 1) := by decide +kernel
theorem dX5_judge_12 : decode cX5_judge 12 = .ok (.aload_n 0, 1) := by decide +kernel
theorem dX5_judge_13 : decode cX5_judge 13 = .ok (.getfield 37, 3) := by decide +kernel
theorem dX5_judge_16 : decode cX5_judge 16 = .ok (.invokevirtual 61, 3) := by decide +kernel
theorem dX5_judge_19 : decode cX5_judge 19 = .ok (.iload_n 1, 1) := by decide +kernel
theorem dX5_judge_20 : decode cX5_judge 20 = .ok (.ireturn, 1) := by decide +kernel
def rmX5_judge : Room := { frames := 2, cells := 0, slots := 0, locals := 43 }
abbrev wsX5_judge : List Cond := .code yX5_judge cX5_judge 2 (some .int) :: gw_tbl
def kX5_judge_0 : pProg := (0, 1, a_aload 0) :: (1, 3, a_getf 0 3 0) :: (4, 1, a_aload 0) :: (5, 3, a_getf 0 3 5) :: (8, 3, a_callv 2 0 [1, 2, 3, 4, 5, 6, 7, 26, 27] tX0_firstNotSo) :: (11, 1, a_istore 1) :: (12, 1, a_aload 0) :: (13, 3, a_getf 0 3 5) :: (16, 3, a_callv 1 1 [26, 27] tX2_forget) :: (19, 1, a_iload 1) :: (20, 1, a_iret) :: []
set_option maxRecDepth 100000 in
theorem sX5_judge_0 (l : Launch) : AllS (pSnd l rmX5_judge yX5_judge.cls cX5_judge wsX5_judge 2 (some .int)) 0 kX5_judge_0 :=
  alls _ (s_aload_n rfl dX5_judge_0) <|
  alls _ (s_getf (C := RX5) (T := TX5) (N := 7) rfl (in_c inX5) (by decide) (List.mem_cons_of_mem _ wd_143) rfl dX5_judge_1) <|
  alls _ (s_aload_n rfl dX5_judge_4) <|
  alls _ (s_getf (C := RX5) (T := TX5) (N := 7) rfl (in_c inX5) (by decide) (List.mem_cons_of_mem _ wd_148) rfl dX5_judge_5) <|
  alls _ (s_callv (ct_X0_firstNotSo l) rfl rfl rfl (gdV wd_694 wd_695 wd_696 wd_61 wd_697) rfl rfl (by decide +kernel) ⟨Nat.le_of_ble_eq_true rfl, Nat.le_of_ble_eq_true rfl⟩ dX5_judge_8) <|
  alls _ (s_istore_n rfl dX5_judge_11) <|
  alls _ (s_aload_n rfl dX5_judge_12) <|
  alls _ (s_getf (C := RX5) (T := TX5) (N := 7) rfl (in_c inX5) (by decide) (List.mem_cons_of_mem _ wd_148) rfl dX5_judge_13) <|
  alls _ (s_callv (ct_X2_forget l) rfl rfl rfl (gdV wd_330 wd_331 wd_332 wd_63 wd_333) rfl rfl (by decide +kernel) ⟨Nat.le_of_ble_eq_true rfl, Nat.le_of_ble_eq_true rfl⟩ dX5_judge_16) <|
  alls _ (s_iload_n rfl dX5_judge_19) <|
  alls _ (s_iret dX5_judge_20) <|
  alls_nil _
def KX5_judge : List (Nat × pProg) := [(0, kX5_judge_0)]
theorem bX5_judge_0 : blkOf KX5_judge 0 = some kX5_judge_0 := rfl
def tX5_judge : pT := pM KX5_judge 2
theorem ct_X5_judge (l : Launch) : pCtr l yX5_judge wsX5_judge rmX5_judge 1 tX5_judge := ctr_of (by decide +kernel) rfl (List.forall_mem_cons.mpr ⟨sX5_judge_0 l, fun _ h => absurd h List.not_mem_nil⟩)
theorem dX5_clear_0 : decode cX5_clear 0 = .ok (.aload_n 0, 1) := by decide +kernel
theorem dX5_clear_1 : decode cX5_clear 1 = .ok (.getfield 37, 3) := by decide +kernel
theorem dX5_clear_4 : decode cX5_clear 4 = .ok (.invokevirtual 249, 3) := by decide +kernel
theorem dX5_clear_7 : decode cX5_clear 7 = .ok (.istore_n 1, 1) := by decide +kernel
theorem dX5_clear_8 : decode cX5_clear 8 = .ok (.aload_n 0, 1) := by decide +kernel
theorem dX5_clear_9 : decode cX5_clear 9 = .ok (.getfield 37, 3) := by decide +kernel
theorem dX5_clear_12 : decode cX5_clear 12 = .ok (.invokevirtual 61, 3) := by decide +kernel
theorem dX5_clear_15 : decode cX5_clear 15 = .ok (.iload_n 1, 1) := by decide +kernel
theorem dX5_clear_16 : decode cX5_clear 16 = .ok (.ireturn, 1) := by decide +kernel
def rmX5_clear : Room := { frames := 1, cells := 0, slots := 0, locals := 20 }
abbrev wsX5_clear : List Cond := .code yX5_clear cX5_clear 2 (some .int) :: gw_tbl
def kX5_clear_0 : pProg := (0, 1, a_aload 0) :: (1, 3, a_getf 0 3 5) :: (4, 3, a_callv 1 1 [26, 27] tX2_size) :: (7, 1, a_istore 1) :: (8, 1, a_aload 0) :: (9, 3, a_getf 0 3 5) :: (12, 3, a_callv 1 1 [26, 27] tX2_forget) :: (15, 1, a_iload 1) :: (16, 1, a_iret) :: []
set_option maxRecDepth 100000 in
theorem sX5_clear_0 (l : Launch) : AllS (pSnd l rmX5_clear yX5_clear.cls cX5_clear wsX5_clear 2 (some .int)) 0 kX5_clear_0 :=
  alls _ (s_aload_n rfl dX5_clear_0) <|
  alls _ (s_getf (C := RX5) (T := TX5) (N := 7) rfl (in_c inX5) (by decide) (List.mem_cons_of_mem _ wd_148) rfl dX5_clear_1) <|
  alls _ (s_callv (ct_X2_size l) rfl rfl rfl (gdV wd_704 wd_192 wd_193 wd_63 wd_194) rfl rfl (by decide +kernel) ⟨Nat.le_of_ble_eq_true rfl, Nat.le_of_ble_eq_true rfl⟩ dX5_clear_4) <|
  alls _ (s_istore_n rfl dX5_clear_7) <|
  alls _ (s_aload_n rfl dX5_clear_8) <|
  alls _ (s_getf (C := RX5) (T := TX5) (N := 7) rfl (in_c inX5) (by decide) (List.mem_cons_of_mem _ wd_148) rfl dX5_clear_9) <|
  alls _ (s_callv (ct_X2_forget l) rfl rfl rfl (gdV wd_330 wd_331 wd_332 wd_63 wd_333) rfl rfl (by decide +kernel) ⟨Nat.le_of_ble_eq_true rfl, Nat.le_of_ble_eq_true rfl⟩ dX5_clear_12) <|
  alls _ (s_iload_n rfl dX5_clear_15) <|
  alls _ (s_iret dX5_clear_16) <|
  alls_nil _
def KX5_clear : List (Nat × pProg) := [(0, kX5_clear_0)]
theorem bX5_clear_0 : blkOf KX5_clear 0 = some kX5_clear_0 := rfl
def tX5_clear : pT := pM KX5_clear 2
theorem ct_X5_clear (l : Launch) : pCtr l yX5_clear wsX5_clear rmX5_clear 1 tX5_clear := ctr_of (by decide +kernel) rfl (List.forall_mem_cons.mpr ⟨sX5_clear_0 l, fun _ h => absurd h List.not_mem_nil⟩)
theorem dX5_lots_0 : decode cX5_lots 0 = .ok (.iload_n 1, 1) := by decide +kernel
theorem dX5_lots_1 : decode cX5_lots 1 = .ok (.iconst 1, 1) := by decide +kernel
theorem dX5_lots_2 : decode cX5_lots 2 = .ok (.bipush 20, 2) := by decide +kernel
theorem dX5_lots_4 : decode cX5_lots 4 = .ok (.iload_n 3, 1) := by decide +kernel
theorem dX5_lots_5 : decode cX5_lots 5 = .ok (.invokestatic 135, 3) := by decide +kernel
theorem dX5_lots_8 : decode cX5_lots 8 = .ok (.istore 4, 2) := by decide +kernel
theorem dX5_lots_10 : decode cX5_lots 10 = .ok (.iload 4, 2) := by decide +kernel
theorem dX5_lots_12 : decode cX5_lots 12 = .ok (.ifCond .eq 12, 3) := by decide +kernel
theorem dX5_lots_15 : decode cX5_lots 15 = .ok (.aload_n 0, 1) := by decide +kernel
theorem dX5_lots_16 : decode cX5_lots 16 = .ok (.iload 4, 2) := by decide +kernel
theorem dX5_lots_18 : decode cX5_lots 18 = .ok (.invokevirtual 44, 3) := by decide +kernel
theorem dX5_lots_21 : decode cX5_lots 21 = .ok (.goto 13, 3) := by decide +kernel
theorem dX5_lots_24 : decode cX5_lots 24 = .ok (.aload_n 0, 1) := by decide +kernel
theorem dX5_lots_25 : decode cX5_lots 25 = .ok (.getfield 24, 3) := by decide +kernel
theorem dX5_lots_28 : decode cX5_lots 28 = .ok (.iload_n 1, 1) := by decide +kernel
theorem dX5_lots_29 : decode cX5_lots 29 = .ok (.iload_n 2, 1) := by decide +kernel
theorem dX5_lots_30 : decode cX5_lots 30 = .ok (.iload_n 3, 1) := by decide +kernel
theorem dX5_lots_31 : decode cX5_lots 31 = .ok (.invokevirtual 252, 3) := by decide +kernel
theorem dX5_lots_34 : decode cX5_lots 34 = .ok (.ireturn, 1) := by decide +kernel
def rmX5_lots : Room := { frames := 6, cells := 0, slots := 0, locals := 143 }
abbrev wsX5_lots : List Cond := .code yX5_lots cX5_lots 5 (some .int) :: gw_tbl
def kX5_lots_34 : pProg := (34, 1, a_iret) :: []
def kX5_lots_24 : pProg := (24, 1, a_aload 0) :: (25, 3, a_getf 0 3 3) :: (28, 1, a_iload 1) :: (29, 1, a_iload 2) :: (30, 1, a_iload 3) :: (31, 3, a_callv 4 2 [15, 1, 2, 3, 4, 5, 6, 7, 16, 17, 18, 19, 20, 21, 22, 23] tX4_shiftsByLot) :: (34, 0, a_fall 34) :: []
def kX5_lots_0 : pProg := (0, 1, a_iload 1) :: (1, 1, a_iconst 1) :: (2, 2, a_iconst 20) :: (4, 1, a_iload 3) :: (5, 3, a_calls 4 [] tX5_refusalOf) :: (8, 2, a_istore 4) :: (10, 2, a_iload 4) :: (12, 3, a_if_eq 24) :: (15, 1, a_aload 0) :: (16, 2, a_iload 4) :: (18, 3, a_callv 2 3 [0, 1, 2, 3, 4, 5, 6, 7, 8, 9, 10, 11, 12, 13, 14, 15, 16, 17, 18, 19, 20, 21, 22, 23, 24, 25, 26, 27, 28] tX5_refused) :: (21, 3, a_goto 34) :: []
set_option maxRecDepth 100000 in
theorem sX5_lots_34 (l : Launch) : AllS (pSnd l rmX5_lots yX5_lots.cls cX5_lots wsX5_lots 5 (some .int)) 34 kX5_lots_34 :=
  alls _ (s_iret dX5_lots_34) <|
  alls_nil _
set_option maxRecDepth 100000 in
theorem sX5_lots_24 (l : Launch) : AllS (pSnd l rmX5_lots yX5_lots.cls cX5_lots wsX5_lots 5 (some .int)) 24 kX5_lots_24 :=
  alls _ (s_aload_n rfl dX5_lots_24) <|
  alls _ (s_getf (C := RX5) (T := TX5) (N := 7) rfl (in_c inX5) (by decide) (List.mem_cons_of_mem _ wd_146) rfl dX5_lots_25) <|
  alls _ (s_iload_n rfl dX5_lots_28) <|
  alls _ (s_iload_n rfl dX5_lots_29) <|
  alls _ (s_iload_n rfl dX5_lots_30) <|
  alls _ (s_callv (ct_X4_shiftsByLot l) rfl rfl rfl (gdV wd_709 wd_710 wd_711 wd_62 wd_712) rfl rfl (by decide +kernel) ⟨Nat.le_of_ble_eq_true rfl, Nat.le_of_ble_eq_true rfl⟩ dX5_lots_31) <|
  alls _ s_fall (alls_nil _)
set_option maxRecDepth 100000 in
theorem sX5_lots_0 (l : Launch) : AllS (pSnd l rmX5_lots yX5_lots.cls cX5_lots wsX5_lots 5 (some .int)) 0 kX5_lots_0 :=
  alls _ (s_iload_n rfl dX5_lots_0) <|
  alls _ (s_iconst dX5_lots_1) <|
  alls _ (s_bipush (by decide) dX5_lots_2) <|
  alls _ (s_iload_n rfl dX5_lots_4) <|
  alls _ (s_calls (ct_X5_refusalOf l) rfl rfl (gdS wd_413) (List.mem_cons_of_mem _ wd_411) (List.mem_cons_of_mem _ wd_412) (List.mem_cons_of_mem _ wd_60) rfl rfl (by decide +kernel) ⟨Nat.le_of_ble_eq_true rfl, Nat.le_of_ble_eq_true rfl⟩ dX5_lots_5) <|
  alls _ (s_istore dX5_lots_8) <|
  alls _ (s_iload dX5_lots_10) <|
  alls _ (s_if_eq (by decide) dX5_lots_12) <|
  alls _ (s_aload_n rfl dX5_lots_15) <|
  alls _ (s_iload dX5_lots_16) <|
  alls _ (s_callv (ct_X5_refused l) rfl rfl rfl (gdV wd_169 wd_171 wd_0 wd_60 wd_172) rfl rfl (by decide +kernel) ⟨Nat.le_of_ble_eq_true rfl, Nat.le_of_ble_eq_true rfl⟩ dX5_lots_18) <|
  alls _ (s_goto (by decide) dX5_lots_21) <|
  alls_nil _
def KX5_lots : List (Nat × pProg) := [(0, kX5_lots_0), (24, kX5_lots_24), (34, kX5_lots_34)]
theorem bX5_lots_0 : blkOf KX5_lots 0 = some kX5_lots_0 := rfl
theorem bX5_lots_24 : blkOf KX5_lots 24 = some kX5_lots_24 := rfl
theorem bX5_lots_34 : blkOf KX5_lots 34 = some kX5_lots_34 := rfl
def tX5_lots : pT := pM KX5_lots 5
theorem ct_X5_lots (l : Launch) : pCtr l yX5_lots wsX5_lots rmX5_lots 4 tX5_lots := ctr_of (by decide +kernel) rfl (List.forall_mem_cons.mpr ⟨sX5_lots_0 l, List.forall_mem_cons.mpr ⟨sX5_lots_24 l, List.forall_mem_cons.mpr ⟨sX5_lots_34 l, fun _ h => absurd h List.not_mem_nil⟩⟩⟩)
theorem dX5_image_0 : decode cX5_image 0 = .ok (.aload_n 0, 1) := by decide +kernel
theorem dX5_image_1 : decode cX5_image 1 = .ok (.getfield 16, 3) := by decide +kernel
theorem dX5_image_4 : decode cX5_image 4 = .ok (.aload_n 0, 1) := by decide +kernel
theorem dX5_image_5 : decode cX5_image 5 = .ok (.getfield 12, 3) := by decide +kernel
theorem dX5_image_8 : decode cX5_image 8 = .ok (.invokevirtual 256, 3) := by decide +kernel
theorem dX5_image_11 : decode cX5_image 11 = .ok (.aload_n 0, 1) := by decide +kernel
theorem dX5_image_12 : decode cX5_image 12 = .ok (.iconst 1, 1) := by decide +kernel
theorem dX5_image_13 : decode cX5_image 13 = .ok (.putfield 259, 3) := by decide +kernel
theorem dX5_image_16 : decode cX5_image 16 = .ok (.aload_n 0, 1) := by decide +kernel
theorem dX5_image_17 : decode cX5_image 17 = .ok (.getfield 12, 3) := by decide +kernel
theorem dX5_image_20 : decode cX5_image 20 = .ok (.invokevirtual 91, 3) := by decide +kernel
theorem dX5_image_23 : decode cX5_image 23 = .ok (.ireturn, 1) := by decide +kernel
def rmX5_image : Room := { frames := 2, cells := 0, slots := 0, locals := 43 }
abbrev wsX5_image : List Cond := .code yX5_image cX5_image 1 (some .int) :: gw_tbl
def kX5_image_0 : pProg := (0, 1, a_aload 0) :: (1, 3, a_getf 0 3 1) :: (4, 1, a_aload 0) :: (5, 3, a_getf 0 3 0) :: (8, 3, a_callv 2 0 [8, 9, 10, 11, 12, 13, 14, 1, 2, 3, 4, 5, 6, 7] tX0_become) :: (11, 1, a_aload 0) :: (12, 1, a_iconst 1) :: (13, 3, a_putf 0 3 2 .boolean) :: (16, 1, a_aload 0) :: (17, 3, a_getf 0 3 0) :: (20, 3, a_callv 1 0 [1, 2, 3, 4, 5, 6, 7] tX0_minute) :: (23, 1, a_iret) :: []
set_option maxRecDepth 100000 in
theorem sX5_image_0 (l : Launch) : AllS (pSnd l rmX5_image yX5_image.cls cX5_image wsX5_image 1 (some .int)) 0 kX5_image_0 :=
  alls _ (s_aload_n rfl dX5_image_0) <|
  alls _ (s_getf (C := RX5) (T := TX5) (N := 7) rfl (in_c inX5) (by decide) (List.mem_cons_of_mem _ wd_144) rfl dX5_image_1) <|
  alls _ (s_aload_n rfl dX5_image_4) <|
  alls _ (s_getf (C := RX5) (T := TX5) (N := 7) rfl (in_c inX5) (by decide) (List.mem_cons_of_mem _ wd_143) rfl dX5_image_5) <|
  alls _ (s_callv (ct_X0_become l) rfl rfl rfl (gdV wd_727 wd_423 wd_424 wd_61 wd_425) rfl rfl (by decide +kernel) ⟨Nat.le_of_ble_eq_true rfl, Nat.le_of_ble_eq_true rfl⟩ dX5_image_8) <|
  alls _ (s_aload_n rfl dX5_image_11) <|
  alls _ (s_iconst dX5_image_12) <|
  alls _ (s_putf (C := RX5) (T := TX5) (N := 7) tyX5 rfl (in_c inX5) tyX5_ok nmX5 (by decide) (List.mem_cons_of_mem _ wd_145) rfl rfl (tyX5_ok 2 (by decide)) dX5_image_13) <|
  alls _ (s_aload_n rfl dX5_image_16) <|
  alls _ (s_getf (C := RX5) (T := TX5) (N := 7) rfl (in_c inX5) (by decide) (List.mem_cons_of_mem _ wd_143) rfl dX5_image_17) <|
  alls _ (s_callv (ct_X0_minute l) rfl rfl rfl (gdV wd_356 wd_213 wd_214 wd_61 wd_215) rfl rfl (by decide +kernel) ⟨Nat.le_of_ble_eq_true rfl, Nat.le_of_ble_eq_true rfl⟩ dX5_image_20) <|
  alls _ (s_iret dX5_image_23) <|
  alls_nil _
def KX5_image : List (Nat × pProg) := [(0, kX5_image_0)]
theorem bX5_image_0 : blkOf KX5_image 0 = some kX5_image_0 := rfl
def tX5_image : pT := pM KX5_image 1
theorem ct_X5_image (l : Launch) : pCtr l yX5_image wsX5_image rmX5_image 1 tX5_image := ctr_of (by decide +kernel) rfl (List.forall_mem_cons.mpr ⟨sX5_image_0 l, fun _ h => absurd h List.not_mem_nil⟩)
theorem dX5_on_0 : decode cX5_on 0 = .ok (.aload_n 0, 1) := by decide +kernel
theorem dX5_on_1 : decode cX5_on 1 = .ok (.getfield 259, 3) := by decide +kernel
theorem dX5_on_4 : decode cX5_on 4 = .ok (.ifCond .ne 10, 3) := by decide +kernel
theorem dX5_on_7 : decode cX5_on 7 = .ok (.aload_n 0, 1) := by decide +kernel
theorem dX5_on_8 : decode cX5_on 8 = .ok (.bipush (-3), 2) := by decide +kernel
theorem dX5_on_10 : decode cX5_on 10 = .ok (.invokevirtual 44, 3) := by decide +kernel
theorem dX5_on_13 : decode cX5_on 13 = .ok (.ireturn, 1) := by decide +kernel
theorem dX5_on_14 : decode cX5_on 14 = .ok (.aload_n 0, 1) := by decide +kernel
theorem dX5_on_15 : decode cX5_on 15 = .ok (.getfield 12, 3) := by decide +kernel
theorem dX5_on_18 : decode cX5_on 18 = .ok (.aload_n 0, 1) := by decide +kernel
theorem dX5_on_19 : decode cX5_on 19 = .ok (.getfield 16, 3) := by decide +kernel
theorem dX5_on_22 : decode cX5_on 22 = .ok (.invokevirtual 256, 3) := by decide +kernel
theorem dX5_on_25 : decode cX5_on 25 = .ok (.aload_n 0, 1) := by decide +kernel
theorem dX5_on_26 : decode cX5_on 26 = .ok (.getfield 12, 3) := by decide +kernel
theorem dX5_on_29 : decode cX5_on 29 = .ok (.invokevirtual 91, 3) := by decide +kernel
theorem dX5_on_32 : decode cX5_on 32 = .ok (.ireturn, 1) := by decide +kernel
def rmX5_on : Room := { frames := 2, cells := 0, slots := 0, locals := 43 }
abbrev wsX5_on : List Cond := .code yX5_on cX5_on 1 (some .int) :: gw_tbl
def kX5_on_14 : pProg := (14, 1, a_aload 0) :: (15, 3, a_getf 0 3 0) :: (18, 1, a_aload 0) :: (19, 3, a_getf 0 3 1) :: (22, 3, a_callv 2 0 [1, 2, 3, 4, 5, 6, 7, 8, 9, 10, 11, 12, 13, 14] tX0_become) :: (25, 1, a_aload 0) :: (26, 3, a_getf 0 3 0) :: (29, 3, a_callv 1 0 [1, 2, 3, 4, 5, 6, 7] tX0_minute) :: (32, 1, a_iret) :: []
def kX5_on_0 : pProg := (0, 1, a_aload 0) :: (1, 3, a_getf 0 3 2) :: (4, 3, a_if_ne 14) :: (7, 1, a_aload 0) :: (8, 2, a_iconst (-3)) :: (10, 3, a_callv 2 3 [0, 1, 2, 3, 4, 5, 6, 7, 8, 9, 10, 11, 12, 13, 14, 15, 16, 17, 18, 19, 20, 21, 22, 23, 24, 25, 26, 27, 28] tX5_refused) :: (13, 1, a_iret) :: []
set_option maxRecDepth 100000 in
theorem sX5_on_14 (l : Launch) : AllS (pSnd l rmX5_on yX5_on.cls cX5_on wsX5_on 1 (some .int)) 14 kX5_on_14 :=
  alls _ (s_aload_n rfl dX5_on_14) <|
  alls _ (s_getf (C := RX5) (T := TX5) (N := 7) rfl (in_c inX5) (by decide) (List.mem_cons_of_mem _ wd_143) rfl dX5_on_15) <|
  alls _ (s_aload_n rfl dX5_on_18) <|
  alls _ (s_getf (C := RX5) (T := TX5) (N := 7) rfl (in_c inX5) (by decide) (List.mem_cons_of_mem _ wd_144) rfl dX5_on_19) <|
  alls _ (s_callv (ct_X0_become l) rfl rfl rfl (gdV wd_727 wd_423 wd_424 wd_61 wd_425) rfl rfl (by decide +kernel) ⟨Nat.le_of_ble_eq_true rfl, Nat.le_of_ble_eq_true rfl⟩ dX5_on_22) <|
  alls _ (s_aload_n rfl dX5_on_25) <|
  alls _ (s_getf (C := RX5) (T := TX5) (N := 7) rfl (in_c inX5) (by decide) (List.mem_cons_of_mem _ wd_143) rfl dX5_on_26) <|
  alls _ (s_callv (ct_X0_minute l) rfl rfl rfl (gdV wd_356 wd_213 wd_214 wd_61 wd_215) rfl rfl (by decide +kernel) ⟨Nat.le_of_ble_eq_true rfl, Nat.le_of_ble_eq_true rfl⟩ dX5_on_29) <|
  alls _ (s_iret dX5_on_32) <|
  alls_nil _
set_option maxRecDepth 100000 in
theorem sX5_on_0 (l : Launch) : AllS (pSnd l rmX5_on yX5_on.cls cX5_on wsX5_on 1 (some .int)) 0 kX5_on_0 :=
  alls _ (s_aload_n rfl dX5_on_0) <|
  alls _ (s_getf (C := RX5) (T := TX5) (N := 7) rfl (in_c inX5) (by decide) (List.mem_cons_of_mem _ wd_145) rfl dX5_on_1) <|
  alls _ (s_if_ne (by decide) dX5_on_4) <|
  alls _ (s_aload_n rfl dX5_on_7) <|
  alls _ (s_bipush (by decide) dX5_on_8) <|
  alls _ (s_callv (ct_X5_refused l) rfl rfl rfl (gdV wd_169 wd_171 wd_0 wd_60 wd_172) rfl rfl (by decide +kernel) ⟨Nat.le_of_ble_eq_true rfl, Nat.le_of_ble_eq_true rfl⟩ dX5_on_10) <|
  alls _ (s_iret dX5_on_13) <|
  alls_nil _
def KX5_on : List (Nat × pProg) := [(0, kX5_on_0), (14, kX5_on_14)]
theorem bX5_on_0 : blkOf KX5_on 0 = some kX5_on_0 := rfl
theorem bX5_on_14 : blkOf KX5_on 14 = some kX5_on_14 := rfl
def tX5_on : pT := pM KX5_on 1
theorem ct_X5_on (l : Launch) : pCtr l yX5_on wsX5_on rmX5_on 1 tX5_on := ctr_of (by decide +kernel) rfl (List.forall_mem_cons.mpr ⟨sX5_on_0 l, List.forall_mem_cons.mpr ⟨sX5_on_14 l, fun _ h => absurd h List.not_mem_nil⟩⟩)
theorem dX5_count_0 : decode cX5_count 0 = .ok (.iload_n 1, 1) := by decide +kernel
theorem dX5_count_1 : decode cX5_count 1 = .ok (.tableswitch 111 0 7 #[47, 55, 63, 71, 79, 87, 95, 103], 47) := by decide +kernel
theorem dX5_count_48 : decode cX5_count 48 = .ok (.aload_n 0, 1) := by decide +kernel
theorem dX5_count_49 : decode cX5_count 49 = .ok (.getfield 12, 3) := by decide +kernel
theorem dX5_count_52 : decode cX5_count 52 = .ok (.invokevirtual 263, 3) := by decide +kernel
theorem dX5_count_55 : decode cX5_count 55 = .ok (.ireturn, 1) := by decide +kernel
theorem dX5_count_56 : decode cX5_count 56 = .ok (.aload_n 0, 1) := by decide +kernel
theorem dX5_count_57 : decode cX5_count 57 = .ok (.getfield 12, 3) := by decide +kernel
theorem dX5_count_60 : decode cX5_count 60 = .ok (.invokevirtual 91, 3) := by decide +kernel
theorem dX5_count_63 : decode cX5_count 63 = .ok (.ireturn, 1) := by decide +kernel
theorem dX5_count_64 : decode cX5_count 64 = .ok (.aload_n 0, 1) := by decide +kernel
theorem dX5_count_65 : decode cX5_count 65 = .ok (.getfield 12, 3) := by decide +kernel
theorem dX5_count_68 : decode cX5_count 68 = .ok (.invokevirtual 127, 3) := by decide +kernel
theorem dX5_count_71 : decode cX5_count 71 = .ok (.ireturn, 1) := by decide +kernel
theorem dX5_count_72 : decode cX5_count 72 = .ok (.aload_n 0, 1) := by decide +kernel
theorem dX5_count_73 : decode cX5_count 73 = .ok (.getfield 12, 3) := by decide +kernel
theorem dX5_count_76 : decode cX5_count 76 = .ok (.invokevirtual 227, 3) := by decide +kernel
theorem dX5_count_79 : decode cX5_count 79 = .ok (.ireturn, 1) := by decide +kernel
theorem dX5_count_80 : decode cX5_count 80 = .ok (.aload_n 0, 1) := by decide +kernel
theorem dX5_count_81 : decode cX5_count 81 = .ok (.getfield 12, 3) := by decide +kernel
theorem dX5_count_84 : decode cX5_count 84 = .ok (.invokevirtual 266, 3) := by decide +kernel
theorem dX5_count_87 : decode cX5_count 87 = .ok (.ireturn, 1) := by decide +kernel
theorem dX5_count_88 : decode cX5_count 88 = .ok (.aload_n 0, 1) := by decide +kernel
theorem dX5_count_89 : decode cX5_count 89 = .ok (.getfield 12, 3) := by decide +kernel
theorem dX5_count_92 : decode cX5_count 92 = .ok (.invokevirtual 196, 3) := by decide +kernel
theorem dX5_count_95 : decode cX5_count 95 = .ok (.ireturn, 1) := by decide +kernel
theorem dX5_count_96 : decode cX5_count 96 = .ok (.aload_n 0, 1) := by decide +kernel
theorem dX5_count_97 : decode cX5_count 97 = .ok (.getfield 37, 3) := by decide +kernel
theorem dX5_count_100 : decode cX5_count 100 = .ok (.invokevirtual 249, 3) := by decide +kernel
theorem dX5_count_103 : decode cX5_count 103 = .ok (.ireturn, 1) := by decide +kernel
theorem dX5_count_104 : decode cX5_count 104 = .ok (.aload_n 0, 1) := by decide +kernel
theorem dX5_count_105 : decode cX5_count 105 = .ok (.getfield 33, 3) := by decide +kernel
theorem dX5_count_108 : decode cX5_count 108 = .ok (.invokevirtual 249, 3) := by decide +kernel
theorem dX5_count_111 : decode cX5_count 111 = .ok (.ireturn, 1) := by decide +kernel
theorem dX5_count_112 : decode cX5_count 112 = .ok (.iload_n 1, 1) := by decide +kernel
theorem dX5_count_113 : decode cX5_count 113 = .ok (.bipush 10, 2) := by decide +kernel
theorem dX5_count_115 : decode cX5_count 115 = .ok (.if_icmp .le 27, 3) := by decide +kernel
theorem dX5_count_118 : decode cX5_count 118 = .ok (.iload_n 1, 1) := by decide +kernel
theorem dX5_count_119 : decode cX5_count 119 = .ok (.bipush 10, 2) := by decide +kernel
theorem dX5_count_121 : decode cX5_count 121 = .ok (.isub, 1) := by decide +kernel
theorem dX5_count_122 : decode cX5_count 122 = .ok (.aload_n 0, 1) := by decide +kernel
theorem dX5_count_123 : decode cX5_count 123 = .ok (.getfield 40, 3) := by decide +kernel
theorem dX5_count_126 : decode cX5_count 126 = .ok (.arraylength, 1) := by decide +kernel
theorem dX5_count_127 : decode cX5_count 127 = .ok (.if_icmp .ge 15, 3) := by decide +kernel
theorem dX5_count_130 : decode cX5_count 130 = .ok (.aload_n 0, 1) := by decide +kernel
theorem dX5_count_131 : decode cX5_count 131 = .ok (.getfield 40, 3) := by decide +kernel
theorem dX5_count_134 : decode cX5_count 134 = .ok (.iload_n 1, 1) := by decide +kernel
theorem dX5_count_135 : decode cX5_count 135 = .ok (.bipush 10, 2) := by decide +kernel
theorem dX5_count_137 : decode cX5_count 137 = .ok (.isub, 1) := by decide +kernel
theorem dX5_count_138 : decode cX5_count 138 = .ok (.iaload, 1) := by decide +kernel
theorem dX5_count_139 : decode cX5_count 139 = .ok (.goto 5, 3) := by decide +kernel
theorem dX5_count_142 : decode cX5_count 142 = .ok (.bipush (-9), 2) := by decide +kernel
theorem dX5_count_144 : decode cX5_count 144 = .ok (.ireturn, 1) := by decide +kernel
def rmX5_count : Room := { frames := 3, cells := 0, slots := 0, locals := 64 }
abbrev wsX5_count : List Cond := .code yX5_count cX5_count 2 (some .int) :: gw_tbl
def kX5_count_144 : pProg := (144, 1, a_iret) :: []
def kX5_count_142 : pProg := (142, 2, a_iconst (-9)) :: (144, 0, a_fall 144) :: []
def kX5_count_112 : pProg := (112, 1, a_iload 1) :: (113, 2, a_iconst 10) :: (115, 3, a_icmp_le 142) :: (118, 1, a_iload 1) :: (119, 2, a_iconst 10) :: (121, 1, a_isub) :: (122, 1, a_aload 0) :: (123, 3, a_getf 0 3 6) :: (126, 1, a_alen 28) :: (127, 3, a_icmp_ge 142) :: (130, 1, a_aload 0) :: (131, 3, a_getf 0 3 6) :: (134, 1, a_iload 1) :: (135, 2, a_iconst 10) :: (137, 1, a_isub) :: (138, 1, a_iald 28) :: (139, 3, a_goto 144) :: []
def kX5_count_104 : pProg := (104, 1, a_aload 0) :: (105, 3, a_getf 0 3 4) :: (108, 3, a_callv 1 1 [24, 25] tX2_size) :: (111, 1, a_iret) :: []
def kX5_count_96 : pProg := (96, 1, a_aload 0) :: (97, 3, a_getf 0 3 5) :: (100, 3, a_callv 1 1 [26, 27] tX2_size) :: (103, 1, a_iret) :: []
def kX5_count_88 : pProg := (88, 1, a_aload 0) :: (89, 3, a_getf 0 3 0) :: (92, 3, a_callv 1 0 [1, 2, 3, 4, 5, 6, 7] tX0_allBeams) :: (95, 1, a_iret) :: []
def kX5_count_80 : pProg := (80, 1, a_aload 0) :: (81, 3, a_getf 0 3 0) :: (84, 3, a_callv 1 0 [1, 2, 3, 4, 5, 6, 7] tX0_allToSay) :: (87, 1, a_iret) :: []
def kX5_count_72 : pProg := (72, 1, a_aload 0) :: (73, 3, a_getf 0 3 0) :: (76, 3, a_callv 1 0 [1, 2, 3, 4, 5, 6, 7] tX0_allBruises) :: (79, 1, a_iret) :: []
def kX5_count_64 : pProg := (64, 1, a_aload 0) :: (65, 3, a_getf 0 3 0) :: (68, 3, a_callv 1 0 [1, 2, 3, 4, 5, 6, 7] tX0_facedBits) :: (71, 1, a_iret) :: []
def kX5_count_56 : pProg := (56, 1, a_aload 0) :: (57, 3, a_getf 0 3 0) :: (60, 3, a_callv 1 0 [1, 2, 3, 4, 5, 6, 7] tX0_minute) :: (63, 1, a_iret) :: []
def kX5_count_48 : pProg := (48, 1, a_aload 0) :: (49, 3, a_getf 0 3 0) :: (52, 3, a_callv 1 0 [1, 2, 3, 4, 5, 6, 7] tX0_pairs) :: (55, 1, a_iret) :: []
def kX5_count_0 : pProg := (0, 1, a_iload 1) :: (1, 47, a_lsw [(0, 48), (1, 56), (2, 64), (3, 72), (4, 80), (5, 88), (6, 96), (7, 104)] 112) :: []
set_option maxRecDepth 100000 in
theorem sX5_count_144 (l : Launch) : AllS (pSnd l rmX5_count yX5_count.cls cX5_count wsX5_count 2 (some .int)) 144 kX5_count_144 :=
  alls _ (s_iret dX5_count_144) <|
  alls_nil _
set_option maxRecDepth 100000 in
theorem sX5_count_142 (l : Launch) : AllS (pSnd l rmX5_count yX5_count.cls cX5_count wsX5_count 2 (some .int)) 142 kX5_count_142 :=
  alls _ (s_bipush (by decide) dX5_count_142) <|
  alls _ s_fall (alls_nil _)
set_option maxRecDepth 100000 in
theorem sX5_count_112 (l : Launch) : AllS (pSnd l rmX5_count yX5_count.cls cX5_count wsX5_count 2 (some .int)) 112 kX5_count_112 :=
  alls _ (s_iload_n rfl dX5_count_112) <|
  alls _ (s_bipush (by decide) dX5_count_113) <|
  alls _ (s_icmp_le (by decide) dX5_count_115) <|
  alls _ (s_iload_n rfl dX5_count_118) <|
  alls _ (s_bipush (by decide) dX5_count_119) <|
  alls _ (s_isub dX5_count_121) <|
  alls _ (s_aload_n rfl dX5_count_122) <|
  alls _ (s_getf (C := RX5) (T := TX5) (N := 7) rfl (in_c inX5) (by decide) (List.mem_cons_of_mem _ wd_149) rfl dX5_count_123) <|
  alls _ (s_alen dX5_count_126) <|
  alls _ (s_icmp_ge (by decide) dX5_count_127) <|
  alls _ (s_aload_n rfl dX5_count_130) <|
  alls _ (s_getf (C := RX5) (T := TX5) (N := 7) rfl (in_c inX5) (by decide) (List.mem_cons_of_mem _ wd_149) rfl dX5_count_131) <|
  alls _ (s_iload_n rfl dX5_count_134) <|
  alls _ (s_bipush (by decide) dX5_count_135) <|
  alls _ (s_isub dX5_count_137) <|
  alls _ (s_iald dX5_count_138) <|
  alls _ (s_goto (by decide) dX5_count_139) <|
  alls_nil _
set_option maxRecDepth 100000 in
theorem sX5_count_104 (l : Launch) : AllS (pSnd l rmX5_count yX5_count.cls cX5_count wsX5_count 2 (some .int)) 104 kX5_count_104 :=
  alls _ (s_aload_n rfl dX5_count_104) <|
  alls _ (s_getf (C := RX5) (T := TX5) (N := 7) rfl (in_c inX5) (by decide) (List.mem_cons_of_mem _ wd_147) rfl dX5_count_105) <|
  alls _ (s_callv (ct_X2_size l) rfl rfl rfl (gdV wd_704 wd_192 wd_193 wd_63 wd_194) rfl rfl (by decide +kernel) ⟨Nat.le_of_ble_eq_true rfl, Nat.le_of_ble_eq_true rfl⟩ dX5_count_108) <|
  alls _ (s_iret dX5_count_111) <|
  alls_nil _
set_option maxRecDepth 100000 in
theorem sX5_count_96 (l : Launch) : AllS (pSnd l rmX5_count yX5_count.cls cX5_count wsX5_count 2 (some .int)) 96 kX5_count_96 :=
  alls _ (s_aload_n rfl dX5_count_96) <|
  alls _ (s_getf (C := RX5) (T := TX5) (N := 7) rfl (in_c inX5) (by decide) (List.mem_cons_of_mem _ wd_148) rfl dX5_count_97) <|
  alls _ (s_callv (ct_X2_size l) rfl rfl rfl (gdV wd_704 wd_192 wd_193 wd_63 wd_194) rfl rfl (by decide +kernel) ⟨Nat.le_of_ble_eq_true rfl, Nat.le_of_ble_eq_true rfl⟩ dX5_count_100) <|
  alls _ (s_iret dX5_count_103) <|
  alls_nil _
set_option maxRecDepth 100000 in
theorem sX5_count_88 (l : Launch) : AllS (pSnd l rmX5_count yX5_count.cls cX5_count wsX5_count 2 (some .int)) 88 kX5_count_88 :=
  alls _ (s_aload_n rfl dX5_count_88) <|
  alls _ (s_getf (C := RX5) (T := TX5) (N := 7) rfl (in_c inX5) (by decide) (List.mem_cons_of_mem _ wd_143) rfl dX5_count_89) <|
  alls _ (s_callv (ct_X0_allBeams l) rfl rfl rfl (gdV wd_599 wd_600 wd_601 wd_61 wd_602) rfl rfl (by decide +kernel) ⟨Nat.le_of_ble_eq_true rfl, Nat.le_of_ble_eq_true rfl⟩ dX5_count_92) <|
  alls _ (s_iret dX5_count_95) <|
  alls_nil _
set_option maxRecDepth 100000 in
theorem sX5_count_80 (l : Launch) : AllS (pSnd l rmX5_count yX5_count.cls cX5_count wsX5_count 2 (some .int)) 80 kX5_count_80 :=
  alls _ (s_aload_n rfl dX5_count_80) <|
  alls _ (s_getf (C := RX5) (T := TX5) (N := 7) rfl (in_c inX5) (by decide) (List.mem_cons_of_mem _ wd_143) rfl dX5_count_81) <|
  alls _ (s_callv (ct_X0_allToSay l) rfl rfl rfl (gdV wd_737 wd_738 wd_739 wd_61 wd_740) rfl rfl (by decide +kernel) ⟨Nat.le_of_ble_eq_true rfl, Nat.le_of_ble_eq_true rfl⟩ dX5_count_84) <|
  alls _ (s_iret dX5_count_87) <|
  alls_nil _
set_option maxRecDepth 100000 in
theorem sX5_count_72 (l : Launch) : AllS (pSnd l rmX5_count yX5_count.cls cX5_count wsX5_count 2 (some .int)) 72 kX5_count_72 :=
  alls _ (s_aload_n rfl dX5_count_72) <|
  alls _ (s_getf (C := RX5) (T := TX5) (N := 7) rfl (in_c inX5) (by decide) (List.mem_cons_of_mem _ wd_143) rfl dX5_count_73) <|
  alls _ (s_callv (ct_X0_allBruises l) rfl rfl rfl (gdV wd_664 wd_445 wd_446 wd_61 wd_447) rfl rfl (by decide +kernel) ⟨Nat.le_of_ble_eq_true rfl, Nat.le_of_ble_eq_true rfl⟩ dX5_count_76) <|
  alls _ (s_iret dX5_count_79) <|
  alls_nil _
set_option maxRecDepth 100000 in
theorem sX5_count_64 (l : Launch) : AllS (pSnd l rmX5_count yX5_count.cls cX5_count wsX5_count 2 (some .int)) 64 kX5_count_64 :=
  alls _ (s_aload_n rfl dX5_count_64) <|
  alls _ (s_getf (C := RX5) (T := TX5) (N := 7) rfl (in_c inX5) (by decide) (List.mem_cons_of_mem _ wd_143) rfl dX5_count_65) <|
  alls _ (s_callv (ct_X0_facedBits l) rfl rfl rfl (gdV wd_397 wd_398 wd_399 wd_61 wd_400) rfl rfl (by decide +kernel) ⟨Nat.le_of_ble_eq_true rfl, Nat.le_of_ble_eq_true rfl⟩ dX5_count_68) <|
  alls _ (s_iret dX5_count_71) <|
  alls_nil _
set_option maxRecDepth 100000 in
theorem sX5_count_56 (l : Launch) : AllS (pSnd l rmX5_count yX5_count.cls cX5_count wsX5_count 2 (some .int)) 56 kX5_count_56 :=
  alls _ (s_aload_n rfl dX5_count_56) <|
  alls _ (s_getf (C := RX5) (T := TX5) (N := 7) rfl (in_c inX5) (by decide) (List.mem_cons_of_mem _ wd_143) rfl dX5_count_57) <|
  alls _ (s_callv (ct_X0_minute l) rfl rfl rfl (gdV wd_356 wd_213 wd_214 wd_61 wd_215) rfl rfl (by decide +kernel) ⟨Nat.le_of_ble_eq_true rfl, Nat.le_of_ble_eq_true rfl⟩ dX5_count_60) <|
  alls _ (s_iret dX5_count_63) <|
  alls_nil _
set_option maxRecDepth 100000 in
theorem sX5_count_48 (l : Launch) : AllS (pSnd l rmX5_count yX5_count.cls cX5_count wsX5_count 2 (some .int)) 48 kX5_count_48 :=
  alls _ (s_aload_n rfl dX5_count_48) <|
  alls _ (s_getf (C := RX5) (T := TX5) (N := 7) rfl (in_c inX5) (by decide) (List.mem_cons_of_mem _ wd_143) rfl dX5_count_49) <|
  alls _ (s_callv (ct_X0_pairs l) rfl rfl rfl (gdV wd_736 wd_209 wd_210 wd_61 wd_211) rfl rfl (by decide +kernel) ⟨Nat.le_of_ble_eq_true rfl, Nat.le_of_ble_eq_true rfl⟩ dX5_count_52) <|
  alls _ (s_iret dX5_count_55) <|
  alls_nil _
set_option maxRecDepth 100000 in
theorem sX5_count_0 (l : Launch) : AllS (pSnd l rmX5_count yX5_count.cls cX5_count wsX5_count 2 (some .int)) 0 kX5_count_0 :=
  alls _ (s_iload_n rfl dX5_count_0) <|
  alls _ (s_tsw (by decide) (by decide) (by decide) (by decide) dX5_count_1) <|
  alls_nil _
def KX5_count : List (Nat × pProg) := [(0, kX5_count_0), (48, kX5_count_48), (56, kX5_count_56), (64, kX5_count_64), (72, kX5_count_72), (80, kX5_count_80), (88, kX5_count_88), (96, kX5_count_96), (104, kX5_count_104), (112, kX5_count_112), (142, kX5_count_142), (144, kX5_count_144)]
theorem bX5_count_0 : blkOf KX5_count 0 = some kX5_count_0 := rfl
theorem bX5_count_48 : blkOf KX5_count 48 = some kX5_count_48 := rfl
theorem bX5_count_56 : blkOf KX5_count 56 = some kX5_count_56 := rfl
theorem bX5_count_64 : blkOf KX5_count 64 = some kX5_count_64 := rfl
theorem bX5_count_72 : blkOf KX5_count 72 = some kX5_count_72 := rfl
theorem bX5_count_80 : blkOf KX5_count 80 = some kX5_count_80 := rfl
theorem bX5_count_88 : blkOf KX5_count 88 = some kX5_count_88 := rfl
theorem bX5_count_96 : blkOf KX5_count 96 = some kX5_count_96 := rfl
theorem bX5_count_104 : blkOf KX5_count 104 = some kX5_count_104 := rfl
theorem bX5_count_112 : blkOf KX5_count 112 = some kX5_count_112 := rfl
theorem bX5_count_142 : blkOf KX5_count 142 = some kX5_count_142 := rfl
theorem bX5_count_144 : blkOf KX5_count 144 = some kX5_count_144 := rfl
def tX5_count : pT := pM KX5_count 2
theorem ct_X5_count (l : Launch) : pCtr l yX5_count wsX5_count rmX5_count 2 tX5_count := ctr_of (by decide +kernel) rfl (List.forall_mem_cons.mpr ⟨sX5_count_0 l, List.forall_mem_cons.mpr ⟨sX5_count_48 l, List.forall_mem_cons.mpr ⟨sX5_count_56 l, List.forall_mem_cons.mpr ⟨sX5_count_64 l, List.forall_mem_cons.mpr ⟨sX5_count_72 l, List.forall_mem_cons.mpr ⟨sX5_count_80 l, List.forall_mem_cons.mpr ⟨sX5_count_88 l, List.forall_mem_cons.mpr ⟨sX5_count_96 l, List.forall_mem_cons.mpr ⟨sX5_count_104 l, List.forall_mem_cons.mpr ⟨sX5_count_112 l, List.forall_mem_cons.mpr ⟨sX5_count_142 l, List.forall_mem_cons.mpr ⟨sX5_count_144 l, fun _ h => absurd h List.not_mem_nil⟩⟩⟩⟩⟩⟩⟩⟩⟩⟩⟩⟩)
