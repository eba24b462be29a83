theorem dX6_bound_0 : decode cX6_bound 0 = .ok (.iload_n 0, 1) := by decide +kernel
theorem dX6_bound_1 : decode cX6_bound 1 = .ok (.iload_n 1, 1) := by decide +kernel
theorem dX6_bound_2 : decode cX6_bound 2 = .ok (.if_icmp .ge 8, 3) := by decide +kernel
theorem dX6_bound_5 : decode cX6_bound 5 = .ok (.bipush (-4), 2) := by decide +kernel
theorem dX6_bound_7 : decode cX6_bound 7 = .ok (.goto 14, 3) := by decide +kernel
theorem dX6_bound_10 : decode cX6_bound 10 = .ok (.iload_n 0, 1) := by decide +kernel
theorem dX6_bound_11 : decode cX6_bound 11 = .ok (.iload_n 2, 1) := by decide +kernel
theorem dX6_bound_12 : decode cX6_bound 12 = .ok (.if_icmp .le 8, 3) := by decide +kernel
theorem dX6_bound_15 : decode cX6_bound 15 = .ok (.bipush (-6), 2) := by decide +kernel
theorem dX6_bound_17 : decode cX6_bound 17 = .ok (.goto 4, 3) := by decide +kernel
theorem dX6_bound_20 : decode cX6_bound 20 = .ok (.iconst 0, 1) := by decide +kernel
theorem dX6_bound_21 : decode cX6_bound 21 = .ok (.ireturn, 1) := by decide +kernel
def rmX6_bound : Room := { frames := 0, cells := 0, slots := 0, locals := 0 }
abbrev wsX6_bound : List Cond := .code yX6_bound cX6_bound 3 (some .int) :: gw_tbl
def kX6_bound_21 : pProg := (21, 1, a_iret) :: []
def kX6_bound_20 : pProg := (20, 1, a_iconst 0) :: (21, 0, a_fall 21) :: []
def kX6_bound_10 : pProg := (10, 1, a_iload 0) :: (11, 1, a_iload 2) :: (12, 3, a_icmp_le 20) :: (15, 2, a_iconst (-6)) :: (17, 3, a_goto 21) :: []
def kX6_bound_0 : pProg := (0, 1, a_iload 0) :: (1, 1, a_iload 1) :: (2, 3, a_icmp_ge 10) :: (5, 2, a_iconst (-4)) :: (7, 3, a_goto 21) :: []
set_option maxRecDepth 100000 in
theorem sX6_bound_21 (l : Launch) : AllS (pSnd l rmX6_bound yX6_bound.cls cX6_bound wsX6_bound 3 (some .int)) 21 kX6_bound_21 :=
  alls _ (s_iret dX6_bound_21) <|
  alls_nil _
set_option maxRecDepth 100000 in
theorem sX6_bound_20 (l : Launch) : AllS (pSnd l rmX6_bound yX6_bound.cls cX6_bound wsX6_bound 3 (some .int)) 20 kX6_bound_20 :=
  alls _ (s_iconst dX6_bound_20) <|
  alls _ s_fall (alls_nil _)
set_option maxRecDepth 100000 in
theorem sX6_bound_10 (l : Launch) : AllS (pSnd l rmX6_bound yX6_bound.cls cX6_bound wsX6_bound 3 (some .int)) 10 kX6_bound_10 :=
  alls _ (s_iload_n rfl dX6_bound_10) <|
  alls _ (s_iload_n rfl dX6_bound_11) <|
  alls _ (s_icmp_le (by decide) dX6_bound_12) <|
  alls _ (s_bipush (by decide) dX6_bound_15) <|
  alls _ (s_goto (by decide) dX6_bound_17) <|
  alls_nil _
set_option maxRecDepth 100000 in
theorem sX6_bound_0 (l : Launch) : AllS (pSnd l rmX6_bound yX6_bound.cls cX6_bound wsX6_bound 3 (some .int)) 0 kX6_bound_0 :=
  alls _ (s_iload_n rfl dX6_bound_0) <|
  alls _ (s_iload_n rfl dX6_bound_1) <|
  alls _ (s_icmp_ge (by decide) dX6_bound_2) <|
  alls _ (s_bipush (by decide) dX6_bound_5) <|
  alls _ (s_goto (by decide) dX6_bound_7) <|
  alls_nil _
def KX6_bound : List (Nat × pProg) := [(0, kX6_bound_0), (10, kX6_bound_10), (20, kX6_bound_20), (21, kX6_bound_21)]
theorem bX6_bound_0 : blkOf KX6_bound 0 = some kX6_bound_0 := rfl
theorem bX6_bound_10 : blkOf KX6_bound 10 = some kX6_bound_10 := rfl
theorem bX6_bound_20 : blkOf KX6_bound 20 = some kX6_bound_20 := rfl
theorem bX6_bound_21 : blkOf KX6_bound 21 = some kX6_bound_21 := rfl
def tX6_bound : pT := pM KX6_bound 3
theorem ct_X6_bound (l : Launch) : pCtr l yX6_bound wsX6_bound rmX6_bound 3 tX6_bound := ctr_of (by decide +kernel) rfl (List.forall_mem_cons.mpr ⟨sX6_bound_0 l, List.forall_mem_cons.mpr ⟨sX6_bound_10 l, List.forall_mem_cons.mpr ⟨sX6_bound_20 l, List.forall_mem_cons.mpr ⟨sX6_bound_21 l, fun _ h => absurd h List.not_mem_nil⟩⟩⟩⟩)
theorem dX6_no_0 : decode cX6_no 0 = .ok (.aload_n 0, 1) := by decide +kernel
theorem dX6_no_1 : decode cX6_no 1 = .ok (.getfield 7, 3) := by decide +kernel
theorem dX6_no_4 : decode cX6_no 4 = .ok (.iload_n 1, 1) := by decide +kernel
theorem dX6_no_5 : decode cX6_no 5 = .ok (.ineg, 1) := by decide +kernel
theorem dX6_no_6 : decode cX6_no 6 = .ok (.dup2, 1) := by decide +kernel
theorem dX6_no_7 : decode cX6_no 7 = .ok (.iaload, 1) := by decide +kernel
theorem dX6_no_8 : decode cX6_no 8 = .ok (.iconst 1, 1) := by decide +kernel
theorem dX6_no_9 : decode cX6_no 9 = .ok (.iadd, 1) := by decide +kernel
theorem dX6_no_10 : decode cX6_no 10 = .ok (.iastore, 1) := by decide +kernel
theorem dX6_no_11 : decode cX6_no 11 = .ok (.iload_n 1, 1) := by decide +kernel
theorem dX6_no_12 : decode cX6_no 12 = .ok (.ireturn, 1) := by decide +kernel
def rmX6_no : Room := { frames := 0, cells := 0, slots := 0, locals := 0 }
abbrev wsX6_no : List Cond := .code yX6_no cX6_no 2 (some .int) :: gw_tbl
def kX6_no_0 : pProg := (0, 1, a_aload 0) :: (1, 3, a_getf 0 4 0) :: (4, 1, a_iload 1) :: (5, 1, a_ineg) :: (6, 1, a_dup2) :: (7, 1, a_iald 1) :: (8, 1, a_iconst 1) :: (9, 1, a_iadd) :: (10, 1, a_iast 1) :: (11, 1, a_iload 1) :: (12, 1, a_iret) :: []
set_option maxRecDepth 100000 in
theorem sX6_no_0 (l : Launch) : AllS (pSnd l rmX6_no yX6_no.cls cX6_no wsX6_no 2 (some .int)) 0 kX6_no_0 :=
  alls _ (s_aload_n rfl dX6_no_0) <|
  alls _ (s_getf (C := RX6) (T := TX6) (N := 29) rfl (in_c inX6) (by decide) (List.mem_cons_of_mem _ wd_747) rfl dX6_no_1) <|
  alls _ (s_iload_n rfl dX6_no_4) <|
  alls _ (s_ineg dX6_no_5) <|
  alls _ (s_dup2 dX6_no_6) <|
  alls _ (s_iald dX6_no_7) <|
  alls _ (s_iconst dX6_no_8) <|
  alls _ (s_iadd dX6_no_9) <|
  alls _ (s_iast dX6_no_10) <|
  alls _ (s_iload_n rfl dX6_no_11) <|
  alls _ (s_iret dX6_no_12) <|
  alls_nil _
def KX6_no : List (Nat × pProg) := [(0, kX6_no_0)]
theorem bX6_no_0 : blkOf KX6_no 0 = some kX6_no_0 := rfl
def tX6_no : pT := pM KX6_no 2
theorem ct_X6_no (l : Launch) : pCtr l yX6_no wsX6_no rmX6_no 2 tX6_no := ctr_of (by decide +kernel) rfl (List.forall_mem_cons.mpr ⟨sX6_no_0 l, fun _ h => absurd h List.not_mem_nil⟩)
theorem dX6_letter_0 : decode cX6_letter 0 = .ok (.iload_n 1, 1) := by decide +kernel
theorem dX6_letter_1 : decode cX6_letter 1 = .ok (.iconst 0, 1) := by decide +kernel
theorem dX6_letter_2 : decode cX6_letter 2 = .ok (.sipush 255, 3) := by decide +kernel
theorem dX6_letter_5 : decode cX6_letter 5 = .ok (.invokestatic 64, 3) := by decide +kernel
theorem dX6_letter_8 : decode cX6_letter 8 = .ok (.istore_n 2, 1) := by decide +kernel
theorem dX6_letter_9 : decode cX6_letter 9 = .ok (.iload_n 2, 1) := by decide +kernel
theorem dX6_letter_10 : decode cX6_letter 10 = .ok (.ifCond .ne 15, 3) := by decide +kernel
theorem dX6_letter_13 : decode cX6_letter 13 = .ok (.aload_n 0, 1) := by decide +kernel
theorem dX6_letter_14 : decode cX6_letter 14 = .ok (.getfield 68, 3) := by decide +kernel
theorem dX6_letter_17 : decode cX6_letter 17 = .ok (.bipush 96, 2) := by decide +kernel
theorem dX6_letter_19 : decode cX6_letter 19 = .ok (.if_icmp .ne 6, 3) := by decide +kernel
theorem dX6_letter_22 : decode cX6_letter 22 = .ok (.bipush (-6), 2) := by decide +kernel
theorem dX6_letter_24 : decode cX6_letter 24 = .ok (.istore_n 2, 1) := by decide +kernel
theorem dX6_letter_25 : decode cX6_letter 25 = .ok (.iload_n 2, 1) := by decide +kernel
theorem dX6_letter_26 : decode cX6_letter 26 = .ok (.ifCond .eq 9, 3) := by decide +kernel
theorem dX6_letter_29 : decode cX6_letter 29 = .ok (.aload_n 0, 1) := by decide +kernel
theorem dX6_letter_30 : decode cX6_letter 30 = .ok (.iload_n 2, 1) := by decide +kernel
theorem dX6_letter_31 : decode cX6_letter 31 = .ok (.invokevirtual 71, 3) := by decide +kernel
theorem dX6_letter_34 : decode cX6_letter 34 = .ok (.ireturn, 1) := by decide +kernel
theorem dX6_letter_35 : decode cX6_letter 35 = .ok (.aload_n 0, 1) := by decide +kernel
theorem dX6_letter_36 : decode cX6_letter 36 = .ok (.getfield 31, 3) := by decide +kernel
theorem dX6_letter_39 : decode cX6_letter 39 = .ok (.aload_n 0, 1) := by decide +kernel
theorem dX6_letter_40 : decode cX6_letter 40 = .ok (.getfield 68, 3) := by decide +kernel
theorem dX6_letter_43 : decode cX6_letter 43 = .ok (.iload_n 1, 1) := by decide +kernel
theorem dX6_letter_44 : decode cX6_letter 44 = .ok (.iastore, 1) := by decide +kernel
theorem dX6_letter_45 : decode cX6_letter 45 = .ok (.aload_n 0, 1) := by decide +kernel
theorem dX6_letter_46 : decode cX6_letter 46 = .ok (.dup, 1) := by decide +kernel
theorem dX6_letter_47 : decode cX6_letter 47 = .ok (.getfield 68, 3) := by decide +kernel
theorem dX6_letter_50 : decode cX6_letter 50 = .ok (.iconst 1, 1) := by decide +kernel
theorem dX6_letter_51 : decode cX6_letter 51 = .ok (.iadd, 1) := by decide +kernel
theorem dX6_letter_52 : decode cX6_letter 52 = .ok (.putfield 68, 3) := by decide +kernel
theorem dX6_letter_55 : decode cX6_letter 55 = .ok (.aload_n 0, 1) := by decide +kernel
theorem dX6_letter_56 : decode cX6_letter 56 = .ok (.getfield 68, 3) := by decide +kernel
theorem dX6_letter_59 : decode cX6_letter 59 = .ok (.ireturn, 1) := by decide +kernel
def rmX6_letter : Room := { frames := 1, cells := 0, slots := 0, locals := 22 }
abbrev wsX6_letter : List Cond := .code yX6_letter cX6_letter 3 (some .int) :: gw_tbl
def kX6_letter_35 : pProg := (35, 1, a_aload 0) :: (36, 3, a_getf 0 4 9) :: (39, 1, a_aload 0) :: (40, 3, a_getf 0 4 13) :: (43, 1, a_iload 1) :: (44, 1, a_iast 8) :: (45, 1, a_aload 0) :: (46, 1, a_dup) :: (47, 3, a_getf 0 4 13) :: (50, 1, a_iconst 1) :: (51, 1, a_iadd) :: (52, 3, a_putf 0 4 13 .int) :: (55, 1, a_aload 0) :: (56, 3, a_getf 0 4 13) :: (59, 1, a_iret) :: []
def kX6_letter_25 : pProg := (25, 1, a_iload 2) :: (26, 3, a_if_eq 35) :: (29, 1, a_aload 0) :: (30, 1, a_iload 2) :: (31, 3, a_callv 2 4 [0, 1, 2, 3, 4, 5, 6, 7, 8, 9, 10, 11, 12, 13, 14, 15, 16] tX6_no) :: (34, 1, a_iret) :: []
def kX6_letter_0 : pProg := (0, 1, a_iload 1) :: (1, 1, a_iconst 0) :: (2, 3, a_iconst 255) :: (5, 3, a_calls 3 [] tX6_bound) :: (8, 1, a_istore 2) :: (9, 1, a_iload 2) :: (10, 3, a_if_ne 25) :: (13, 1, a_aload 0) :: (14, 3, a_getf 0 4 13) :: (17, 2, a_iconst 96) :: (19, 3, a_icmp_ne 25) :: (22, 2, a_iconst (-6)) :: (24, 1, a_istore 2) :: (25, 0, a_fall 25) :: []
set_option maxRecDepth 100000 in
theorem sX6_letter_35 (l : Launch) : AllS (pSnd l rmX6_letter yX6_letter.cls cX6_letter wsX6_letter 3 (some .int)) 35 kX6_letter_35 :=
  alls _ (s_aload_n rfl dX6_letter_35) <|
  alls _ (s_getf (C := RX6) (T := TX6) (N := 29) rfl (in_c inX6) (by decide) (List.mem_cons_of_mem _ wd_756) rfl dX6_letter_36) <|
  alls _ (s_aload_n rfl dX6_letter_39) <|
  alls _ (s_getf (C := RX6) (T := TX6) (N := 29) rfl (in_c inX6) (by decide) (List.mem_cons_of_mem _ wd_760) rfl dX6_letter_40) <|
  alls _ (s_iload_n rfl dX6_letter_43) <|
  alls _ (s_iast dX6_letter_44) <|
  alls _ (s_aload_n rfl dX6_letter_45) <|
  alls _ (s_dup dX6_letter_46) <|
  alls _ (s_getf (C := RX6) (T := TX6) (N := 29) rfl (in_c inX6) (by decide) (List.mem_cons_of_mem _ wd_760) rfl dX6_letter_47) <|
  alls _ (s_iconst dX6_letter_50) <|
  alls _ (s_iadd dX6_letter_51) <|
  alls _ (s_putf (C := RX6) (T := TX6) (N := 29) tyX6 rfl (in_c inX6) tyX6_ok nmX6 (by decide) (List.mem_cons_of_mem _ wd_760) rfl rfl (tyX6_ok 13 (by decide)) dX6_letter_52) <|
  alls _ (s_aload_n rfl dX6_letter_55) <|
  alls _ (s_getf (C := RX6) (T := TX6) (N := 29) rfl (in_c inX6) (by decide) (List.mem_cons_of_mem _ wd_760) rfl dX6_letter_56) <|
  alls _ (s_iret dX6_letter_59) <|
  alls_nil _
set_option maxRecDepth 100000 in
theorem sX6_letter_25 (l : Launch) : AllS (pSnd l rmX6_letter yX6_letter.cls cX6_letter wsX6_letter 3 (some .int)) 25 kX6_letter_25 :=
  alls _ (s_iload_n rfl dX6_letter_25) <|
  alls _ (s_if_eq (by decide) dX6_letter_26) <|
  alls _ (s_aload_n rfl dX6_letter_29) <|
  alls _ (s_iload_n rfl dX6_letter_30) <|
  alls _ (s_callv (ct_X6_no l) rfl rfl rfl (gdV wd_842 wd_844 wd_11 wd_65 wd_845) rfl rfl (by decide +kernel) ⟨Nat.le_of_ble_eq_true rfl, Nat.le_of_ble_eq_true rfl⟩ dX6_letter_31) <|
  alls _ (s_iret dX6_letter_34) <|
  alls_nil _
set_option maxRecDepth 100000 in
theorem sX6_letter_0 (l : Launch) : AllS (pSnd l rmX6_letter yX6_letter.cls cX6_letter wsX6_letter 3 (some .int)) 0 kX6_letter_0 :=
  alls _ (s_iload_n rfl dX6_letter_0) <|
  alls _ (s_iconst dX6_letter_1) <|
  alls _ (s_sipush (by decide) dX6_letter_2) <|
  alls _ (s_calls (ct_X6_bound l) rfl rfl (gdS wd_841) (List.mem_cons_of_mem _ wd_839) (List.mem_cons_of_mem _ wd_840) (List.mem_cons_of_mem _ wd_65) rfl rfl (by decide +kernel) ⟨Nat.le_of_ble_eq_true rfl, Nat.le_of_ble_eq_true rfl⟩ dX6_letter_5) <|
  alls _ (s_istore_n rfl dX6_letter_8) <|
  alls _ (s_iload_n rfl dX6_letter_9) <|
  alls _ (s_if_ne (by decide) dX6_letter_10) <|
  alls _ (s_aload_n rfl dX6_letter_13) <|
  alls _ (s_getf (C := RX6) (T := TX6) (N := 29) rfl (in_c inX6) (by decide) (List.mem_cons_of_mem _ wd_760) rfl dX6_letter_14) <|
  alls _ (s_bipush (by decide) dX6_letter_17) <|
  alls _ (s_icmp_ne (by decide) dX6_letter_19) <|
  alls _ (s_bipush (by decide) dX6_letter_22) <|
  alls _ (s_istore_n rfl dX6_letter_24) <|
  alls _ s_fall (alls_nil _)
def KX6_letter : List (Nat × pProg) := [(0, kX6_letter_0), (25, kX6_letter_25), (35, kX6_letter_35)]
theorem bX6_letter_0 : blkOf KX6_letter 0 = some kX6_letter_0 := rfl
theorem bX6_letter_25 : blkOf KX6_letter 25 = some kX6_letter_25 := rfl
theorem bX6_letter_35 : blkOf KX6_letter 35 = some kX6_letter_35 := rfl
def tX6_letter : pT := pM KX6_letter 3
theorem ct_X6_letter (l : Launch) : pCtr l yX6_letter wsX6_letter rmX6_letter 2 tX6_letter := ctr_of (by decide +kernel) rfl (List.forall_mem_cons.mpr ⟨sX6_letter_0 l, List.forall_mem_cons.mpr ⟨sX6_letter_25 l, List.forall_mem_cons.mpr ⟨sX6_letter_35 l, fun _ h => absurd h List.not_mem_nil⟩⟩⟩)
theorem dX6_letterNow_0 : decode cX6_letterNow 0 = .ok (.aload_n 0, 1) := by decide +kernel
theorem dX6_letterNow_1 : decode cX6_letterNow 1 = .ok (.getfield 75, 3) := by decide +kernel
theorem dX6_letterNow_4 : decode cX6_letterNow 4 = .ok (.aload_n 0, 1) := by decide +kernel
theorem dX6_letterNow_5 : decode cX6_letterNow 5 = .ok (.getfield 68, 3) := by decide +kernel
theorem dX6_letterNow_8 : decode cX6_letterNow 8 = .ok (.if_icmp .ge 15, 3) := by decide +kernel
theorem dX6_letterNow_11 : decode cX6_letterNow 11 = .ok (.aload_n 0, 1) := by decide +kernel
theorem dX6_letterNow_12 : decode cX6_letterNow 12 = .ok (.getfield 31, 3) := by decide +kernel
theorem dX6_letterNow_15 : decode cX6_letterNow 15 = .ok (.aload_n 0, 1) := by decide +kernel
theorem dX6_letterNow_16 : decode cX6_letterNow 16 = .ok (.getfield 75, 3) := by decide +kernel
theorem dX6_letterNow_19 : decode cX6_letterNow 19 = .ok (.iaload, 1) := by decide +kernel
theorem dX6_letterNow_20 : decode cX6_letterNow 20 = .ok (.goto 4, 3) := by decide +kernel
theorem dX6_letterNow_23 : decode cX6_letterNow 23 = .ok (.iconst (-1), 1) := by decide +kernel
theorem dX6_letterNow_24 : decode cX6_letterNow 24 = .ok (.ireturn, 1) := by decide +kernel
def rmX6_letterNow : Room := { frames := 0, cells := 0, slots := 0, locals := 0 }
abbrev wsX6_letterNow : List Cond := .code yX6_letterNow cX6_letterNow 1 (some .int) :: gw_tbl
def kX6_letterNow_24 : pProg := (24, 1, a_iret) :: []
def kX6_letterNow_23 : pProg := (23, 1, a_iconst (-1)) :: (24, 0, a_fall 24) :: []
def kX6_letterNow_0 : pProg := (0, 1, a_aload 0) :: (1, 3, a_getf 0 4 14) :: (4, 1, a_aload 0) :: (5, 3, a_getf 0 4 13) :: (8, 3, a_icmp_ge 23) :: (11, 1, a_aload 0) :: (12, 3, a_getf 0 4 9) :: (15, 1, a_aload 0) :: (16, 3, a_getf 0 4 14) :: (19, 1, a_iald 8) :: (20, 3, a_goto 24) :: []
set_option maxRecDepth 100000 in
theorem sX6_letterNow_24 (l : Launch) : AllS (pSnd l rmX6_letterNow yX6_letterNow.cls cX6_letterNow wsX6_letterNow 1 (some .int)) 24 kX6_letterNow_24 :=
  alls _ (s_iret dX6_letterNow_24) <|
  alls_nil _
set_option maxRecDepth 100000 in
theorem sX6_letterNow_23 (l : Launch) : AllS (pSnd l rmX6_letterNow yX6_letterNow.cls cX6_letterNow wsX6_letterNow 1 (some .int)) 23 kX6_letterNow_23 :=
  alls _ (s_iconst dX6_letterNow_23) <|
  alls _ s_fall (alls_nil _)
set_option maxRecDepth 100000 in
theorem sX6_letterNow_0 (l : Launch) : AllS (pSnd l rmX6_letterNow yX6_letterNow.cls cX6_letterNow wsX6_letterNow 1 (some .int)) 0 kX6_letterNow_0 :=
  alls _ (s_aload_n rfl dX6_letterNow_0) <|
  alls _ (s_getf (C := RX6) (T := TX6) (N := 29) rfl (in_c inX6) (by decide) (List.mem_cons_of_mem _ wd_761) rfl dX6_letterNow_1) <|
  alls _ (s_aload_n rfl dX6_letterNow_4) <|
  alls _ (s_getf (C := RX6) (T := TX6) (N := 29) rfl (in_c inX6) (by decide) (List.mem_cons_of_mem _ wd_760) rfl dX6_letterNow_5) <|
  alls _ (s_icmp_ge (by decide) dX6_letterNow_8) <|
  alls _ (s_aload_n rfl dX6_letterNow_11) <|
  alls _ (s_getf (C := RX6) (T := TX6) (N := 29) rfl (in_c inX6) (by decide) (List.mem_cons_of_mem _ wd_756) rfl dX6_letterNow_12) <|
  alls _ (s_aload_n rfl dX6_letterNow_15) <|
  alls _ (s_getf (C := RX6) (T := TX6) (N := 29) rfl (in_c inX6) (by decide) (List.mem_cons_of_mem _ wd_761) rfl dX6_letterNow_16) <|
  alls _ (s_iald dX6_letterNow_19) <|
  alls _ (s_goto (by decide) dX6_letterNow_20) <|
  alls_nil _
def KX6_letterNow : List (Nat × pProg) := [(0, kX6_letterNow_0), (23, kX6_letterNow_23), (24, kX6_letterNow_24)]
theorem bX6_letterNow_0 : blkOf KX6_letterNow 0 = some kX6_letterNow_0 := rfl
theorem bX6_letterNow_23 : blkOf KX6_letterNow 23 = some kX6_letterNow_23 := rfl
theorem bX6_letterNow_24 : blkOf KX6_letterNow 24 = some kX6_letterNow_24 := rfl
def tX6_letterNow : pT := pM KX6_letterNow 1
theorem ct_X6_letterNow (l : Launch) : pCtr l yX6_letterNow wsX6_letterNow rmX6_letterNow 1 tX6_letterNow := ctr_of (by decide +kernel) rfl (List.forall_mem_cons.mpr ⟨sX6_letterNow_0 l, List.forall_mem_cons.mpr ⟨sX6_letterNow_23 l, List.forall_mem_cons.mpr ⟨sX6_letterNow_24 l, fun _ h => absurd h List.not_mem_nil⟩⟩⟩)
theorem dX6_isIn_0 : decode cX6_isIn 0 = .ok (.iload_n 0, 1) := by decide +kernel
theorem dX6_isIn_1 : decode cX6_isIn 1 = .ok (.iload_n 1, 1) := by decide +kernel
theorem dX6_isIn_2 : decode cX6_isIn 2 = .ok (.if_icmp .lt 12, 3) := by decide +kernel
theorem dX6_isIn_5 : decode cX6_isIn 5 = .ok (.iload_n 0, 1) := by decide +kernel
theorem dX6_isIn_6 : decode cX6_isIn 6 = .ok (.iload_n 2, 1) := by decide +kernel
theorem dX6_isIn_7 : decode cX6_isIn 7 = .ok (.if_icmp .gt 7, 3) := by decide +kernel
theorem dX6_isIn_10 : decode cX6_isIn 10 = .ok (.iconst 1, 1) := by decide +kernel
theorem dX6_isIn_11 : decode cX6_isIn 11 = .ok (.goto 4, 3) := by decide +kernel
theorem dX6_isIn_14 : decode cX6_isIn 14 = .ok (.iconst 0, 1) := by decide +kernel
theorem dX6_isIn_15 : decode cX6_isIn 15 = .ok (.ireturn, 1) := by decide +kernel
def rmX6_isIn : Room := { frames := 0, cells := 0, slots := 0, locals := 0 }
abbrev wsX6_isIn : List Cond := .code yX6_isIn cX6_isIn 3 (some .boolean) :: gw_tbl
def kX6_isIn_15 : pProg := (15, 1, a_zret) :: []
def kX6_isIn_14 : pProg := (14, 1, a_iconst 0) :: (15, 0, a_fall 15) :: []
def kX6_isIn_0 : pProg := (0, 1, a_iload 0) :: (1, 1, a_iload 1) :: (2, 3, a_icmp_lt 14) :: (5, 1, a_iload 0) :: (6, 1, a_iload 2) :: (7, 3, a_icmp_gt 14) :: (10, 1, a_iconst 1) :: (11, 3, a_goto 15) :: []
set_option maxRecDepth 100000 in
theorem sX6_isIn_15 (l : Launch) : AllS (pSnd l rmX6_isIn yX6_isIn.cls cX6_isIn wsX6_isIn 3 (some .boolean)) 15 kX6_isIn_15 :=
  alls _ (s_zret dX6_isIn_15) <|
  alls_nil _
set_option maxRecDepth 100000 in
theorem sX6_isIn_14 (l : Launch) : AllS (pSnd l rmX6_isIn yX6_isIn.cls cX6_isIn wsX6_isIn 3 (some .boolean)) 14 kX6_isIn_14 :=
  alls _ (s_iconst dX6_isIn_14) <|
  alls _ s_fall (alls_nil _)
set_option maxRecDepth 100000 in
theorem sX6_isIn_0 (l : Launch) : AllS (pSnd l rmX6_isIn yX6_isIn.cls cX6_isIn wsX6_isIn 3 (some .boolean)) 0 kX6_isIn_0 :=
  alls _ (s_iload_n rfl dX6_isIn_0) <|
  alls _ (s_iload_n rfl dX6_isIn_1) <|
  alls _ (s_icmp_lt (by decide) dX6_isIn_2) <|
  alls _ (s_iload_n rfl dX6_isIn_5) <|
  alls _ (s_iload_n rfl dX6_isIn_6) <|
  alls _ (s_icmp_gt (by decide) dX6_isIn_7) <|
  alls _ (s_iconst dX6_isIn_10) <|
  alls _ (s_goto (by decide) dX6_isIn_11) <|
  alls_nil _
def KX6_isIn : List (Nat × pProg) := [(0, kX6_isIn_0), (14, kX6_isIn_14), (15, kX6_isIn_15)]
theorem bX6_isIn_0 : blkOf KX6_isIn 0 = some kX6_isIn_0 := rfl
theorem bX6_isIn_14 : blkOf KX6_isIn 14 = some kX6_isIn_14 := rfl
theorem bX6_isIn_15 : blkOf KX6_isIn 15 = some kX6_isIn_15 := rfl
def tX6_isIn : pT := pM KX6_isIn 3
theorem ct_X6_isIn (l : Launch) : pCtr l yX6_isIn wsX6_isIn rmX6_isIn 3 tX6_isIn := ctr_of (by decide +kernel) rfl (List.forall_mem_cons.mpr ⟨sX6_isIn_0 l, List.forall_mem_cons.mpr ⟨sX6_isIn_14 l, List.forall_mem_cons.mpr ⟨sX6_isIn_15 l, fun _ h => absurd h List.not_mem_nil⟩⟩⟩)
theorem dX6_readsDigits_0 : decode cX6_readsDigits 0 = .ok (.iconst 0, 1) := by decide +kernel
theorem dX6_readsDigits_1 : decode cX6_readsDigits 1 = .ok (.istore_n 3, 1) := by decide +kernel
theorem dX6_readsDigits_2 : decode cX6_readsDigits 2 = .ok (.iconst 0, 1) := by decide +kernel
theorem dX6_readsDigits_3 : decode cX6_readsDigits 3 = .ok (.istore 4, 2) := by decide +kernel
theorem dX6_readsDigits_5 : decode cX6_readsDigits 5 = .ok (.iload 4, 2) := by decide +kernel
theorem dX6_readsDigits_7 : decode cX6_readsDigits 7 = .ok (.iload_n 2, 1) := by decide +kernel
theorem dX6_readsDigits_8 : decode cX6_readsDigits 8 = .ok (.if_icmp .ge 48, 3) := by decide +kernel
theorem dX6_readsDigits_11 : decode cX6_readsDigits 11 = .ok (.aload_n 0, 1) := by decide +kernel
theorem dX6_readsDigits_12 : decode cX6_readsDigits 12 = .ok (.invokevirtual 78, 3) := by decide +kernel
theorem dX6_readsDigits_15 : decode cX6_readsDigits 15 = .ok (.bipush 48, 2) := by decide +kernel
theorem dX6_readsDigits_17 : decode cX6_readsDigits 17 = .ok (.bipush 57, 2) := by decide +kernel
theorem dX6_readsDigits_19 : decode cX6_readsDigits 19 = .ok (.invokestatic 82, 3) := by decide +kernel
theorem dX6_readsDigits_22 : decode cX6_readsDigits 22 = .ok (.ifCond .ne 5, 3) := by decide +kernel
theorem dX6_readsDigits_25 : decode cX6_readsDigits 25 = .ok (.iconst 0, 1) := by decide +kernel
theorem dX6_readsDigits_26 : decode cX6_readsDigits 26 = .ok (.ireturn, 1) := by decide +kernel
theorem dX6_readsDigits_27 : decode cX6_readsDigits 27 = .ok (.bipush 10, 2) := by decide +kernel
theorem dX6_readsDigits_29 : decode cX6_readsDigits 29 = .ok (.iload_n 3, 1) := by decide +kernel
theorem dX6_readsDigits_30 : decode cX6_readsDigits 30 = .ok (.imul, 1) := by decide +kernel
theorem dX6_readsDigits_31 : decode cX6_readsDigits 31 = .ok (.aload_n 0, 1) := by decide +kernel
theorem dX6_readsDigits_32 : decode cX6_readsDigits 32 = .ok (.invokevirtual 78, 3) := by decide +kernel
theorem dX6_readsDigits_35 : decode cX6_readsDigits 35 = .ok (.iadd, 1) := by decide +kernel
theorem dX6_readsDigits_36 : decode cX6_readsDigits 36 = .ok (.bipush 48, 2) := by decide +kernel
theorem dX6_readsDigits_38 : decode cX6_readsDigits 38 = .ok (.isub, 1) := by decide +kernel
theorem dX6_readsDigits_39 : decode cX6_readsDigits 39 = .ok (.istore_n 3, 1) := by decide +kernel
theorem dX6_readsDigits_40 : decode cX6_readsDigits 40 = .ok (.aload_n 0, 1) := by decide +kernel
theorem dX6_readsDigits_41 : decode cX6_readsDigits 41 = .ok (.dup, 1) := by decide +kernel
theorem dX6_readsDigits_42 : decode cX6_readsDigits 42 = .ok (.getfield 75, 3) := by decide +kernel
theorem dX6_readsDigits_45 : decode cX6_readsDigits 45 = .ok (.iconst 1, 1) := by decide +kernel
theorem dX6_readsDigits_46 : decode cX6_readsDigits 46 = .ok (.iadd, 1) := by decide +kernel
theorem dX6_readsDigits_47 : decode cX6_readsDigits 47 = .ok (.putfield 75, 3) := by decide +kernel
theorem dX6_readsDigits_50 : decode cX6_readsDigits 50 = .ok (.iinc 4 1, 3) := by decide +kernel
theorem dX6_readsDigits_53 : decode cX6_readsDigits 53 = .ok (.goto (-48), 3) := by decide +kernel
theorem dX6_readsDigits_56 : decode cX6_readsDigits 56 = .ok (.aload_n 0, 1) := by decide +kernel
theorem dX6_readsDigits_57 : decode cX6_readsDigits 57 = .ok (.getfield 40, 3) := by decide +kernel
theorem dX6_readsDigits_60 : decode cX6_readsDigits 60 = .ok (.iload_n 1, 1) := by decide +kernel
theorem dX6_readsDigits_61 : decode cX6_readsDigits 61 = .ok (.iload_n 3, 1) := by decide +kernel
theorem dX6_readsDigits_62 : decode cX6_readsDigits 62 = .ok (.iastore, 1) := by decide +kernel
theorem dX6_readsDigits_63 : decode cX6_readsDigits 63 = .ok (.iconst 1, 1) := by decide +kernel
theorem dX6_readsDigits_64 : decode cX6_readsDigits 64 = .ok (.ireturn, 1) := by decide +kernel
def rmX6_readsDigits : Room := { frames := 1, cells := 0, slots := 0, locals := 22 }
abbrev wsX6_readsDigits : List Cond := .code yX6_readsDigits cX6_readsDigits 5 (some .boolean) :: gw_tbl
def kX6_readsDigits_56 : pProg := (56, 1, a_aload 0) :: (57, 3, a_getf 0 4 12) :: (60, 1, a_iload 1) :: (61, 1, a_iload 3) :: (62, 1, a_iast 11) :: (63, 1, a_iconst 1) :: (64, 1, a_zret) :: []
def kX6_readsDigits_27 : pProg := (27, 2, a_iconst 10) :: (29, 1, a_iload 3) :: (30, 1, a_imul) :: (31, 1, a_aload 0) :: (32, 3, a_callv 1 4 [0, 1, 2, 3, 4, 5, 6, 7, 8, 9, 10, 11, 12, 13, 14, 15, 16] tX6_letterNow) :: (35, 1, a_iadd) :: (36, 2, a_iconst 48) :: (38, 1, a_isub) :: (39, 1, a_istore 3) :: (40, 1, a_aload 0) :: (41, 1, a_dup) :: (42, 3, a_getf 0 4 14) :: (45, 1, a_iconst 1) :: (46, 1, a_iadd) :: (47, 3, a_putf 0 4 14 .int) :: (50, 3, a_iinc 4 1) :: (53, 3, a_goto 5) :: []
def kX6_readsDigits_5 : pProg := (5, 2, a_iload 4) :: (7, 1, a_iload 2) :: (8, 3, a_icmp_ge 56) :: (11, 1, a_aload 0) :: (12, 3, a_callv 1 4 [0, 1, 2, 3, 4, 5, 6, 7, 8, 9, 10, 11, 12, 13, 14, 15, 16] tX6_letterNow) :: (15, 2, a_iconst 48) :: (17, 2, a_iconst 57) :: (19, 3, a_calls 3 [] tX6_isIn) :: (22, 3, a_if_ne 27) :: (25, 1, a_iconst 0) :: (26, 1, a_zret) :: []
def kX6_readsDigits_0 : pProg := (0, 1, a_iconst 0) :: (1, 1, a_istore 3) :: (2, 1, a_iconst 0) :: (3, 2, a_istore 4) :: (5, 0, a_fall 5) :: []
set_option maxRecDepth 100000 in
theorem sX6_readsDigits_56 (l : Launch) : AllS (pSnd l rmX6_readsDigits yX6_readsDigits.cls cX6_readsDigits wsX6_readsDigits 5 (some .boolean)) 56 kX6_readsDigits_56 :=
  alls _ (s_aload_n rfl dX6_readsDigits_56) <|
  alls _ (s_getf (C := RX6) (T := TX6) (N := 29) rfl (in_c inX6) (by decide) (List.mem_cons_of_mem _ wd_759) rfl dX6_readsDigits_57) <|
  alls _ (s_iload_n rfl dX6_readsDigits_60) <|
  alls _ (s_iload_n rfl dX6_readsDigits_61) <|
  alls _ (s_iast dX6_readsDigits_62) <|
  alls _ (s_iconst dX6_readsDigits_63) <|
  alls _ (s_zret dX6_readsDigits_64) <|
  alls_nil _
set_option maxRecDepth 100000 in
theorem sX6_readsDigits_27 (l : Launch) : AllS (pSnd l rmX6_readsDigits yX6_readsDigits.cls cX6_readsDigits wsX6_readsDigits 5 (some .boolean)) 27 kX6_readsDigits_27 :=
  alls _ (s_bipush (by decide) dX6_readsDigits_27) <|
  alls _ (s_iload_n rfl dX6_readsDigits_29) <|
  alls _ (s_imul dX6_readsDigits_30) <|
  alls _ (s_aload_n rfl dX6_readsDigits_31) <|
  alls _ (s_callv (ct_X6_letterNow l) rfl rfl rfl (gdV wd_854 wd_856 wd_13 wd_65 wd_857) rfl rfl (by decide +kernel) ⟨Nat.le_of_ble_eq_true rfl, Nat.le_of_ble_eq_true rfl⟩ dX6_readsDigits_32) <|
  alls _ (s_iadd dX6_readsDigits_35) <|
  alls _ (s_bipush (by decide) dX6_readsDigits_36) <|
  alls _ (s_isub dX6_readsDigits_38) <|
  alls _ (s_istore_n rfl dX6_readsDigits_39) <|
  alls _ (s_aload_n rfl dX6_readsDigits_40) <|
  alls _ (s_dup dX6_readsDigits_41) <|
  alls _ (s_getf (C := RX6) (T := TX6) (N := 29) rfl (in_c inX6) (by decide) (List.mem_cons_of_mem _ wd_761) rfl dX6_readsDigits_42) <|
  alls _ (s_iconst dX6_readsDigits_45) <|
  alls _ (s_iadd dX6_readsDigits_46) <|
  alls _ (s_putf (C := RX6) (T := TX6) (N := 29) tyX6 rfl (in_c inX6) tyX6_ok nmX6 (by decide) (List.mem_cons_of_mem _ wd_761) rfl rfl (tyX6_ok 14 (by decide)) dX6_readsDigits_47) <|
  alls _ (s_iinc dX6_readsDigits_50) <|
  alls _ (s_goto (by decide) dX6_readsDigits_53) <|
  alls_nil _
set_option maxRecDepth 100000 in
theorem sX6_readsDigits_5 (l : Launch) : AllS (pSnd l rmX6_readsDigits yX6_readsDigits.cls cX6_readsDigits wsX6_readsDigits 5 (some .boolean)) 5 kX6_readsDigits_5 :=
  alls _ (s_iload dX6_readsDigits_5) <|
  alls _ (s_iload_n rfl dX6_readsDigits_7) <|
  alls _ (s_icmp_ge (by decide) dX6_readsDigits_8) <|
  alls _ (s_aload_n rfl dX6_readsDigits_11) <|
  alls _ (s_callv (ct_X6_letterNow l) rfl rfl rfl (gdV wd_854 wd_856 wd_13 wd_65 wd_857) rfl rfl (by decide +kernel) ⟨Nat.le_of_ble_eq_true rfl, Nat.le_of_ble_eq_true rfl⟩ dX6_readsDigits_12) <|
  alls _ (s_bipush (by decide) dX6_readsDigits_15) <|
  alls _ (s_bipush (by decide) dX6_readsDigits_17) <|
  alls _ (s_calls (ct_X6_isIn l) rfl rfl (gdS wd_868) (List.mem_cons_of_mem _ wd_866) (List.mem_cons_of_mem _ wd_867) (List.mem_cons_of_mem _ wd_65) rfl rfl (by decide +kernel) ⟨Nat.le_of_ble_eq_true rfl, Nat.le_of_ble_eq_true rfl⟩ dX6_readsDigits_19) <|
  alls _ (s_if_ne (by decide) dX6_readsDigits_22) <|
  alls _ (s_iconst dX6_readsDigits_25) <|
  alls _ (s_zret dX6_readsDigits_26) <|
  alls_nil _
set_option maxRecDepth 100000 in
theorem sX6_readsDigits_0 (l : Launch) : AllS (pSnd l rmX6_readsDigits yX6_readsDigits.cls cX6_readsDigits wsX6_readsDigits 5 (some .boolean)) 0 kX6_readsDigits_0 :=
  alls _ (s_iconst dX6_readsDigits_0) <|
  alls _ (s_istore_n rfl dX6_readsDigits_1) <|
  alls _ (s_iconst dX6_readsDigits_2) <|
  alls _ (s_istore dX6_readsDigits_3) <|
  alls _ s_fall (alls_nil _)
def KX6_readsDigits : List (Nat × pProg) := [(0, kX6_readsDigits_0), (5, kX6_readsDigits_5), (27, kX6_readsDigits_27), (56, kX6_readsDigits_56)]
theorem bX6_readsDigits_0 : blkOf KX6_readsDigits 0 = some kX6_readsDigits_0 := rfl
theorem bX6_readsDigits_5 : blkOf KX6_readsDigits 5 = some kX6_readsDigits_5 := rfl
theorem bX6_readsDigits_27 : blkOf KX6_readsDigits 27 = some kX6_readsDigits_27 := rfl
theorem bX6_readsDigits_56 : blkOf KX6_readsDigits 56 = some kX6_readsDigits_56 := rfl
def tX6_readsDigits : pT := pM KX6_readsDigits 5
theorem ct_X6_readsDigits (l : Launch) : pCtr l yX6_readsDigits wsX6_readsDigits rmX6_readsDigits 3 tX6_readsDigits := ctr_of (by decide +kernel) rfl (List.forall_mem_cons.mpr ⟨sX6_readsDigits_0 l, List.forall_mem_cons.mpr ⟨sX6_readsDigits_5 l, List.forall_mem_cons.mpr ⟨sX6_readsDigits_27 l, List.forall_mem_cons.mpr ⟨sX6_readsDigits_56 l, fun _ h => absurd h List.not_mem_nil⟩⟩⟩⟩)
theorem dX6_kindOf_0 : decode cX6_kindOf 0 = .ok (.iload_n 0, 1) := by decide +kernel
theorem dX6_kindOf_1 : decode cX6_kindOf 1 = .ok (.bipush 109, 2) := by decide +kernel
theorem dX6_kindOf_3 : decode cX6_kindOf 3 = .ok (.if_icmp .ne 7, 3) := by decide +kernel
theorem dX6_kindOf_6 : decode cX6_kindOf 6 = .ok (.iconst 0, 1) := by decide +kernel
theorem dX6_kindOf_7 : decode cX6_kindOf 7 = .ok (.goto 54, 3) := by decide +kernel
theorem dX6_kindOf_10 : decode cX6_kindOf 10 = .ok (.iload_n 0, 1) := by decide +kernel
theorem dX6_kindOf_11 : decode cX6_kindOf 11 = .ok (.bipush 115, 2) := by decide +kernel
theorem dX6_kindOf_13 : decode cX6_kindOf 13 = .ok (.if_icmp .ne 7, 3) := by decide +kernel
theorem dX6_kindOf_16 : decode cX6_kindOf 16 = .ok (.iconst 1, 1) := by decide +kernel
theorem dX6_kindOf_17 : decode cX6_kindOf 17 = .ok (.goto 44, 3) := by decide +kernel
theorem dX6_kindOf_20 : decode cX6_kindOf 20 = .ok (.iload_n 0, 1) := by decide +kernel
theorem dX6_kindOf_21 : decode cX6_kindOf 21 = .ok (.bipush 116, 2) := by decide +kernel
theorem dX6_kindOf_23 : decode cX6_kindOf 23 = .ok (.if_icmp .ne 7, 3) := by decide +kernel
theorem dX6_kindOf_26 : decode cX6_kindOf 26 = .ok (.iconst 2, 1) := by decide +kernel
theorem dX6_kindOf_27 : decode cX6_kindOf 27 = .ok (.goto 34, 3) := by decide +kernel
theorem dX6_kindOf_30 : decode cX6_kindOf 30 = .ok (.iload_n 0, 1) := by decide +kernel
theorem dX6_kindOf_31 : decode cX6_kindOf 31 = .ok (.bipush 100, 2) := by decide +kernel
theorem dX6_kindOf_33 : decode cX6_kindOf 33 = .ok (.if_icmp .ne 7, 3) := by decide +kernel
theorem dX6_kindOf_36 : decode cX6_kindOf 36 = .ok (.iconst 3, 1) := by decide +kernel
theorem dX6_kindOf_37 : decode cX6_kindOf 37 = .ok (.goto 24, 3) := by decide +kernel
theorem dX6_kindOf_40 : decode cX6_kindOf 40 = .ok (.iload_n 0, 1) := by decide +kernel
theorem dX6_kindOf_41 : decode cX6_kindOf 41 = .ok (.bipush 102, 2) := by decide +kernel
theorem dX6_kindOf_43 : decode cX6_kindOf 43 = .ok (.if_icmp .ne 7, 3) := by decide +kernel
theorem dX6_kindOf_46 : decode cX6_kindOf 46 = .ok (.iconst 4, 1) := by decide +kernel
theorem dX6_kindOf_47 : decode cX6_kindOf 47 = .ok (.goto 14, 3) := by decide +kernel
theorem dX6_kindOf_50 : decode cX6_kindOf 50 = .ok (.iload_n 0, 1) := by decide +kernel
theorem dX6_kindOf_51 : decode cX6_kindOf 51 = .ok (.bipush 111, 2) := by decide +kernel
theorem dX6_kindOf_53 : decode cX6_kindOf 53 = .ok (.if_icmp .ne 7, 3) := by decide +kernel
theorem dX6_kindOf_56 : decode cX6_kindOf 56 = .ok (.iconst 5, 1) := by decide +kernel
theorem dX6_kindOf_57 : decode cX6_kindOf 57 = .ok (.goto 4, 3) := by decide +kernel
theorem dX6_kindOf_60 : decode cX6_kindOf 60 = .ok (.iconst (-1), 1) := by decide +kernel
theorem dX6_kindOf_61 : decode cX6_kindOf 61 = .ok (.ireturn, 1) := by decide +kernel
def rmX6_kindOf : Room := { frames := 0, cells := 0, slots := 0, locals := 0 }
abbrev wsX6_kindOf : List Cond := .code yX6_kindOf cX6_kindOf 1 (some .int) :: gw_tbl
def kX6_kindOf_61 : pProg := (61, 1, a_iret) :: []
def kX6_kindOf_60 : pProg := (60, 1, a_iconst (-1)) :: (61, 0, a_fall 61) :: []
def kX6_kindOf_50 : pProg := (50, 1, a_iload 0) :: (51, 2, a_iconst 111) :: (53, 3, a_icmp_ne 60) :: (56, 1, a_iconst 5) :: (57, 3, a_goto 61) :: []
def kX6_kindOf_40 : pProg := (40, 1, a_iload 0) :: (41, 2, a_iconst 102) :: (43, 3, a_icmp_ne 50) :: (46, 1, a_iconst 4) :: (47, 3, a_goto 61) :: []
def kX6_kindOf_30 : pProg := (30, 1, a_iload 0) :: (31, 2, a_iconst 100) :: (33, 3, a_icmp_ne 40) :: (36, 1, a_iconst 3) :: (37, 3, a_goto 61) :: []
def kX6_kindOf_20 : pProg := (20, 1, a_iload 0) :: (21, 2, a_iconst 116) :: (23, 3, a_icmp_ne 30) :: (26, 1, a_iconst 2) :: (27, 3, a_goto 61) :: []
def kX6_kindOf_10 : pProg := (10, 1, a_iload 0) :: (11, 2, a_iconst 115) :: (13, 3, a_icmp_ne 20) :: (16, 1, a_iconst 1) :: (17, 3, a_goto 61) :: []
def kX6_kindOf_0 : pProg := (0, 1, a_iload 0) :: (1, 2, a_iconst 109) :: (3, 3, a_icmp_ne 10) :: (6, 1, a_iconst 0) :: (7, 3, a_goto 61) :: []
set_option maxRecDepth 100000 in
theorem sX6_kindOf_61 (l : Launch) : AllS (pSnd l rmX6_kindOf yX6_kindOf.cls cX6_kindOf wsX6_kindOf 1 (some .int)) 61 kX6_kindOf_61 :=
  alls _ (s_iret dX6_kindOf_61) <|
  alls_nil _
set_option maxRecDepth 100000 in
theorem sX6_kindOf_60 (l : Launch) : AllS (pSnd l rmX6_kindOf yX6_kindOf.cls cX6_kindOf wsX6_kindOf 1 (some .int)) 60 kX6_kindOf_60 :=
  alls _ (s_iconst dX6_kindOf_60) <|
  alls _ s_fall (alls_nil _)
set_option maxRecDepth 100000 in
theorem sX6_kindOf_50 (l : Launch) : AllS (pSnd l rmX6_kindOf yX6_kindOf.cls cX6_kindOf wsX6_kindOf 1 (some .int)) 50 kX6_kindOf_50 :=
  alls _ (s_iload_n rfl dX6_kindOf_50) <|
  alls _ (s_bipush (by decide) dX6_kindOf_51) <|
  alls _ (s_icmp_ne (by decide) dX6_kindOf_53) <|
  alls _ (s_iconst dX6_kindOf_56) <|
  alls _ (s_goto (by decide) dX6_kindOf_57) <|
  alls_nil _
set_option maxRecDepth 100000 in
theorem sX6_kindOf_40 (l : Launch) : AllS (pSnd l rmX6_kindOf yX6_kindOf.cls cX6_kindOf wsX6_kindOf 1 (some .int)) 40 kX6_kindOf_40 :=
  alls _ (s_iload_n rfl dX6_kindOf_40) <|
  alls _ (s_bipush (by decide) dX6_kindOf_41) <|
  alls _ (s_icmp_ne (by decide) dX6_kindOf_43) <|
  alls _ (s_iconst dX6_kindOf_46) <|
  alls _ (s_goto (by decide) dX6_kindOf_47) <|
  alls_nil _
set_option maxRecDepth 100000 in
theorem sX6_kindOf_30 (l : Launch) : AllS (pSnd l rmX6_kindOf yX6_kindOf.cls cX6_kindOf wsX6_kindOf 1 (some .int)) 30 kX6_kindOf_30 :=
  alls _ (s_iload_n rfl dX6_kindOf_30) <|
  alls _ (s_bipush (by decide) dX6_kindOf_31) <|
  alls _ (s_icmp_ne (by decide) dX6_kindOf_33) <|
  alls _ (s_iconst dX6_kindOf_36) <|
  alls _ (s_goto (by decide) dX6_kindOf_37) <|
  alls_nil _
set_option maxRecDepth 100000 in
theorem sX6_kindOf_20 (l : Launch) : AllS (pSnd l rmX6_kindOf yX6_kindOf.cls cX6_kindOf wsX6_kindOf 1 (some .int)) 20 kX6_kindOf_20 :=
  alls _ (s_iload_n rfl dX6_kindOf_20) <|
  alls _ (s_bipush (by decide) dX6_kindOf_21) <|
  alls _ (s_icmp_ne (by decide) dX6_kindOf_23) <|
  alls _ (s_iconst dX6_kindOf_26) <|
  alls _ (s_goto (by decide) dX6_kindOf_27) <|
  alls_nil _
set_option maxRecDepth 100000 in
theorem sX6_kindOf_10 (l : Launch) : AllS (pSnd l rmX6_kindOf yX6_kindOf.cls cX6_kindOf wsX6_kindOf 1 (some .int)) 10 kX6_kindOf_10 :=
  alls _ (s_iload_n rfl dX6_kindOf_10) <|
  alls _ (s_bipush (by decide) dX6_kindOf_11) <|
  alls _ (s_icmp_ne (by decide) dX6_kindOf_13) <|
  alls _ (s_iconst dX6_kindOf_16) <|
  alls _ (s_goto (by decide) dX6_kindOf_17) <|
  alls_nil _
set_option maxRecDepth 100000 in
theorem sX6_kindOf_0 (l : Launch) : AllS (pSnd l rmX6_kindOf yX6_kindOf.cls cX6_kindOf wsX6_kindOf 1 (some .int)) 0 kX6_kindOf_0 :=
  alls _ (s_iload_n rfl dX6_kindOf_0) <|
  alls _ (s_bipush (by decide) dX6_kindOf_1) <|
  alls _ (s_icmp_ne (by decide) dX6_kindOf_3) <|
  alls _ (s_iconst dX6_kindOf_6) <|
  alls _ (s_goto (by decide) dX6_kindOf_7) <|
  alls_nil _
def KX6_kindOf : List (Nat × pProg) := [(0, kX6_kindOf_0), (10, kX6_kindOf_10), (20, kX6_kindOf_20), (30, kX6_kindOf_30), (40, kX6_kindOf_40), (50, kX6_kindOf_50), (60, kX6_kindOf_60), (61, kX6_kindOf_61)]
theorem bX6_kindOf_0 : blkOf KX6_kindOf 0 = some kX6_kindOf_0 := rfl
theorem bX6_kindOf_10 : blkOf KX6_kindOf 10 = some kX6_kindOf_10 := rfl
theorem bX6_kindOf_20 : blkOf KX6_kindOf 20 = some kX6_kindOf_20 := rfl
theorem bX6_kindOf_30 : blkOf KX6_kindOf 30 = some kX6_kindOf_30 := rfl
theorem bX6_kindOf_40 : blkOf KX6_kindOf 40 = some kX6_kindOf_40 := rfl
theorem bX6_kindOf_50 : blkOf KX6_kindOf 50 = some kX6_kindOf_50 := rfl
theorem bX6_kindOf_60 : blkOf KX6_kindOf 60 = some kX6_kindOf_60 := rfl
theorem bX6_kindOf_61 : blkOf KX6_kindOf 61 = some kX6_kindOf_61 := rfl
def tX6_kindOf : pT := pM KX6_kindOf 1
theorem ct_X6_kindOf (l : Launch) : pCtr l yX6_kindOf wsX6_kindOf rmX6_kindOf 1 tX6_kindOf := ctr_of (by decide +kernel) rfl (List.forall_mem_cons.mpr ⟨sX6_kindOf_0 l, List.forall_mem_cons.mpr ⟨sX6_kindOf_10 l, List.forall_mem_cons.mpr ⟨sX6_kindOf_20 l, List.forall_mem_cons.mpr ⟨sX6_kindOf_30 l, List.forall_mem_cons.mpr ⟨sX6_kindOf_40 l, List.forall_mem_cons.mpr ⟨sX6_kindOf_50 l, List.forall_mem_cons.mpr ⟨sX6_kindOf_60 l, List.forall_mem_cons.mpr ⟨sX6_kindOf_61 l, fun _ h => absurd h List.not_mem_nil⟩⟩⟩⟩⟩⟩⟩⟩)
theorem dX6_readsMiner_0 : decode cX6_readsMiner 0 = .ok (.aload_n 0, 1) := by decide +kernel
theorem dX6_readsMiner_1 : decode cX6_readsMiner 1 = .ok (.getfield 40, 3) := by decide +kernel
theorem dX6_readsMiner_4 : decode cX6_readsMiner 4 = .ok (.iload_n 1, 1) := by decide +kernel
theorem dX6_readsMiner_5 : decode cX6_readsMiner 5 = .ok (.aload_n 0, 1) := by decide +kernel
theorem dX6_readsMiner_6 : decode cX6_readsMiner 6 = .ok (.invokevirtual 78, 3) := by decide +kernel
theorem dX6_readsMiner_9 : decode cX6_readsMiner 9 = .ok (.invokestatic 86, 3) := by decide +kernel
theorem dX6_readsMiner_12 : decode cX6_readsMiner 12 = .ok (.iastore, 1) := by decide +kernel
theorem dX6_readsMiner_13 : decode cX6_readsMiner 13 = .ok (.aload_n 0, 1) := by decide +kernel
theorem dX6_readsMiner_14 : decode cX6_readsMiner 14 = .ok (.getfield 40, 3) := by decide +kernel
theorem dX6_readsMiner_17 : decode cX6_readsMiner 17 = .ok (.iload_n 1, 1) := by decide +kernel
theorem dX6_readsMiner_18 : decode cX6_readsMiner 18 = .ok (.iaload, 1) := by decide +kernel
theorem dX6_readsMiner_19 : decode cX6_readsMiner 19 = .ok (.ifCond .ge 5, 3) := by decide +kernel
theorem dX6_readsMiner_22 : decode cX6_readsMiner 22 = .ok (.iconst 0, 1) := by decide +kernel
theorem dX6_readsMiner_23 : decode cX6_readsMiner 23 = .ok (.ireturn, 1) := by decide +kernel
theorem dX6_readsMiner_24 : decode cX6_readsMiner 24 = .ok (.aload_n 0, 1) := by decide +kernel
theorem dX6_readsMiner_25 : decode cX6_readsMiner 25 = .ok (.dup, 1) := by decide +kernel
theorem dX6_readsMiner_26 : decode cX6_readsMiner 26 = .ok (.getfield 75, 3) := by decide +kernel
theorem dX6_readsMiner_29 : decode cX6_readsMiner 29 = .ok (.iconst 1, 1) := by decide +kernel
theorem dX6_readsMiner_30 : decode cX6_readsMiner 30 = .ok (.iadd, 1) := by decide +kernel
theorem dX6_readsMiner_31 : decode cX6_readsMiner 31 = .ok (.putfield 75, 3) := by decide +kernel
theorem dX6_readsMiner_34 : decode cX6_readsMiner 34 = .ok (.aload_n 0, 1) := by decide +kernel
theorem dX6_readsMiner_35 : decode cX6_readsMiner 35 = .ok (.iload_n 1, 1) := by decide +kernel
theorem dX6_readsMiner_36 : decode cX6_readsMiner 36 = .ok (.iconst 1, 1) := by decide +kernel
theorem dX6_readsMiner_37 : decode cX6_readsMiner 37 = .ok (.iadd, 1) := by decide +kernel
theorem dX6_readsMiner_38 : decode cX6_readsMiner 38 = .ok (.iconst 1, 1) := by decide +kernel
theorem dX6_readsMiner_39 : decode cX6_readsMiner 39 = .ok (.invokevirtual 89, 3) := by decide +kernel
theorem dX6_readsMiner_42 : decode cX6_readsMiner 42 = .ok (.ireturn, 1) := by decide +kernel
def rmX6_readsMiner : Room := { frames := 2, cells := 0, slots := 0, locals := 46 }
abbrev wsX6_readsMiner : List Cond := .code yX6_readsMiner cX6_readsMiner 2 (some .boolean) :: gw_tbl
def kX6_readsMiner_24 : pProg := (24, 1, a_aload 0) :: (25, 1, a_dup) :: (26, 3, a_getf 0 4 14) :: (29, 1, a_iconst 1) :: (30, 1, a_iadd) :: (31, 3, a_putf 0 4 14 .int) :: (34, 1, a_aload 0) :: (35, 1, a_iload 1) :: (36, 1, a_iconst 1) :: (37, 1, a_iadd) :: (38, 1, a_iconst 1) :: (39, 3, a_callv 3 4 [0, 1, 2, 3, 4, 5, 6, 7, 8, 9, 10, 11, 12, 13, 14, 15, 16] tX6_readsDigits) :: (42, 1, a_zret) :: []
def kX6_readsMiner_0 : pProg := (0, 1, a_aload 0) :: (1, 3, a_getf 0 4 12) :: (4, 1, a_iload 1) :: (5, 1, a_aload 0) :: (6, 3, a_callv 1 4 [0, 1, 2, 3, 4, 5, 6, 7, 8, 9, 10, 11, 12, 13, 14, 15, 16] tX6_letterNow) :: (9, 3, a_calls 1 [] tX6_kindOf) :: (12, 1, a_iast 11) :: (13, 1, a_aload 0) :: (14, 3, a_getf 0 4 12) :: (17, 1, a_iload 1) :: (18, 1, a_iald 11) :: (19, 3, a_if_ge 24) :: (22, 1, a_iconst 0) :: (23, 1, a_zret) :: []
set_option maxRecDepth 100000 in
theorem sX6_readsMiner_24 (l : Launch) : AllS (pSnd l rmX6_readsMiner yX6_readsMiner.cls cX6_readsMiner wsX6_readsMiner 2 (some .boolean)) 24 kX6_readsMiner_24 :=
  alls _ (s_aload_n rfl dX6_readsMiner_24) <|
  alls _ (s_dup dX6_readsMiner_25) <|
  alls _ (s_getf (C := RX6) (T := TX6) (N := 29) rfl (in_c inX6) (by decide) (List.mem_cons_of_mem _ wd_761) rfl dX6_readsMiner_26) <|
  alls _ (s_iconst dX6_readsMiner_29) <|
  alls _ (s_iadd dX6_readsMiner_30) <|
  alls _ (s_putf (C := RX6) (T := TX6) (N := 29) tyX6 rfl (in_c inX6) tyX6_ok nmX6 (by decide) (List.mem_cons_of_mem _ wd_761) rfl rfl (tyX6_ok 14 (by decide)) dX6_readsMiner_31) <|
  alls _ (s_aload_n rfl dX6_readsMiner_34) <|
  alls _ (s_iload_n rfl dX6_readsMiner_35) <|
  alls _ (s_iconst dX6_readsMiner_36) <|
  alls _ (s_iadd dX6_readsMiner_37) <|
  alls _ (s_iconst dX6_readsMiner_38) <|
  alls _ (s_callv (ct_X6_readsDigits l) rfl rfl rfl (gdV wd_862 wd_864 wd_15 wd_65 wd_865) rfl rfl (by decide +kernel) ⟨Nat.le_of_ble_eq_true rfl, Nat.le_of_ble_eq_true rfl⟩ dX6_readsMiner_39) <|
  alls _ (s_zret dX6_readsMiner_42) <|
  alls_nil _
set_option maxRecDepth 100000 in
theorem sX6_readsMiner_0 (l : Launch) : AllS (pSnd l rmX6_readsMiner yX6_readsMiner.cls cX6_readsMiner wsX6_readsMiner 2 (some .boolean)) 0 kX6_readsMiner_0 :=
  alls _ (s_aload_n rfl dX6_readsMiner_0) <|
  alls _ (s_getf (C := RX6) (T := TX6) (N := 29) rfl (in_c inX6) (by decide) (List.mem_cons_of_mem _ wd_759) rfl dX6_readsMiner_1) <|
  alls _ (s_iload_n rfl dX6_readsMiner_4) <|
  alls _ (s_aload_n rfl dX6_readsMiner_5) <|
  alls _ (s_callv (ct_X6_letterNow l) rfl rfl rfl (gdV wd_854 wd_856 wd_13 wd_65 wd_857) rfl rfl (by decide +kernel) ⟨Nat.le_of_ble_eq_true rfl, Nat.le_of_ble_eq_true rfl⟩ dX6_readsMiner_6) <|
  alls _ (s_calls (ct_X6_kindOf l) rfl rfl (gdS wd_875) (List.mem_cons_of_mem _ wd_873) (List.mem_cons_of_mem _ wd_874) (List.mem_cons_of_mem _ wd_65) rfl rfl (by decide +kernel) ⟨Nat.le_of_ble_eq_true rfl, Nat.le_of_ble_eq_true rfl⟩ dX6_readsMiner_9) <|
  alls _ (s_iast dX6_readsMiner_12) <|
  alls _ (s_aload_n rfl dX6_readsMiner_13) <|
  alls _ (s_getf (C := RX6) (T := TX6) (N := 29) rfl (in_c inX6) (by decide) (List.mem_cons_of_mem _ wd_759) rfl dX6_readsMiner_14) <|
  alls _ (s_iload_n rfl dX6_readsMiner_17) <|
  alls _ (s_iald dX6_readsMiner_18) <|
  alls _ (s_if_ge (by decide) dX6_readsMiner_19) <|
  alls _ (s_iconst dX6_readsMiner_22) <|
  alls _ (s_zret dX6_readsMiner_23) <|
  alls_nil _
def KX6_readsMiner : List (Nat × pProg) := [(0, kX6_readsMiner_0), (24, kX6_readsMiner_24)]
theorem bX6_readsMiner_0 : blkOf KX6_readsMiner 0 = some kX6_readsMiner_0 := rfl
theorem bX6_readsMiner_24 : blkOf KX6_readsMiner 24 = some kX6_readsMiner_24 := rfl
def tX6_readsMiner : pT := pM KX6_readsMiner 2
theorem ct_X6_readsMiner (l : Launch) : pCtr l yX6_readsMiner wsX6_readsMiner rmX6_readsMiner 2 tX6_readsMiner := ctr_of (by decide +kernel) rfl (List.forall_mem_cons.mpr ⟨sX6_readsMiner_0 l, List.forall_mem_cons.mpr ⟨sX6_readsMiner_24 l, fun _ h => absurd h List.not_mem_nil⟩⟩)
theorem dX6_readsAll_0 : decode cX6_readsAll 0 = .ok (.iload_n 1, 1) := by decide +kernel
theorem dX6_readsAll_1 : decode cX6_readsAll 1 = .ok (.lookupswitch 153 #[(97, 101), (98, 51), (112, 77), (116, 101), (120, 127)], 51) := by decide +kernel
theorem dX6_readsAll_52 : decode cX6_readsAll 52 = .ok (.aload_n 0, 1) := by decide +kernel
theorem dX6_readsAll_53 : decode cX6_readsAll 53 = .ok (.iload_n 2, 1) := by decide +kernel
theorem dX6_readsAll_54 : decode cX6_readsAll 54 = .ok (.iconst 2, 1) := by decide +kernel
theorem dX6_readsAll_55 : decode cX6_readsAll 55 = .ok (.invokevirtual 89, 3) := by decide +kernel
theorem dX6_readsAll_58 : decode cX6_readsAll 58 = .ok (.ifCond .eq 18, 3) := by decide +kernel
theorem dX6_readsAll_61 : decode cX6_readsAll 61 = .ok (.aload_n 0, 1) := by decide +kernel
theorem dX6_readsAll_62 : decode cX6_readsAll 62 = .ok (.iload_n 2, 1) := by decide +kernel
theorem dX6_readsAll_63 : decode cX6_readsAll 63 = .ok (.iconst 1, 1) := by decide +kernel
theorem dX6_readsAll_64 : decode cX6_readsAll 64 = .ok (.iadd, 1) := by decide +kernel
theorem dX6_readsAll_65 : decode cX6_readsAll 65 = .ok (.iconst 1, 1) := by decide +kernel
theorem dX6_readsAll_66 : decode cX6_readsAll 66 = .ok (.invokevirtual 89, 3) := by decide +kernel
theorem dX6_readsAll_69 : decode cX6_readsAll 69 = .ok (.ifCond .eq 7, 3) := by decide +kernel
theorem dX6_readsAll_72 : decode cX6_readsAll 72 = .ok (.iconst 1, 1) := by decide +kernel
theorem dX6_readsAll_73 : decode cX6_readsAll 73 = .ok (.goto 4, 3) := by decide +kernel
theorem dX6_readsAll_76 : decode cX6_readsAll 76 = .ok (.iconst 0, 1) := by decide +kernel
theorem dX6_readsAll_77 : decode cX6_readsAll 77 = .ok (.ireturn, 1) := by decide +kernel
theorem dX6_readsAll_78 : decode cX6_readsAll 78 = .ok (.aload_n 0, 1) := by decide +kernel
theorem dX6_readsAll_79 : decode cX6_readsAll 79 = .ok (.iload_n 2, 1) := by decide +kernel
theorem dX6_readsAll_80 : decode cX6_readsAll 80 = .ok (.invokevirtual 93, 3) := by decide +kernel
theorem dX6_readsAll_83 : decode cX6_readsAll 83 = .ok (.ifCond .eq 17, 3) := by decide +kernel
theorem dX6_readsAll_86 : decode cX6_readsAll 86 = .ok (.aload_n 0, 1) := by decide +kernel
theorem dX6_readsAll_87 : decode cX6_readsAll 87 = .ok (.iload_n 2, 1) := by decide +kernel
theorem dX6_readsAll_88 : decode cX6_readsAll 88 = .ok (.iconst 2, 1) := by decide +kernel
theorem dX6_readsAll_89 : decode cX6_readsAll 89 = .ok (.iadd, 1) := by decide +kernel
theorem dX6_readsAll_90 : decode cX6_readsAll 90 = .ok (.invokevirtual 93, 3) := by decide +kernel
theorem dX6_readsAll_93 : decode cX6_readsAll 93 = .ok (.ifCond .eq 7, 3) := by decide +kernel
theorem dX6_readsAll_96 : decode cX6_readsAll 96 = .ok (.iconst 1, 1) := by decide +kernel
theorem dX6_readsAll_97 : decode cX6_readsAll 97 = .ok (.goto 4, 3) := by decide +kernel
theorem dX6_readsAll_100 : decode cX6_readsAll 100 = .ok (.iconst 0, 1) := by decide +kernel
theorem dX6_readsAll_101 : decode cX6_readsAll 101 = .ok (.ireturn, 1) := by decide +kernel
theorem dX6_readsAll_102 : decode cX6_readsAll 102 = .ok (.aload_n 0, 1) := by decide +kernel
theorem dX6_readsAll_103 : decode cX6_readsAll 103 = .ok (.iload_n 2, 1) := by decide +kernel
theorem dX6_readsAll_104 : decode cX6_readsAll 104 = .ok (.iconst 1, 1) := by decide +kernel
theorem dX6_readsAll_105 : decode cX6_readsAll 105 = .ok (.invokevirtual 89, 3) := by decide +kernel
theorem dX6_readsAll_108 : decode cX6_readsAll 108 = .ok (.ifCond .eq 18, 3) := by decide +kernel
theorem dX6_readsAll_111 : decode cX6_readsAll 111 = .ok (.aload_n 0, 1) := by decide +kernel
theorem dX6_readsAll_112 : decode cX6_readsAll 112 = .ok (.iload_n 2, 1) := by decide +kernel
theorem dX6_readsAll_113 : decode cX6_readsAll 113 = .ok (.iconst 1, 1) := by decide +kernel
theorem dX6_readsAll_114 : decode cX6_readsAll 114 = .ok (.iadd, 1) := by decide +kernel
theorem dX6_readsAll_115 : decode cX6_readsAll 115 = .ok (.iconst 2, 1) := by decide +kernel
theorem dX6_readsAll_116 : decode cX6_readsAll 116 = .ok (.invokevirtual 89, 3) := by decide +kernel
theorem dX6_readsAll_119 : decode cX6_readsAll 119 = .ok (.ifCond .eq 7, 3) := by decide +kernel
theorem dX6_readsAll_122 : decode cX6_readsAll 122 = .ok (.iconst 1, 1) := by decide +kernel
theorem dX6_readsAll_123 : decode cX6_readsAll 123 = .ok (.goto 4, 3) := by decide +kernel
theorem dX6_readsAll_126 : decode cX6_readsAll 126 = .ok (.iconst 0, 1) := by decide +kernel
theorem dX6_readsAll_127 : decode cX6_readsAll 127 = .ok (.ireturn, 1) := by decide +kernel
theorem dX6_readsAll_128 : decode cX6_readsAll 128 = .ok (.aload_n 0, 1) := by decide +kernel
theorem dX6_readsAll_129 : decode cX6_readsAll 129 = .ok (.iload_n 2, 1) := by decide +kernel
theorem dX6_readsAll_130 : decode cX6_readsAll 130 = .ok (.iconst 1, 1) := by decide +kernel
theorem dX6_readsAll_131 : decode cX6_readsAll 131 = .ok (.invokevirtual 89, 3) := by decide +kernel
theorem dX6_readsAll_134 : decode cX6_readsAll 134 = .ok (.ifCond .eq 18, 3) := by decide +kernel
theorem dX6_readsAll_137 : decode cX6_readsAll 137 = .ok (.aload_n 0, 1) := by decide +kernel
theorem dX6_readsAll_138 : decode cX6_readsAll 138 = .ok (.iload_n 2, 1) := by decide +kernel
theorem dX6_readsAll_139 : decode cX6_readsAll 139 = .ok (.iconst 1, 1) := by decide +kernel
theorem dX6_readsAll_140 : decode cX6_readsAll 140 = .ok (.iadd, 1) := by decide +kernel
theorem dX6_readsAll_141 : decode cX6_readsAll 141 = .ok (.iconst 1, 1) := by decide +kernel
theorem dX6_readsAll_142 : decode cX6_readsAll 142 = .ok (.invokevirtual 89, 3) := by decide +kernel
theorem dX6_readsAll_145 : decode cX6_readsAll 145 = .ok (.ifCond .eq 7, 3) := by decide +kernel
theorem dX6_readsAll_148 : decode cX6_readsAll 148 = .ok (.iconst 1, 1) := by decide +kernel
theorem dX6_readsAll_149 : decode cX6_readsAll 149 = .ok (.goto 4, 3) := by decide +kernel
theorem dX6_readsAll_152 : decode cX6_readsAll 152 = .ok (.iconst 0, 1) := by decide +kernel
theorem dX6_readsAll_153 : decode cX6_readsAll 153 = .ok (.ireturn, 1) := by decide +kernel
theorem dX6_readsAll_154 : decode cX6_readsAll 154 = .ok (.aload_n 0, 1) := by decide +kernel
theorem dX6_readsAll_155 : decode cX6_readsAll 155 = .ok (.iload_n 2, 1) := by decide +kernel
theorem dX6_readsAll_156 : decode cX6_readsAll 156 = .ok (.iconst 2, 1) := by decide +kernel
theorem dX6_readsAll_157 : decode cX6_readsAll 157 = .ok (.invokevirtual 89, 3) := by decide +kernel
theorem dX6_readsAll_160 : decode cX6_readsAll 160 = .ok (.ireturn, 1) := by decide +kernel
def rmX6_readsAll : Room := { frames := 3, cells := 0, slots := 0, locals := 67 }
abbrev wsX6_readsAll : List Cond := .code yX6_readsAll cX6_readsAll 3 (some .boolean) :: gw_tbl
def kX6_readsAll_154 : pProg := (154, 1, a_aload 0) :: (155, 1, a_iload 2) :: (156, 1, a_iconst 2) :: (157, 3, a_callv 3 4 [0, 1, 2, 3, 4, 5, 6, 7, 8, 9, 10, 11, 12, 13, 14, 15, 16] tX6_readsDigits) :: (160, 1, a_zret) :: []
def kX6_readsAll_153 : pProg := (153, 1, a_zret) :: []
def kX6_readsAll_152 : pProg := (152, 1, a_iconst 0) :: (153, 0, a_fall 153) :: []
def kX6_readsAll_128 : pProg := (128, 1, a_aload 0) :: (129, 1, a_iload 2) :: (130, 1, a_iconst 1) :: (131, 3, a_callv 3 4 [0, 1, 2, 3, 4, 5, 6, 7, 8, 9, 10, 11, 12, 13, 14, 15, 16] tX6_readsDigits) :: (134, 3, a_if_eq 152) :: (137, 1, a_aload 0) :: (138, 1, a_iload 2) :: (139, 1, a_iconst 1) :: (140, 1, a_iadd) :: (141, 1, a_iconst 1) :: (142, 3, a_callv 3 4 [0, 1, 2, 3, 4, 5, 6, 7, 8, 9, 10, 11, 12, 13, 14, 15, 16] tX6_readsDigits) :: (145, 3, a_if_eq 152) :: (148, 1, a_iconst 1) :: (149, 3, a_goto 153) :: []
def kX6_readsAll_127 : pProg := (127, 1, a_zret) :: []
def kX6_readsAll_126 : pProg := (126, 1, a_iconst 0) :: (127, 0, a_fall 127) :: []
def kX6_readsAll_102 : pProg := (102, 1, a_aload 0) :: (103, 1, a_iload 2) :: (104, 1, a_iconst 1) :: (105, 3, a_callv 3 4 [0, 1, 2, 3, 4, 5, 6, 7, 8, 9, 10, 11, 12, 13, 14, 15, 16] tX6_readsDigits) :: (108, 3, a_if_eq 126) :: (111, 1, a_aload 0) :: (112, 1, a_iload 2) :: (113, 1, a_iconst 1) :: (114, 1, a_iadd) :: (115, 1, a_iconst 2) :: (116, 3, a_callv 3 4 [0, 1, 2, 3, 4, 5, 6, 7, 8, 9, 10, 11, 12, 13, 14, 15, 16] tX6_readsDigits) :: (119, 3, a_if_eq 126) :: (122, 1, a_iconst 1) :: (123, 3, a_goto 127) :: []
def kX6_readsAll_101 : pProg := (101, 1, a_zret) :: []
def kX6_readsAll_100 : pProg := (100, 1, a_iconst 0) :: (101, 0, a_fall 101) :: []
def kX6_readsAll_78 : pProg := (78, 1, a_aload 0) :: (79, 1, a_iload 2) :: (80, 3, a_callv 2 4 [0, 1, 2, 3, 4, 5, 6, 7, 8, 9, 10, 11, 12, 13, 14, 15, 16] tX6_readsMiner) :: (83, 3, a_if_eq 100) :: (86, 1, a_aload 0) :: (87, 1, a_iload 2) :: (88, 1, a_iconst 2) :: (89, 1, a_iadd) :: (90, 3, a_callv 2 4 [0, 1, 2, 3, 4, 5, 6, 7, 8, 9, 10, 11, 12, 13, 14, 15, 16] tX6_readsMiner) :: (93, 3, a_if_eq 100) :: (96, 1, a_iconst 1) :: (97, 3, a_goto 101) :: []
def kX6_readsAll_77 : pProg := (77, 1, a_zret) :: []
def kX6_readsAll_76 : pProg := (76, 1, a_iconst 0) :: (77, 0, a_fall 77) :: []
def kX6_readsAll_52 : pProg := (52, 1, a_aload 0) :: (53, 1, a_iload 2) :: (54, 1, a_iconst 2) :: (55, 3, a_callv 3 4 [0, 1, 2, 3, 4, 5, 6, 7, 8, 9, 10, 11, 12, 13, 14, 15, 16] tX6_readsDigits) :: (58, 3, a_if_eq 76) :: (61, 1, a_aload 0) :: (62, 1, a_iload 2) :: (63, 1, a_iconst 1) :: (64, 1, a_iadd) :: (65, 1, a_iconst 1) :: (66, 3, a_callv 3 4 [0, 1, 2, 3, 4, 5, 6, 7, 8, 9, 10, 11, 12, 13, 14, 15, 16] tX6_readsDigits) :: (69, 3, a_if_eq 76) :: (72, 1, a_iconst 1) :: (73, 3, a_goto 77) :: []
def kX6_readsAll_0 : pProg := (0, 1, a_iload 1) :: (1, 51, a_lsw [(97, 102), (98, 52), (112, 78), (116, 102), (120, 128)] 154) :: []
set_option maxRecDepth 100000 in
theorem sX6_readsAll_154 (l : Launch) : AllS (pSnd l rmX6_readsAll yX6_readsAll.cls cX6_readsAll wsX6_readsAll 3 (some .boolean)) 154 kX6_readsAll_154 :=
  alls _ (s_aload_n rfl dX6_readsAll_154) <|
  alls _ (s_iload_n rfl dX6_readsAll_155) <|
  alls _ (s_iconst dX6_readsAll_156) <|
  alls _ (s_callv (ct_X6_readsDigits l) rfl rfl rfl (gdV wd_862 wd_864 wd_15 wd_65 wd_865) rfl rfl (by decide +kernel) ⟨Nat.le_of_ble_eq_true rfl, Nat.le_of_ble_eq_true rfl⟩ dX6_readsAll_157) <|
  alls _ (s_zret dX6_readsAll_160) <|
  alls_nil _
set_option maxRecDepth 100000 in
theorem sX6_readsAll_153 (l : Launch) : AllS (pSnd l rmX6_readsAll yX6_readsAll.cls cX6_readsAll wsX6_readsAll 3 (some .boolean)) 153 kX6_readsAll_153 :=
  alls _ (s_zret dX6_readsAll_153) <|
  alls_nil _
set_option maxRecDepth 100000 in
theorem sX6_readsAll_152 (l : Launch) : AllS (pSnd l rmX6_readsAll yX6_readsAll.cls cX6_readsAll wsX6_readsAll 3 (some .boolean)) 152 kX6_readsAll_152 :=
  alls _ (s_iconst dX6_readsAll_152) <|
  alls _ s_fall (alls_nil _)
set_option maxRecDepth 100000 in
theorem sX6_readsAll_128 (l : Launch) : AllS (pSnd l rmX6_readsAll yX6_readsAll.cls cX6_readsAll wsX6_readsAll 3 (some .boolean)) 128 kX6_readsAll_128 :=
  alls _ (s_aload_n rfl dX6_readsAll_128) <|
  alls _ (s_iload_n rfl dX6_readsAll_129) <|
  alls _ (s_iconst dX6_readsAll_130) <|
  alls _ (s_callv (ct_X6_readsDigits l) rfl rfl rfl (gdV wd_862 wd_864 wd_15 wd_65 wd_865) rfl rfl (by decide +kernel) ⟨Nat.le_of_ble_eq_true rfl, Nat.le_of_ble_eq_true rfl⟩ dX6_readsAll_131) <|
  alls _ (s_if_eq (by decide) dX6_readsAll_134) <|
  alls _ (s_aload_n rfl dX6_readsAll_137) <|
  alls _ (s_iload_n rfl dX6_readsAll_138) <|
  alls _ (s_iconst dX6_readsAll_139) <|
  alls _ (s_iadd dX6_readsAll_140) <|
  alls _ (s_iconst dX6_readsAll_141) <|
  alls _ (s_callv (ct_X6_readsDigits l) rfl rfl rfl (gdV wd_862 wd_864 wd_15 wd_65 wd_865) rfl rfl (by decide +kernel) ⟨Nat.le_of_ble_eq_true rfl, Nat.le_of_ble_eq_true rfl⟩ dX6_readsAll_142) <|
  alls _ (s_if_eq (by decide) dX6_readsAll_145) <|
  alls _ (s_iconst dX6_readsAll_148) <|
  alls _ (s_goto (by decide) dX6_readsAll_149) <|
  alls_nil _
set_option maxRecDepth 100000 in
theorem sX6_readsAll_127 (l : Launch) : AllS (pSnd l rmX6_readsAll yX6_readsAll.cls cX6_readsAll wsX6_readsAll 3 (some .boolean)) 127 kX6_readsAll_127 :=
  alls _ (s_zret dX6_readsAll_127) <|
  alls_nil _
set_option maxRecDepth 100000 in
theorem sX6_readsAll_126 (l : Launch) : AllS (pSnd l rmX6_readsAll yX6_readsAll.cls cX6_readsAll wsX6_readsAll 3 (some .boolean)) 126 kX6_readsAll_126 :=
  alls _ (s_iconst dX6_readsAll_126) <|
  alls _ s_fall (alls_nil _)
set_option maxRecDepth 100000 in
theorem sX6_readsAll_102 (l : Launch) : AllS (pSnd l rmX6_readsAll yX6_readsAll.cls cX6_readsAll wsX6_readsAll 3 (some .boolean)) 102 kX6_readsAll_102 :=
  alls _ (s_aload_n rfl dX6_readsAll_102) <|
  alls _ (s_iload_n rfl dX6_readsAll_103) <|
  alls _ (s_iconst dX6_readsAll_104) <|
  alls _ (s_callv (ct_X6_readsDigits l) rfl rfl rfl (gdV wd_862 wd_864 wd_15 wd_65 wd_865) rfl rfl (by decide +kernel) ⟨Nat.le_of_ble_eq_true rfl, Nat.le_of_ble_eq_true rfl⟩ dX6_readsAll_105) <|
  alls _ (s_if_eq (by decide) dX6_readsAll_108) <|
  alls _ (s_aload_n rfl dX6_readsAll_111) <|
  alls _ (s_iload_n rfl dX6_readsAll_112) <|
  alls _ (s_iconst dX6_readsAll_113) <|
  alls _ (s_iadd dX6_readsAll_114) <|
  alls _ (s_iconst dX6_readsAll_115) <|
  alls _ (s_callv (ct_X6_readsDigits l) rfl rfl rfl (gdV wd_862 wd_864 wd_15 wd_65 wd_865) rfl rfl (by decide +kernel) ⟨Nat.le_of_ble_eq_true rfl, Nat.le_of_ble_eq_true rfl⟩ dX6_readsAll_116) <|
  alls _ (s_if_eq (by decide) dX6_readsAll_119) <|
  alls _ (s_iconst dX6_readsAll_122) <|
  alls _ (s_goto (by decide) dX6_readsAll_123) <|
  alls_nil _
set_option maxRecDepth 100000 in
theorem sX6_readsAll_101 (l : Launch) : AllS (pSnd l rmX6_readsAll yX6_readsAll.cls cX6_readsAll wsX6_readsAll 3 (some .boolean)) 101 kX6_readsAll_101 :=
  alls _ (s_zret dX6_readsAll_101) <|
  alls_nil _
set_option maxRecDepth 100000 in
theorem sX6_readsAll_100 (l : Launch) : AllS (pSnd l rmX6_readsAll yX6_readsAll.cls cX6_readsAll wsX6_readsAll 3 (some .boolean)) 100 kX6_readsAll_100 :=
  alls _ (s_iconst dX6_readsAll_100) <|
  alls _ s_fall (alls_nil _)
set_option maxRecDepth 100000 in
theorem sX6_readsAll_78 (l : Launch) : AllS (pSnd l rmX6_readsAll yX6_readsAll.cls cX6_readsAll wsX6_readsAll 3 (some .boolean)) 78 kX6_readsAll_78 :=
  alls _ (s_aload_n rfl dX6_readsAll_78) <|
  alls _ (s_iload_n rfl dX6_readsAll_79) <|
  alls _ (s_callv (ct_X6_readsMiner l) rfl rfl rfl (gdV wd_869 wd_871 wd_16 wd_65 wd_872) rfl rfl (by decide +kernel) ⟨Nat.le_of_ble_eq_true rfl, Nat.le_of_ble_eq_true rfl⟩ dX6_readsAll_80) <|
  alls _ (s_if_eq (by decide) dX6_readsAll_83) <|
  alls _ (s_aload_n rfl dX6_readsAll_86) <|
  alls _ (s_iload_n rfl dX6_readsAll_87) <|
  alls _ (s_iconst dX6_readsAll_88) <|
  alls _ (s_iadd dX6_readsAll_89) <|
  alls _ (s_callv (ct_X6_readsMiner l) rfl rfl rfl (gdV wd_869 wd_871 wd_16 wd_65 wd_872) rfl rfl (by decide +kernel) ⟨Nat.le_of_ble_eq_true rfl, Nat.le_of_ble_eq_true rfl⟩ dX6_readsAll_90) <|
  alls _ (s_if_eq (by decide) dX6_readsAll_93) <|
  alls _ (s_iconst dX6_readsAll_96) <|
  alls _ (s_goto (by decide) dX6_readsAll_97) <|
  alls_nil _
set_option maxRecDepth 100000 in
theorem sX6_readsAll_77 (l : Launch) : AllS (pSnd l rmX6_readsAll yX6_readsAll.cls cX6_readsAll wsX6_readsAll 3 (some .boolean)) 77 kX6_readsAll_77 :=
  alls _ (s_zret dX6_readsAll_77) <|
  alls_nil _
set_option maxRecDepth 100000 in
theorem sX6_readsAll_76 (l : Launch) : AllS (pSnd l rmX6_readsAll yX6_readsAll.cls cX6_readsAll wsX6_readsAll 3 (some .boolean)) 76 kX6_readsAll_76 :=
  alls _ (s_iconst dX6_readsAll_76) <|
  alls _ s_fall (alls_nil _)
set_option maxRecDepth 100000 in
theorem sX6_readsAll_52 (l : Launch) : AllS (pSnd l rmX6_readsAll yX6_readsAll.cls cX6_readsAll wsX6_readsAll 3 (some .boolean)) 52 kX6_readsAll_52 :=
  alls _ (s_aload_n rfl dX6_readsAll_52) <|
  alls _ (s_iload_n rfl dX6_readsAll_53) <|
  alls _ (s_iconst dX6_readsAll_54) <|
  alls _ (s_callv (ct_X6_readsDigits l) rfl rfl rfl (gdV wd_862 wd_864 wd_15 wd_65 wd_865) rfl rfl (by decide +kernel) ⟨Nat.le_of_ble_eq_true rfl, Nat.le_of_ble_eq_true rfl⟩ dX6_readsAll_55) <|
  alls _ (s_if_eq (by decide) dX6_readsAll_58) <|
  alls _ (s_aload_n rfl dX6_readsAll_61) <|
  alls _ (s_iload_n rfl dX6_readsAll_62) <|
  alls _ (s_iconst dX6_readsAll_63) <|
  alls _ (s_iadd dX6_readsAll_64) <|
  alls _ (s_iconst dX6_readsAll_65) <|
  alls _ (s_callv (ct_X6_readsDigits l) rfl rfl rfl (gdV wd_862 wd_864 wd_15 wd_65 wd_865) rfl rfl (by decide +kernel) ⟨Nat.le_of_ble_eq_true rfl, Nat.le_of_ble_eq_true rfl⟩ dX6_readsAll_66) <|
  alls _ (s_if_eq (by decide) dX6_readsAll_69) <|
  alls _ (s_iconst dX6_readsAll_72) <|
  alls _ (s_goto (by decide) dX6_readsAll_73) <|
  alls_nil _
set_option maxRecDepth 100000 in
theorem sX6_readsAll_0 (l : Launch) : AllS (pSnd l rmX6_readsAll yX6_readsAll.cls cX6_readsAll wsX6_readsAll 3 (some .boolean)) 0 kX6_readsAll_0 :=
  alls _ (s_iload_n rfl dX6_readsAll_0) <|
  alls _ (s_lsw (by decide) (by decide) (by decide) dX6_readsAll_1) <|
  alls_nil _
def KX6_readsAll : List (Nat × pProg) := [(0, kX6_readsAll_0), (52, kX6_readsAll_52), (76, kX6_readsAll_76), (77, kX6_readsAll_77), (78, kX6_readsAll_78), (100, kX6_readsAll_100), (101, kX6_readsAll_101), (102, kX6_readsAll_102), (126, kX6_readsAll_126), (127, kX6_readsAll_127), (128, kX6_readsAll_128), (152, kX6_readsAll_152), (153, kX6_readsAll_153), (154, kX6_readsAll_154)]
theorem bX6_readsAll_0 : blkOf KX6_readsAll 0 = some kX6_readsAll_0 := rfl
theorem bX6_readsAll_52 : blkOf KX6_readsAll 52 = some kX6_readsAll_52 := rfl
theorem bX6_readsAll_76 : blkOf KX6_readsAll 76 = some kX6_readsAll_76 := rfl
theorem bX6_readsAll_77 : blkOf KX6_readsAll 77 = some kX6_readsAll_77 := rfl
theorem bX6_readsAll_78 : blkOf KX6_readsAll 78 = some kX6_readsAll_78 := rfl
theorem bX6_readsAll_100 : blkOf KX6_readsAll 100 = some kX6_readsAll_100 := rfl
theorem bX6_readsAll_101 : blkOf KX6_readsAll 101 = some kX6_readsAll_101 := rfl
theorem bX6_readsAll_102 : blkOf KX6_readsAll 102 = some kX6_readsAll_102 := rfl
theorem bX6_readsAll_126 : blkOf KX6_readsAll 126 = some kX6_readsAll_126 := rfl
theorem bX6_readsAll_127 : blkOf KX6_readsAll 127 = some kX6_readsAll_127 := rfl
theorem bX6_readsAll_128 : blkOf KX6_readsAll 128 = some kX6_readsAll_128 := rfl
theorem bX6_readsAll_152 : blkOf KX6_readsAll 152 = some kX6_readsAll_152 := rfl
theorem bX6_readsAll_153 : blkOf KX6_readsAll 153 = some kX6_readsAll_153 := rfl
theorem bX6_readsAll_154 : blkOf KX6_readsAll 154 = some kX6_readsAll_154 := rfl
def tX6_readsAll : pT := pM KX6_readsAll 3
theorem ct_X6_readsAll (l : Launch) : pCtr l yX6_readsAll wsX6_readsAll rmX6_readsAll 3 tX6_readsAll := ctr_of (by decide +kernel) rfl (List.forall_mem_cons.mpr ⟨sX6_readsAll_0 l, List.forall_mem_cons.mpr ⟨sX6_readsAll_52 l, List.forall_mem_cons.mpr ⟨sX6_readsAll_76 l, List.forall_mem_cons.mpr ⟨sX6_readsAll_77 l, List.forall_mem_cons.mpr ⟨sX6_readsAll_78 l, List.forall_mem_cons.mpr ⟨sX6_readsAll_100 l, List.forall_mem_cons.mpr ⟨sX6_readsAll_101 l, List.forall_mem_cons.mpr ⟨sX6_readsAll_102 l, List.forall_mem_cons.mpr ⟨sX6_readsAll_126 l, List.forall_mem_cons.mpr ⟨sX6_readsAll_127 l, List.forall_mem_cons.mpr ⟨sX6_readsAll_128 l, List.forall_mem_cons.mpr ⟨sX6_readsAll_152 l, List.forall_mem_cons.mpr ⟨sX6_readsAll_153 l, List.forall_mem_cons.mpr ⟨sX6_readsAll_154 l, fun _ h => absurd h List.not_mem_nil⟩⟩⟩⟩⟩⟩⟩⟩⟩⟩⟩⟩⟩⟩)
theorem dX6_statement_0 : decode cX6_statement 0 = .ok (.aload_n 0, 1) := by decide +kernel
theorem dX6_statement_1 : decode cX6_statement 1 = .ok (.invokevirtual 78, 3) := by decide +kernel
theorem dX6_statement_4 : decode cX6_statement 4 = .ok (.istore_n 1, 1) := by decide +kernel
theorem dX6_statement_5 : decode cX6_statement 5 = .ok (.iload_n 1, 1) := by decide +kernel
theorem dX6_statement_6 : decode cX6_statement 6 = .ok (.bipush 98, 2) := by decide +kernel
theorem dX6_statement_8 : decode cX6_statement 8 = .ok (.if_icmp .eq 35, 3) := by decide +kernel
theorem dX6_statement_11 : decode cX6_statement 11 = .ok (.iload_n 1, 1) := by decide +kernel
theorem dX6_statement_12 : decode cX6_statement 12 = .ok (.bipush 112, 2) := by decide +kernel
theorem dX6_statement_14 : decode cX6_statement 14 = .ok (.if_icmp .eq 29, 3) := by decide +kernel
theorem dX6_statement_17 : decode cX6_statement 17 = .ok (.iload_n 1, 1) := by decide +kernel
theorem dX6_statement_18 : decode cX6_statement 18 = .ok (.bipush 97, 2) := by decide +kernel
theorem dX6_statement_20 : decode cX6_statement 20 = .ok (.if_icmp .eq 23, 3) := by decide +kernel
theorem dX6_statement_23 : decode cX6_statement 23 = .ok (.iload_n 1, 1) := by decide +kernel
theorem dX6_statement_24 : decode cX6_statement 24 = .ok (.bipush 116, 2) := by decide +kernel
theorem dX6_statement_26 : decode cX6_statement 26 = .ok (.if_icmp .eq 17, 3) := by decide +kernel
theorem dX6_statement_29 : decode cX6_statement 29 = .ok (.iload_n 1, 1) := by decide +kernel
theorem dX6_statement_30 : decode cX6_statement 30 = .ok (.bipush 120, 2) := by decide +kernel
theorem dX6_statement_32 : decode cX6_statement 32 = .ok (.if_icmp .eq 11, 3) := by decide +kernel
theorem dX6_statement_35 : decode cX6_statement 35 = .ok (.iload_n 1, 1) := by decide +kernel
theorem dX6_statement_36 : decode cX6_statement 36 = .ok (.bipush 109, 2) := by decide +kernel
theorem dX6_statement_38 : decode cX6_statement 38 = .ok (.if_icmp .eq 5, 3) := by decide +kernel
theorem dX6_statement_41 : decode cX6_statement 41 = .ok (.iconst 0, 1) := by decide +kernel
theorem dX6_statement_42 : decode cX6_statement 42 = .ok (.ireturn, 1) := by decide +kernel
theorem dX6_statement_43 : decode cX6_statement 43 = .ok (.aload_n 0, 1) := by decide +kernel
theorem dX6_statement_44 : decode cX6_statement 44 = .ok (.getfield 34, 3) := by decide +kernel
theorem dX6_statement_47 : decode cX6_statement 47 = .ok (.aload_n 0, 1) := by decide +kernel
theorem dX6_statement_48 : decode cX6_statement 48 = .ok (.getfield 97, 3) := by decide +kernel
theorem dX6_statement_51 : decode cX6_statement 51 = .ok (.iload_n 1, 1) := by decide +kernel
theorem dX6_statement_52 : decode cX6_statement 52 = .ok (.iastore, 1) := by decide +kernel
theorem dX6_statement_53 : decode cX6_statement 53 = .ok (.aload_n 0, 1) := by decide +kernel
theorem dX6_statement_54 : decode cX6_statement 54 = .ok (.getfield 37, 3) := by decide +kernel
theorem dX6_statement_57 : decode cX6_statement 57 = .ok (.aload_n 0, 1) := by decide +kernel
theorem dX6_statement_58 : decode cX6_statement 58 = .ok (.getfield 97, 3) := by decide +kernel
theorem dX6_statement_61 : decode cX6_statement 61 = .ok (.aload_n 0, 1) := by decide +kernel
theorem dX6_statement_62 : decode cX6_statement 62 = .ok (.getfield 75, 3) := by decide +kernel
theorem dX6_statement_65 : decode cX6_statement 65 = .ok (.iastore, 1) := by decide +kernel
theorem dX6_statement_66 : decode cX6_statement 66 = .ok (.aload_n 0, 1) := by decide +kernel
theorem dX6_statement_67 : decode cX6_statement 67 = .ok (.dup, 1) := by decide +kernel
theorem dX6_statement_68 : decode cX6_statement 68 = .ok (.getfield 75, 3) := by decide +kernel
theorem dX6_statement_71 : decode cX6_statement 71 = .ok (.iconst 1, 1) := by decide +kernel
theorem dX6_statement_72 : decode cX6_statement 72 = .ok (.iadd, 1) := by decide +kernel
theorem dX6_statement_73 : decode cX6_statement 73 = .ok (.putfield 75, 3) := by decide +kernel
theorem dX6_statement_76 : decode cX6_statement 76 = .ok (.aload_n 0, 1) := by decide +kernel
theorem dX6_statement_77 : decode cX6_statement 77 = .ok (.iload_n 1, 1) := by decide +kernel
theorem dX6_statement_78 : decode cX6_statement 78 = .ok (.iconst 4, 1) := by decide +kernel
theorem dX6_statement_79 : decode cX6_statement 79 = .ok (.aload_n 0, 1) := by decide +kernel
theorem dX6_statement_80 : decode cX6_statement 80 = .ok (.getfield 97, 3) := by decide +kernel
theorem dX6_statement_83 : decode cX6_statement 83 = .ok (.imul, 1) := by decide +kernel
theorem dX6_statement_84 : decode cX6_statement 84 = .ok (.invokevirtual 100, 3) := by decide +kernel
theorem dX6_statement_87 : decode cX6_statement 87 = .ok (.ifCond .eq 12, 3) := by decide +kernel
theorem dX6_statement_90 : decode cX6_statement 90 = .ok (.aload_n 0, 1) := by decide +kernel
theorem dX6_statement_91 : decode cX6_statement 91 = .ok (.invokevirtual 78, 3) := by decide +kernel
theorem dX6_statement_94 : decode cX6_statement 94 = .ok (.bipush 59, 2) := by decide +kernel
theorem dX6_statement_96 : decode cX6_statement 96 = .ok (.if_icmp .eq 5, 3) := by decide +kernel
theorem dX6_statement_99 : decode cX6_statement 99 = .ok (.iconst 0, 1) := by decide +kernel
theorem dX6_statement_100 : decode cX6_statement 100 = .ok (.ireturn, 1) := by decide +kernel
theorem dX6_statement_101 : decode cX6_statement 101 = .ok (.aload_n 0, 1) := by decide +kernel
theorem dX6_statement_102 : decode cX6_statement 102 = .ok (.dup, 1) := by decide +kernel
theorem dX6_statement_103 : decode cX6_statement 103 = .ok (.getfield 75, 3) := by decide +kernel
theorem dX6_statement_106 : decode cX6_statement 106 = .ok (.iconst 1, 1) := by decide +kernel
theorem dX6_statement_107 : decode cX6_statement 107 = .ok (.iadd, 1) := by decide +kernel
theorem dX6_statement_108 : decode cX6_statement 108 = .ok (.putfield 75, 3) := by decide +kernel
theorem dX6_statement_111 : decode cX6_statement 111 = .ok (.iconst 1, 1) := by decide +kernel
theorem dX6_statement_112 : decode cX6_statement 112 = .ok (.ireturn, 1) := by decide +kernel
def rmX6_statement : Room := { frames := 4, cells := 0, slots := 0, locals := 89 }
abbrev wsX6_statement : List Cond := .code yX6_statement cX6_statement 2 (some .boolean) :: gw_tbl
def kX6_statement_101 : pProg := (101, 1, a_aload 0) :: (102, 1, a_dup) :: (103, 3, a_getf 0 4 14) :: (106, 1, a_iconst 1) :: (107, 1, a_iadd) :: (108, 3, a_putf 0 4 14 .int) :: (111, 1, a_iconst 1) :: (112, 1, a_zret) :: []
def kX6_statement_99 : pProg := (99, 1, a_iconst 0) :: (100, 1, a_zret) :: []
def kX6_statement_43 : pProg := (43, 1, a_aload 0) :: (44, 3, a_getf 0 4 10) :: (47, 1, a_aload 0) :: (48, 3, a_getf 0 4 15) :: (51, 1, a_iload 1) :: (52, 1, a_iast 9) :: (53, 1, a_aload 0) :: (54, 3, a_getf 0 4 11) :: (57, 1, a_aload 0) :: (58, 3, a_getf 0 4 15) :: (61, 1, a_aload 0) :: (62, 3, a_getf 0 4 14) :: (65, 1, a_iast 10) :: (66, 1, a_aload 0) :: (67, 1, a_dup) :: (68, 3, a_getf 0 4 14) :: (71, 1, a_iconst 1) :: (72, 1, a_iadd) :: (73, 3, a_putf 0 4 14 .int) :: (76, 1, a_aload 0) :: (77, 1, a_iload 1) :: (78, 1, a_iconst 4) :: (79, 1, a_aload 0) :: (80, 3, a_getf 0 4 15) :: (83, 1, a_imul) :: (84, 3, a_callv 3 4 [0, 1, 2, 3, 4, 5, 6, 7, 8, 9, 10, 11, 12, 13, 14, 15, 16] tX6_readsAll) :: (87, 3, a_if_eq 99) :: (90, 1, a_aload 0) :: (91, 3, a_callv 1 4 [0, 1, 2, 3, 4, 5, 6, 7, 8, 9, 10, 11, 12, 13, 14, 15, 16] tX6_letterNow) :: (94, 2, a_iconst 59) :: (96, 3, a_icmp_eq 101) :: (99, 0, a_fall 99) :: []
def kX6_statement_0 : pProg := (0, 1, a_aload 0) :: (1, 3, a_callv 1 4 [0, 1, 2, 3, 4, 5, 6, 7, 8, 9, 10, 11, 12, 13, 14, 15, 16] tX6_letterNow) :: (4, 1, a_istore 1) :: (5, 1, a_iload 1) :: (6, 2, a_iconst 98) :: (8, 3, a_icmp_eq 43) :: (11, 1, a_iload 1) :: (12, 2, a_iconst 112) :: (14, 3, a_icmp_eq 43) :: (17, 1, a_iload 1) :: (18, 2, a_iconst 97) :: (20, 3, a_icmp_eq 43) :: (23, 1, a_iload 1) :: (24, 2, a_iconst 116) :: (26, 3, a_icmp_eq 43) :: (29, 1, a_iload 1) :: (30, 2, a_iconst 120) :: (32, 3, a_icmp_eq 43) :: (35, 1, a_iload 1) :: (36, 2, a_iconst 109) :: (38, 3, a_icmp_eq 43) :: (41, 1, a_iconst 0) :: (42, 1, a_zret) :: []
set_option maxRecDepth 100000 in
theorem sX6_statement_101 (l : Launch) : AllS (pSnd l rmX6_statement yX6_statement.cls cX6_statement wsX6_statement 2 (some .boolean)) 101 kX6_statement_101 :=
  alls _ (s_aload_n rfl dX6_statement_101) <|
  alls _ (s_dup dX6_statement_102) <|
  alls _ (s_getf (C := RX6) (T := TX6) (N := 29) rfl (in_c inX6) (by decide) (List.mem_cons_of_mem _ wd_761) rfl dX6_statement_103) <|
  alls _ (s_iconst dX6_statement_106) <|
  alls _ (s_iadd dX6_statement_107) <|
  alls _ (s_putf (C := RX6) (T := TX6) (N := 29) tyX6 rfl (in_c inX6) tyX6_ok nmX6 (by decide) (List.mem_cons_of_mem _ wd_761) rfl rfl (tyX6_ok 14 (by decide)) dX6_statement_108) <|
  alls _ (s_iconst dX6_statement_111) <|
  alls _ (s_zret dX6_statement_112) <|
  alls_nil _
set_option maxRecDepth 100000 in
theorem sX6_statement_99 (l : Launch) : AllS (pSnd l rmX6_statement yX6_statement.cls cX6_statement wsX6_statement 2 (some .boolean)) 99 kX6_statement_99 :=
  alls _ (s_iconst dX6_statement_99) <|
  alls _ (s_zret dX6_statement_100) <|
  alls_nil _
set_option maxRecDepth 100000 in
theorem sX6_statement_43 (l : Launch) : AllS (pSnd l rmX6_statement yX6_statement.cls cX6_statement wsX6_statement 2 (some .boolean)) 43 kX6_statement_43 :=
  alls _ (s_aload_n rfl dX6_statement_43) <|
  alls _ (s_getf (C := RX6) (T := TX6) (N := 29) rfl (in_c inX6) (by decide) (List.mem_cons_of_mem _ wd_757) rfl dX6_statement_44) <|
  alls _ (s_aload_n rfl dX6_statement_47) <|
  alls _ (s_getf (C := RX6) (T := TX6) (N := 29) rfl (in_c inX6) (by decide) (List.mem_cons_of_mem _ wd_762) rfl dX6_statement_48) <|
  alls _ (s_iload_n rfl dX6_statement_51) <|
  alls _ (s_iast dX6_statement_52) <|
  alls _ (s_aload_n rfl dX6_statement_53) <|
  alls _ (s_getf (C := RX6) (T := TX6) (N := 29) rfl (in_c inX6) (by decide) (List.mem_cons_of_mem _ wd_758) rfl dX6_statement_54) <|
  alls _ (s_aload_n rfl dX6_statement_57) <|
  alls _ (s_getf (C := RX6) (T := TX6) (N := 29) rfl (in_c inX6) (by decide) (List.mem_cons_of_mem _ wd_762) rfl dX6_statement_58) <|
  alls _ (s_aload_n rfl dX6_statement_61) <|
  alls _ (s_getf (C := RX6) (T := TX6) (N := 29) rfl (in_c inX6) (by decide) (List.mem_cons_of_mem _ wd_761) rfl dX6_statement_62) <|
  alls _ (s_iast dX6_statement_65) <|
  alls _ (s_aload_n rfl dX6_statement_66) <|
  alls _ (s_dup dX6_statement_67) <|
  alls _ (s_getf (C := RX6) (T := TX6) (N := 29) rfl (in_c inX6) (by decide) (List.mem_cons_of_mem _ wd_761) rfl dX6_statement_68) <|
  alls _ (s_iconst dX6_statement_71) <|
  alls _ (s_iadd dX6_statement_72) <|
  alls _ (s_putf (C := RX6) (T := TX6) (N := 29) tyX6 rfl (in_c inX6) tyX6_ok nmX6 (by decide) (List.mem_cons_of_mem _ wd_761) rfl rfl (tyX6_ok 14 (by decide)) dX6_statement_73) <|
  alls _ (s_aload_n rfl dX6_statement_76) <|
  alls _ (s_iload_n rfl dX6_statement_77) <|
  alls _ (s_iconst dX6_statement_78) <|
  alls _ (s_aload_n rfl dX6_statement_79) <|
  alls _ (s_getf (C := RX6) (T := TX6) (N := 29) rfl (in_c inX6) (by decide) (List.mem_cons_of_mem _ wd_762) rfl dX6_statement_80) <|
  alls _ (s_imul dX6_statement_83) <|
  alls _ (s_callv (ct_X6_readsAll l) rfl rfl rfl (gdV wd_858 wd_860 wd_14 wd_65 wd_861) rfl rfl (by decide +kernel) ⟨Nat.le_of_ble_eq_true rfl, Nat.le_of_ble_eq_true rfl⟩ dX6_statement_84) <|
  alls _ (s_if_eq (by decide) dX6_statement_87) <|
  alls _ (s_aload_n rfl dX6_statement_90) <|
  alls _ (s_callv (ct_X6_letterNow l) rfl rfl rfl (gdV wd_854 wd_856 wd_13 wd_65 wd_857) rfl rfl (by decide +kernel) ⟨Nat.le_of_ble_eq_true rfl, Nat.le_of_ble_eq_true rfl⟩ dX6_statement_91) <|
  alls _ (s_bipush (by decide) dX6_statement_94) <|
  alls _ (s_icmp_eq (by decide) dX6_statement_96) <|
  alls _ s_fall (alls_nil _)
set_option maxRecDepth 100000 in
theorem sX6_statement_0 (l : Launch) : AllS (pSnd l rmX6_statement yX6_statement.cls cX6_statement wsX6_statement 2 (some .boolean)) 0 kX6_statement_0 :=
  alls _ (s_aload_n rfl dX6_statement_0) <|
  alls _ (s_callv (ct_X6_letterNow l) rfl rfl rfl (gdV wd_854 wd_856 wd_13 wd_65 wd_857) rfl rfl (by decide +kernel) ⟨Nat.le_of_ble_eq_true rfl, Nat.le_of_ble_eq_true rfl⟩ dX6_statement_1) <|
  alls _ (s_istore_n rfl dX6_statement_4) <|
  alls _ (s_iload_n rfl dX6_statement_5) <|
  alls _ (s_bipush (by decide) dX6_statement_6) <|
  alls _ (s_icmp_eq (by decide) dX6_statement_8) <|
  alls _ (s_iload_n rfl dX6_statement_11) <|
  alls _ (s_bipush (by decide) dX6_statement_12) <|
  alls _ (s_icmp_eq (by decide) dX6_statement_14) <|
  alls _ (s_iload_n rfl dX6_statement_17) <|
  alls _ (s_bipush (by decide) dX6_statement_18) <|
  alls _ (s_icmp_eq (by decide) dX6_statement_20) <|
  alls _ (s_iload_n rfl dX6_statement_23) <|
  alls _ (s_bipush (by decide) dX6_statement_24) <|
  alls _ (s_icmp_eq (by decide) dX6_statement_26) <|
  alls _ (s_iload_n rfl dX6_statement_29) <|
  alls _ (s_bipush (by decide) dX6_statement_30) <|
  alls _ (s_icmp_eq (by decide) dX6_statement_32) <|
  alls _ (s_iload_n rfl dX6_statement_35) <|
  alls _ (s_bipush (by decide) dX6_statement_36) <|
  alls _ (s_icmp_eq (by decide) dX6_statement_38) <|
  alls _ (s_iconst dX6_statement_41) <|
  alls _ (s_zret dX6_statement_42) <|
  alls_nil _
def KX6_statement : List (Nat × pProg) := [(0, kX6_statement_0), (43, kX6_statement_43), (99, kX6_statement_99), (101, kX6_statement_101)]
theorem bX6_statement_0 : blkOf KX6_statement 0 = some kX6_statement_0 := rfl
theorem bX6_statement_43 : blkOf KX6_statement 43 = some kX6_statement_43 := rfl
theorem bX6_statement_99 : blkOf KX6_statement 99 = some kX6_statement_99 := rfl
theorem bX6_statement_101 : blkOf KX6_statement 101 = some kX6_statement_101 := rfl
def tX6_statement : pT := pM KX6_statement 2
theorem ct_X6_statement (l : Launch) : pCtr l yX6_statement wsX6_statement rmX6_statement 1 tX6_statement := ctr_of (by decide +kernel) rfl (List.forall_mem_cons.mpr ⟨sX6_statement_0 l, List.forall_mem_cons.mpr ⟨sX6_statement_43 l, List.forall_mem_cons.mpr ⟨sX6_statement_99 l, List.forall_mem_cons.mpr ⟨sX6_statement_101 l, fun _ h => absurd h List.not_mem_nil⟩⟩⟩⟩)
theorem dX6_passes_0 : decode cX6_passes 0 = .ok (.iconst 0, 1) := by decide +kernel
theorem dX6_passes_1 : decode cX6_passes 1 = .ok (.istore_n 2, 1) := by decide +kernel
theorem dX6_passes_2 : decode cX6_passes 2 = .ok (.iload_n 2, 1) := by decide +kernel
theorem dX6_passes_3 : decode cX6_passes 3 = .ok (.aload_n 1, 1) := by decide +kernel
theorem dX6_passes_4 : decode cX6_passes 4 = .ok (.arraylength, 1) := by decide +kernel
theorem dX6_passes_5 : decode cX6_passes 5 = .ok (.if_icmp .ge 53, 3) := by decide +kernel
theorem dX6_passes_8 : decode cX6_passes 8 = .ok (.aload_n 0, 1) := by decide +kernel
theorem dX6_passes_9 : decode cX6_passes 9 = .ok (.getfield 149, 3) := by decide +kernel
theorem dX6_passes_12 : decode cX6_passes 12 = .ok (.ifCond .eq 18, 3) := by decide +kernel
theorem dX6_passes_15 : decode cX6_passes 15 = .ok (.aload_n 0, 1) := by decide +kernel
theorem dX6_passes_16 : decode cX6_passes 16 = .ok (.getfield 43, 3) := by decide +kernel
theorem dX6_passes_19 : decode cX6_passes 19 = .ok (.aload_n 0, 1) := by decide +kernel
theorem dX6_passes_20 : decode cX6_passes 20 = .ok (.getfield 153, 3) := by decide +kernel
theorem dX6_passes_23 : decode cX6_passes 23 = .ok (.aload_n 1, 1) := by decide +kernel
theorem dX6_passes_24 : decode cX6_passes 24 = .ok (.iload_n 2, 1) := by decide +kernel
theorem dX6_passes_25 : decode cX6_passes 25 = .ok (.iaload, 1) := by decide +kernel
theorem dX6_passes_26 : decode cX6_passes 26 = .ok (.iastore, 1) := by decide +kernel
theorem dX6_passes_27 : decode cX6_passes 27 = .ok (.goto 15, 3) := by decide +kernel
theorem dX6_passes_30 : decode cX6_passes 30 = .ok (.aload_n 1, 1) := by decide +kernel
theorem dX6_passes_31 : decode cX6_passes 31 = .ok (.iload_n 2, 1) := by decide +kernel
theorem dX6_passes_32 : decode cX6_passes 32 = .ok (.aload_n 0, 1) := by decide +kernel
theorem dX6_passes_33 : decode cX6_passes 33 = .ok (.getfield 43, 3) := by decide +kernel
theorem dX6_passes_36 : decode cX6_passes 36 = .ok (.aload_n 0, 1) := by decide +kernel
theorem dX6_passes_37 : decode cX6_passes 37 = .ok (.getfield 153, 3) := by decide +kernel
theorem dX6_passes_40 : decode cX6_passes 40 = .ok (.iaload, 1) := by decide +kernel
theorem dX6_passes_41 : decode cX6_passes 41 = .ok (.iastore, 1) := by decide +kernel
theorem dX6_passes_42 : decode cX6_passes 42 = .ok (.aload_n 0, 1) := by decide +kernel
theorem dX6_passes_43 : decode cX6_passes 43 = .ok (.dup, 1) := by decide +kernel
theorem dX6_passes_44 : decode cX6_passes 44 = .ok (.getfield 153, 3) := by decide +kernel
theorem dX6_passes_47 : decode cX6_passes 47 = .ok (.iconst 1, 1) := by decide +kernel
theorem dX6_passes_48 : decode cX6_passes 48 = .ok (.iadd, 1) := by decide +kernel
theorem dX6_passes_49 : decode cX6_passes 49 = .ok (.putfield 153, 3) := by decide +kernel
theorem dX6_passes_52 : decode cX6_passes 52 = .ok (.iinc 2 1, 3) := by decide +kernel
theorem dX6_passes_55 : decode cX6_passes 55 = .ok (.goto (-53), 3) := by decide +kernel
theorem dX6_passes_58 : decode cX6_passes 58 = .ok (.return_, 1) := by decide +kernel
def rmX6_passes : Room := { frames := 0, cells := 0, slots := 0, locals := 0 }
abbrev wsX6_passes : List Cond := .code yX6_passes cX6_passes 3 none :: gw_tbl
def kX6_passes_58 : pProg := (58, 1, a_vret) :: []
def kX6_passes_42 : pProg := (42, 1, a_aload 0) :: (43, 1, a_dup) :: (44, 3, a_getf 0 4 19) :: (47, 1, a_iconst 1) :: (48, 1, a_iadd) :: (49, 3, a_putf 0 4 19 .int) :: (52, 3, a_iinc 2 1) :: (55, 3, a_goto 2) :: []
def kX6_passes_30 : pProg := (30, 1, a_aload 1) :: (31, 1, a_iload 2) :: (32, 1, a_aload 0) :: (33, 3, a_getf 0 4 16) :: (36, 1, a_aload 0) :: (37, 3, a_getf 0 4 19) :: (40, 1, a_iald 12) :: (41, 1, a_iast 2) :: (42, 0, a_fall 42) :: []
def kX6_passes_2 : pProg := (2, 1, a_iload 2) :: (3, 1, a_aload 1) :: (4, 1, a_alen 2) :: (5, 3, a_icmp_ge 58) :: (8, 1, a_aload 0) :: (9, 3, a_getf 0 4 18) :: (12, 3, a_if_eq 30) :: (15, 1, a_aload 0) :: (16, 3, a_getf 0 4 16) :: (19, 1, a_aload 0) :: (20, 3, a_getf 0 4 19) :: (23, 1, a_aload 1) :: (24, 1, a_iload 2) :: (25, 1, a_iald 2) :: (26, 1, a_iast 12) :: (27, 3, a_goto 42) :: []
def kX6_passes_0 : pProg := (0, 1, a_iconst 0) :: (1, 1, a_istore 2) :: (2, 0, a_fall 2) :: []
set_option maxRecDepth 100000 in
theorem sX6_passes_58 (l : Launch) : AllS (pSnd l rmX6_passes yX6_passes.cls cX6_passes wsX6_passes 3 none) 58 kX6_passes_58 :=
  alls _ (s_vret dX6_passes_58) <|
  alls_nil _
set_option maxRecDepth 100000 in
theorem sX6_passes_42 (l : Launch) : AllS (pSnd l rmX6_passes yX6_passes.cls cX6_passes wsX6_passes 3 none) 42 kX6_passes_42 :=
  alls _ (s_aload_n rfl dX6_passes_42) <|
  alls _ (s_dup dX6_passes_43) <|
  alls _ (s_getf (C := RX6) (T := TX6) (N := 29) rfl (in_c inX6) (by decide) (List.mem_cons_of_mem _ wd_766) rfl dX6_passes_44) <|
  alls _ (s_iconst dX6_passes_47) <|
  alls _ (s_iadd dX6_passes_48) <|
  alls _ (s_putf (C := RX6) (T := TX6) (N := 29) tyX6 rfl (in_c inX6) tyX6_ok nmX6 (by decide) (List.mem_cons_of_mem _ wd_766) rfl rfl (tyX6_ok 19 (by decide)) dX6_passes_49) <|
  alls _ (s_iinc dX6_passes_52) <|
  alls _ (s_goto (by decide) dX6_passes_55) <|
  alls_nil _
set_option maxRecDepth 100000 in
theorem sX6_passes_30 (l : Launch) : AllS (pSnd l rmX6_passes yX6_passes.cls cX6_passes wsX6_passes 3 none) 30 kX6_passes_30 :=
  alls _ (s_aload_n rfl dX6_passes_30) <|
  alls _ (s_iload_n rfl dX6_passes_31) <|
  alls _ (s_aload_n rfl dX6_passes_32) <|
  alls _ (s_getf (C := RX6) (T := TX6) (N := 29) rfl (in_c inX6) (by decide) (List.mem_cons_of_mem _ wd_763) rfl dX6_passes_33) <|
  alls _ (s_aload_n rfl dX6_passes_36) <|
  alls _ (s_getf (C := RX6) (T := TX6) (N := 29) rfl (in_c inX6) (by decide) (List.mem_cons_of_mem _ wd_766) rfl dX6_passes_37) <|
  alls _ (s_iald dX6_passes_40) <|
  alls _ (s_iast dX6_passes_41) <|
  alls _ s_fall (alls_nil _)
set_option maxRecDepth 100000 in
theorem sX6_passes_2 (l : Launch) : AllS (pSnd l rmX6_passes yX6_passes.cls cX6_passes wsX6_passes 3 none) 2 kX6_passes_2 :=
  alls _ (s_iload_n rfl dX6_passes_2) <|
  alls _ (s_aload_n rfl dX6_passes_3) <|
  alls _ (s_alen dX6_passes_4) <|
  alls _ (s_icmp_ge (by decide) dX6_passes_5) <|
  alls _ (s_aload_n rfl dX6_passes_8) <|
  alls _ (s_getf (C := RX6) (T := TX6) (N := 29) rfl (in_c inX6) (by decide) (List.mem_cons_of_mem _ wd_765) rfl dX6_passes_9) <|
  alls _ (s_if_eq (by decide) dX6_passes_12) <|
  alls _ (s_aload_n rfl dX6_passes_15) <|
  alls _ (s_getf (C := RX6) (T := TX6) (N := 29) rfl (in_c inX6) (by decide) (List.mem_cons_of_mem _ wd_763) rfl dX6_passes_16) <|
  alls _ (s_aload_n rfl dX6_passes_19) <|
  alls _ (s_getf (C := RX6) (T := TX6) (N := 29) rfl (in_c inX6) (by decide) (List.mem_cons_of_mem _ wd_766) rfl dX6_passes_20) <|
  alls _ (s_aload_n rfl dX6_passes_23) <|
  alls _ (s_iload_n rfl dX6_passes_24) <|
  alls _ (s_iald dX6_passes_25) <|
  alls _ (s_iast dX6_passes_26) <|
  alls _ (s_goto (by decide) dX6_passes_27) <|
  alls_nil _
set_option maxRecDepth 100000 in
theorem sX6_passes_0 (l : Launch) : AllS (pSnd l rmX6_passes yX6_passes.cls cX6_passes wsX6_passes 3 none) 0 kX6_passes_0 :=
  alls _ (s_iconst dX6_passes_0) <|
  alls _ (s_istore_n rfl dX6_passes_1) <|
  alls _ s_fall (alls_nil _)
def KX6_passes : List (Nat × pProg) := [(0, kX6_passes_0), (2, kX6_passes_2), (30, kX6_passes_30), (42, kX6_passes_42), (58, kX6_passes_58)]
theorem bX6_passes_0 : blkOf KX6_passes 0 = some kX6_passes_0 := rfl
theorem bX6_passes_2 : blkOf KX6_passes 2 = some kX6_passes_2 := rfl
theorem bX6_passes_30 : blkOf KX6_passes 30 = some kX6_passes_30 := rfl
theorem bX6_passes_42 : blkOf KX6_passes 42 = some kX6_passes_42 := rfl
theorem bX6_passes_58 : blkOf KX6_passes 58 = some kX6_passes_58 := rfl
def tX6_passes : pT := pM KX6_passes 3
theorem ct_X6_passes (l : Launch) : pCtr l yX6_passes wsX6_passes rmX6_passes 2 tX6_passes := ctr_of (by decide +kernel) rfl (List.forall_mem_cons.mpr ⟨sX6_passes_0 l, List.forall_mem_cons.mpr ⟨sX6_passes_2 l, List.forall_mem_cons.mpr ⟨sX6_passes_30 l, List.forall_mem_cons.mpr ⟨sX6_passes_42 l, List.forall_mem_cons.mpr ⟨sX6_passes_58 l, fun _ h => absurd h List.not_mem_nil⟩⟩⟩⟩⟩)
def rmX6_passes_p0_3 : Room := { frames := 0, cells := 0, slots := 0, locals := 0 }
abbrev wsX6_passes_p0_3 : List Cond := .code yX6_passes cX6_passes 3 none :: gw_tbl
def kX6_passes_p0_3_58 : pProg := (58, 1, a_vret) :: []
def kX6_passes_p0_3_42 : pProg := (42, 1, a_aload 0) :: (43, 1, a_dup) :: (44, 3, a_getf 0 4 19) :: (47, 1, a_iconst 1) :: (48, 1, a_iadd) :: (49, 3, a_putf 0 4 19 .int) :: (52, 3, a_iinc 2 1) :: (55, 3, a_goto 2) :: []
def kX6_passes_p0_3_30 : pProg := (30, 1, a_aload 1) :: (31, 1, a_iload 2) :: (32, 1, a_aload 0) :: (33, 3, a_getf 0 4 16) :: (36, 1, a_aload 0) :: (37, 3, a_getf 0 4 19) :: (40, 1, a_iald 12) :: (41, 1, a_iast 3) :: (42, 0, a_fall 42) :: []
def kX6_passes_p0_3_2 : pProg := (2, 1, a_iload 2) :: (3, 1, a_aload 1) :: (4, 1, a_alen 3) :: (5, 3, a_icmp_ge 58) :: (8, 1, a_aload 0) :: (9, 3, a_getf 0 4 18) :: (12, 3, a_if_eq 30) :: (15, 1, a_aload 0) :: (16, 3, a_getf 0 4 16) :: (19, 1, a_aload 0) :: (20, 3, a_getf 0 4 19) :: (23, 1, a_aload 1) :: (24, 1, a_iload 2) :: (25, 1, a_iald 3) :: (26, 1, a_iast 12) :: (27, 3, a_goto 42) :: []
def kX6_passes_p0_3_0 : pProg := (0, 1, a_iconst 0) :: (1, 1, a_istore 2) :: (2, 0, a_fall 2) :: []
set_option maxRecDepth 100000 in
theorem sX6_passes_p0_3_58 (l : Launch) : AllS (pSnd l rmX6_passes_p0_3 yX6_passes.cls cX6_passes wsX6_passes_p0_3 3 none) 58 kX6_passes_p0_3_58 :=
  alls _ (s_vret dX6_passes_58) <|
  alls_nil _
set_option maxRecDepth 100000 in
theorem sX6_passes_p0_3_42 (l : Launch) : AllS (pSnd l rmX6_passes_p0_3 yX6_passes.cls cX6_passes wsX6_passes_p0_3 3 none) 42 kX6_passes_p0_3_42 :=
  alls _ (s_aload_n rfl dX6_passes_42) <|
  alls _ (s_dup dX6_passes_43) <|
  alls _ (s_getf (C := RX6) (T := TX6) (N := 29) rfl (in_c inX6) (by decide) (List.mem_cons_of_mem _ wd_766) rfl dX6_passes_44) <|
  alls _ (s_iconst dX6_passes_47) <|
  alls _ (s_iadd dX6_passes_48) <|
  alls _ (s_putf (C := RX6) (T := TX6) (N := 29) tyX6 rfl (in_c inX6) tyX6_ok nmX6 (by decide) (List.mem_cons_of_mem _ wd_766) rfl rfl (tyX6_ok 19 (by decide)) dX6_passes_49) <|
  alls _ (s_iinc dX6_passes_52) <|
  alls _ (s_goto (by decide) dX6_passes_55) <|
  alls_nil _
set_option maxRecDepth 100000 in
theorem sX6_passes_p0_3_30 (l : Launch) : AllS (pSnd l rmX6_passes_p0_3 yX6_passes.cls cX6_passes wsX6_passes_p0_3 3 none) 30 kX6_passes_p0_3_30 :=
  alls _ (s_aload_n rfl dX6_passes_30) <|
  alls _ (s_iload_n rfl dX6_passes_31) <|
  alls _ (s_aload_n rfl dX6_passes_32) <|
  alls _ (s_getf (C := RX6) (T := TX6) (N := 29) rfl (in_c inX6) (by decide) (List.mem_cons_of_mem _ wd_763) rfl dX6_passes_33) <|
  alls _ (s_aload_n rfl dX6_passes_36) <|
  alls _ (s_getf (C := RX6) (T := TX6) (N := 29) rfl (in_c inX6) (by decide) (List.mem_cons_of_mem _ wd_766) rfl dX6_passes_37) <|
  alls _ (s_iald dX6_passes_40) <|
  alls _ (s_iast dX6_passes_41) <|
  alls _ s_fall (alls_nil _)
set_option maxRecDepth 100000 in
theorem sX6_passes_p0_3_2 (l : Launch) : AllS (pSnd l rmX6_passes_p0_3 yX6_passes.cls cX6_passes wsX6_passes_p0_3 3 none) 2 kX6_passes_p0_3_2 :=
  alls _ (s_iload_n rfl dX6_passes_2) <|
  alls _ (s_aload_n rfl dX6_passes_3) <|
  alls _ (s_alen dX6_passes_4) <|
  alls _ (s_icmp_ge (by decide) dX6_passes_5) <|
  alls _ (s_aload_n rfl dX6_passes_8) <|
  alls _ (s_getf (C := RX6) (T := TX6) (N := 29) rfl (in_c inX6) (by decide) (List.mem_cons_of_mem _ wd_765) rfl dX6_passes_9) <|
  alls _ (s_if_eq (by decide) dX6_passes_12) <|
  alls _ (s_aload_n rfl dX6_passes_15) <|
  alls _ (s_getf (C := RX6) (T := TX6) (N := 29) rfl (in_c inX6) (by decide) (List.mem_cons_of_mem _ wd_763) rfl dX6_passes_16) <|
  alls _ (s_aload_n rfl dX6_passes_19) <|
  alls _ (s_getf (C := RX6) (T := TX6) (N := 29) rfl (in_c inX6) (by decide) (List.mem_cons_of_mem _ wd_766) rfl dX6_passes_20) <|
  alls _ (s_aload_n rfl dX6_passes_23) <|
  alls _ (s_iload_n rfl dX6_passes_24) <|
  alls _ (s_iald dX6_passes_25) <|
  alls _ (s_iast dX6_passes_26) <|
  alls _ (s_goto (by decide) dX6_passes_27) <|
  alls_nil _
set_option maxRecDepth 100000 in
theorem sX6_passes_p0_3_0 (l : Launch) : AllS (pSnd l rmX6_passes_p0_3 yX6_passes.cls cX6_passes wsX6_passes_p0_3 3 none) 0 kX6_passes_p0_3_0 :=
  alls _ (s_iconst dX6_passes_0) <|
  alls _ (s_istore_n rfl dX6_passes_1) <|
  alls _ s_fall (alls_nil _)
def KX6_passes_p0_3 : List (Nat × pProg) := [(0, kX6_passes_p0_3_0), (2, kX6_passes_p0_3_2), (30, kX6_passes_p0_3_30), (42, kX6_passes_p0_3_42), (58, kX6_passes_p0_3_58)]
theorem bX6_passes_p0_3_0 : blkOf KX6_passes_p0_3 0 = some kX6_passes_p0_3_0 := rfl
theorem bX6_passes_p0_3_2 : blkOf KX6_passes_p0_3 2 = some kX6_passes_p0_3_2 := rfl
theorem bX6_passes_p0_3_30 : blkOf KX6_passes_p0_3 30 = some kX6_passes_p0_3_30 := rfl
theorem bX6_passes_p0_3_42 : blkOf KX6_passes_p0_3 42 = some kX6_passes_p0_3_42 := rfl
theorem bX6_passes_p0_3_58 : blkOf KX6_passes_p0_3 58 = some kX6_passes_p0_3_58 := rfl
def tX6_passes_p0_3 : pT := pM KX6_passes_p0_3 3
theorem ct_X6_passes_p0_3 (l : Launch) : pCtr l yX6_passes wsX6_passes_p0_3 rmX6_passes_p0_3 2 tX6_passes_p0_3 := ctr_of (by decide +kernel) rfl (List.forall_mem_cons.mpr ⟨sX6_passes_p0_3_0 l, List.forall_mem_cons.mpr ⟨sX6_passes_p0_3_2 l, List.forall_mem_cons.mpr ⟨sX6_passes_p0_3_30 l, List.forall_mem_cons.mpr ⟨sX6_passes_p0_3_42 l, List.forall_mem_cons.mpr ⟨sX6_passes_p0_3_58 l, fun _ h => absurd h List.not_mem_nil⟩⟩⟩⟩⟩)
def rmX6_passes_p0_4 : Room := { frames := 0, cells := 0, slots := 0, locals := 0 }
abbrev wsX6_passes_p0_4 : List Cond := .code yX6_passes cX6_passes 3 none :: gw_tbl
def kX6_passes_p0_4_58 : pProg := (58, 1, a_vret) :: []
def kX6_passes_p0_4_42 : pProg := (42, 1, a_aload 0) :: (43, 1, a_dup) :: (44, 3, a_getf 0 4 19) :: (47, 1, a_iconst 1) :: (48, 1, a_iadd) :: (49, 3, a_putf 0 4 19 .int) :: (52, 3, a_iinc 2 1) :: (55, 3, a_goto 2) :: []
def kX6_passes_p0_4_30 : pProg := (30, 1, a_aload 1) :: (31, 1, a_iload 2) :: (32, 1, a_aload 0) :: (33, 3, a_getf 0 4 16) :: (36, 1, a_aload 0) :: (37, 3, a_getf 0 4 19) :: (40, 1, a_iald 12) :: (41, 1, a_iast 4) :: (42, 0, a_fall 42) :: []
def kX6_passes_p0_4_2 : pProg := (2, 1, a_iload 2) :: (3, 1, a_aload 1) :: (4, 1, a_alen 4) :: (5, 3, a_icmp_ge 58) :: (8, 1, a_aload 0) :: (9, 3, a_getf 0 4 18) :: (12, 3, a_if_eq 30) :: (15, 1, a_aload 0) :: (16, 3, a_getf 0 4 16) :: (19, 1, a_aload 0) :: (20, 3, a_getf 0 4 19) :: (23, 1, a_aload 1) :: (24, 1, a_iload 2) :: (25, 1, a_iald 4) :: (26, 1, a_iast 12) :: (27, 3, a_goto 42) :: []
def kX6_passes_p0_4_0 : pProg := (0, 1, a_iconst 0) :: (1, 1, a_istore 2) :: (2, 0, a_fall 2) :: []
set_option maxRecDepth 100000 in
theorem sX6_passes_p0_4_58 (l : Launch) : AllS (pSnd l rmX6_passes_p0_4 yX6_passes.cls cX6_passes wsX6_passes_p0_4 3 none) 58 kX6_passes_p0_4_58 :=
  alls _ (s_vret dX6_passes_58) <|
  alls_nil _
set_option maxRecDepth 100000 in
theorem sX6_passes_p0_4_42 (l : Launch) : AllS (pSnd l rmX6_passes_p0_4 yX6_passes.cls cX6_passes wsX6_passes_p0_4 3 none) 42 kX6_passes_p0_4_42 :=
  alls _ (s_aload_n rfl dX6_passes_42) <|
  alls _ (s_dup dX6_passes_43) <|
  alls _ (s_getf (C := RX6) (T := TX6) (N := 29) rfl (in_c inX6) (by decide) (List.mem_cons_of_mem _ wd_766) rfl dX6_passes_44) <|
  alls _ (s_iconst dX6_passes_47) <|
  alls _ (s_iadd dX6_passes_48) <|
  alls _ (s_putf (C := RX6) (T := TX6) (N := 29) tyX6 rfl (in_c inX6) tyX6_ok nmX6 (by decide) (List.mem_cons_of_mem _ wd_766) rfl rfl (tyX6_ok 19 (by decide)) dX6_passes_49) <|
  alls _ (s_iinc dX6_passes_52) <|
  alls _ (s_goto (by decide) dX6_passes_55) <|
  alls_nil _
set_option maxRecDepth 100000 in
theorem sX6_passes_p0_4_30 (l : Launch) : AllS (pSnd l rmX6_passes_p0_4 yX6_passes.cls cX6_passes wsX6_passes_p0_4 3 none) 30 kX6_passes_p0_4_30 :=
  alls _ (s_aload_n rfl dX6_passes_30) <|
  alls _ (s_iload_n rfl dX6_passes_31) <|
  alls _ (s_aload_n rfl dX6_passes_32) <|
  alls _ (s_getf (C := RX6) (T := TX6) (N := 29) rfl (in_c inX6) (by decide) (List.mem_cons_of_mem _ wd_763) rfl dX6_passes_33) <|
  alls _ (s_aload_n rfl dX6_passes_36) <|
  alls _ (s_getf (C := RX6) (T := TX6) (N := 29) rfl (in_c inX6) (by decide) (List.mem_cons_of_mem _ wd_766) rfl dX6_passes_37) <|
  alls _ (s_iald dX6_passes_40) <|
  alls _ (s_iast dX6_passes_41) <|
  alls _ s_fall (alls_nil _)
set_option maxRecDepth 100000 in
theorem sX6_passes_p0_4_2 (l : Launch) : AllS (pSnd l rmX6_passes_p0_4 yX6_passes.cls cX6_passes wsX6_passes_p0_4 3 none) 2 kX6_passes_p0_4_2 :=
  alls _ (s_iload_n rfl dX6_passes_2) <|
  alls _ (s_aload_n rfl dX6_passes_3) <|
  alls _ (s_alen dX6_passes_4) <|
  alls _ (s_icmp_ge (by decide) dX6_passes_5) <|
  alls _ (s_aload_n rfl dX6_passes_8) <|
  alls _ (s_getf (C := RX6) (T := TX6) (N := 29) rfl (in_c inX6) (by decide) (List.mem_cons_of_mem _ wd_765) rfl dX6_passes_9) <|
  alls _ (s_if_eq (by decide) dX6_passes_12) <|
  alls _ (s_aload_n rfl dX6_passes_15) <|
  alls _ (s_getf (C := RX6) (T := TX6) (N := 29) rfl (in_c inX6) (by decide) (List.mem_cons_of_mem _ wd_763) rfl dX6_passes_16) <|
  alls _ (s_aload_n rfl dX6_passes_19) <|
  alls _ (s_getf (C := RX6) (T := TX6) (N := 29) rfl (in_c inX6) (by decide) (List.mem_cons_of_mem _ wd_766) rfl dX6_passes_20) <|
  alls _ (s_aload_n rfl dX6_passes_23) <|
  alls _ (s_iload_n rfl dX6_passes_24) <|
  alls _ (s_iald dX6_passes_25) <|
  alls _ (s_iast dX6_passes_26) <|
  alls _ (s_goto (by decide) dX6_passes_27) <|
  alls_nil _
set_option maxRecDepth 100000 in
theorem sX6_passes_p0_4_0 (l : Launch) : AllS (pSnd l rmX6_passes_p0_4 yX6_passes.cls cX6_passes wsX6_passes_p0_4 3 none) 0 kX6_passes_p0_4_0 :=
  alls _ (s_iconst dX6_passes_0) <|
  alls _ (s_istore_n rfl dX6_passes_1) <|
  alls _ s_fall (alls_nil _)
def KX6_passes_p0_4 : List (Nat × pProg) := [(0, kX6_passes_p0_4_0), (2, kX6_passes_p0_4_2), (30, kX6_passes_p0_4_30), (42, kX6_passes_p0_4_42), (58, kX6_passes_p0_4_58)]
theorem bX6_passes_p0_4_0 : blkOf KX6_passes_p0_4 0 = some kX6_passes_p0_4_0 := rfl
theorem bX6_passes_p0_4_2 : blkOf KX6_passes_p0_4 2 = some kX6_passes_p0_4_2 := rfl
theorem bX6_passes_p0_4_30 : blkOf KX6_passes_p0_4 30 = some kX6_passes_p0_4_30 := rfl
theorem bX6_passes_p0_4_42 : blkOf KX6_passes_p0_4 42 = some kX6_passes_p0_4_42 := rfl
theorem bX6_passes_p0_4_58 : blkOf KX6_passes_p0_4 58 = some kX6_passes_p0_4_58 := rfl
def tX6_passes_p0_4 : pT := pM KX6_passes_p0_4 3
theorem ct_X6_passes_p0_4 (l : Launch) : pCtr l yX6_passes wsX6_passes_p0_4 rmX6_passes_p0_4 2 tX6_passes_p0_4 := ctr_of (by decide +kernel) rfl (List.forall_mem_cons.mpr ⟨sX6_passes_p0_4_0 l, List.forall_mem_cons.mpr ⟨sX6_passes_p0_4_2 l, List.forall_mem_cons.mpr ⟨sX6_passes_p0_4_30 l, List.forall_mem_cons.mpr ⟨sX6_passes_p0_4_42 l, List.forall_mem_cons.mpr ⟨sX6_passes_p0_4_58 l, fun _ h => absurd h List.not_mem_nil⟩⟩⟩⟩⟩)
def rmX6_passes_p0_5 : Room := { frames := 0, cells := 0, slots := 0, locals := 0 }
abbrev wsX6_passes_p0_5 : List Cond := .code yX6_passes cX6_passes 3 none :: gw_tbl
def kX6_passes_p0_5_58 : pProg := (58, 1, a_vret) :: []
def kX6_passes_p0_5_42 : pProg := (42, 1, a_aload 0) :: (43, 1, a_dup) :: (44, 3, a_getf 0 4 19) :: (47, 1, a_iconst 1) :: (48, 1, a_iadd) :: (49, 3, a_putf 0 4 19 .int) :: (52, 3, a_iinc 2 1) :: (55, 3, a_goto 2) :: []
def kX6_passes_p0_5_30 : pProg := (30, 1, a_aload 1) :: (31, 1, a_iload 2) :: (32, 1, a_aload 0) :: (33, 3, a_getf 0 4 16) :: (36, 1, a_aload 0) :: (37, 3, a_getf 0 4 19) :: (40, 1, a_iald 12) :: (41, 1, a_iast 5) :: (42, 0, a_fall 42) :: []
def kX6_passes_p0_5_2 : pProg := (2, 1, a_iload 2) :: (3, 1, a_aload 1) :: (4, 1, a_alen 5) :: (5, 3, a_icmp_ge 58) :: (8, 1, a_aload 0) :: (9, 3, a_getf 0 4 18) :: (12, 3, a_if_eq 30) :: (15, 1, a_aload 0) :: (16, 3, a_getf 0 4 16) :: (19, 1, a_aload 0) :: (20, 3, a_getf 0 4 19) :: (23, 1, a_aload 1) :: (24, 1, a_iload 2) :: (25, 1, a_iald 5) :: (26, 1, a_iast 12) :: (27, 3, a_goto 42) :: []
def kX6_passes_p0_5_0 : pProg := (0, 1, a_iconst 0) :: (1, 1, a_istore 2) :: (2, 0, a_fall 2) :: []
set_option maxRecDepth 100000 in
theorem sX6_passes_p0_5_58 (l : Launch) : AllS (pSnd l rmX6_passes_p0_5 yX6_passes.cls cX6_passes wsX6_passes_p0_5 3 none) 58 kX6_passes_p0_5_58 :=
  alls _ (s_vret dX6_passes_58) <|
  alls_nil _
set_option maxRecDepth 100000 in
theorem sX6_passes_p0_5_42 (l : Launch) : AllS (pSnd l rmX6_passes_p0_5 yX6_passes.cls cX6_passes wsX6_passes_p0_5 3 none) 42 kX6_passes_p0_5_42 :=
  alls _ (s_aload_n rfl dX6_passes_42) <|
  alls _ (s_dup dX6_passes_43) <|
  alls _ (s_getf (C := RX6) (T := TX6) (N := 29) rfl (in_c inX6) (by decide) (List.mem_cons_of_mem _ wd_766) rfl dX6_passes_44) <|
  alls _ (s_iconst dX6_passes_47) <|
  alls _ (s_iadd dX6_passes_48) <|
  alls _ (s_putf (C := RX6) (T := TX6) (N := 29) tyX6 rfl (in_c inX6) tyX6_ok nmX6 (by decide) (List.mem_cons_of_mem _ wd_766) rfl rfl (tyX6_ok 19 (by decide)) dX6_passes_49) <|
  alls _ (s_iinc dX6_passes_52) <|
  alls _ (s_goto (by decide) dX6_passes_55) <|
  alls_nil _
set_option maxRecDepth 100000 in
theorem sX6_passes_p0_5_30 (l : Launch) : AllS (pSnd l rmX6_passes_p0_5 yX6_passes.cls cX6_passes wsX6_passes_p0_5 3 none) 30 kX6_passes_p0_5_30 :=
  alls _ (s_aload_n rfl dX6_passes_30) <|
  alls _ (s_iload_n rfl dX6_passes_31) <|
  alls _ (s_aload_n rfl dX6_passes_32) <|
  alls _ (s_getf (C := RX6) (T := TX6) (N := 29) rfl (in_c inX6) (by decide) (List.mem_cons_of_mem _ wd_763) rfl dX6_passes_33) <|
  alls _ (s_aload_n rfl dX6_passes_36) <|
  alls _ (s_getf (C := RX6) (T := TX6) (N := 29) rfl (in_c inX6) (by decide) (List.mem_cons_of_mem _ wd_766) rfl dX6_passes_37) <|
  alls _ (s_iald dX6_passes_40) <|
  alls _ (s_iast dX6_passes_41) <|
  alls _ s_fall (alls_nil _)
set_option maxRecDepth 100000 in
theorem sX6_passes_p0_5_2 (l : Launch) : AllS (pSnd l rmX6_passes_p0_5 yX6_passes.cls cX6_passes wsX6_passes_p0_5 3 none) 2 kX6_passes_p0_5_2 :=
  alls _ (s_iload_n rfl dX6_passes_2) <|
  alls _ (s_aload_n rfl dX6_passes_3) <|
  alls _ (s_alen dX6_passes_4) <|
  alls _ (s_icmp_ge (by decide) dX6_passes_5) <|
  alls _ (s_aload_n rfl dX6_passes_8) <|
  alls _ (s_getf (C := RX6) (T := TX6) (N := 29) rfl (in_c inX6) (by decide) (List.mem_cons_of_mem _ wd_765) rfl dX6_passes_9) <|
  alls _ (s_if_eq (by decide) dX6_passes_12) <|
  alls _ (s_aload_n rfl dX6_passes_15) <|
  alls _ (s_getf (C := RX6) (T := TX6) (N := 29) rfl (in_c inX6) (by decide) (List.mem_cons_of_mem _ wd_763) rfl dX6_passes_16) <|
  alls _ (s_aload_n rfl dX6_passes_19) <|
  alls _ (s_getf (C := RX6) (T := TX6) (N := 29) rfl (in_c inX6) (by decide) (List.mem_cons_of_mem _ wd_766) rfl dX6_passes_20) <|
  alls _ (s_aload_n rfl dX6_passes_23) <|
  alls _ (s_iload_n rfl dX6_passes_24) <|
  alls _ (s_iald dX6_passes_25) <|
  alls _ (s_iast dX6_passes_26) <|
  alls _ (s_goto (by decide) dX6_passes_27) <|
  alls_nil _
set_option maxRecDepth 100000 in
theorem sX6_passes_p0_5_0 (l : Launch) : AllS (pSnd l rmX6_passes_p0_5 yX6_passes.cls cX6_passes wsX6_passes_p0_5 3 none) 0 kX6_passes_p0_5_0 :=
  alls _ (s_iconst dX6_passes_0) <|
  alls _ (s_istore_n rfl dX6_passes_1) <|
  alls _ s_fall (alls_nil _)
def KX6_passes_p0_5 : List (Nat × pProg) := [(0, kX6_passes_p0_5_0), (2, kX6_passes_p0_5_2), (30, kX6_passes_p0_5_30), (42, kX6_passes_p0_5_42), (58, kX6_passes_p0_5_58)]
theorem bX6_passes_p0_5_0 : blkOf KX6_passes_p0_5 0 = some kX6_passes_p0_5_0 := rfl
theorem bX6_passes_p0_5_2 : blkOf KX6_passes_p0_5 2 = some kX6_passes_p0_5_2 := rfl
theorem bX6_passes_p0_5_30 : blkOf KX6_passes_p0_5 30 = some kX6_passes_p0_5_30 := rfl
theorem bX6_passes_p0_5_42 : blkOf KX6_passes_p0_5 42 = some kX6_passes_p0_5_42 := rfl
theorem bX6_passes_p0_5_58 : blkOf KX6_passes_p0_5 58 = some kX6_passes_p0_5_58 := rfl
def tX6_passes_p0_5 : pT := pM KX6_passes_p0_5 3
theorem ct_X6_passes_p0_5 (l : Launch) : pCtr l yX6_passes wsX6_passes_p0_5 rmX6_passes_p0_5 2 tX6_passes_p0_5 := ctr_of (by decide +kernel) rfl (List.forall_mem_cons.mpr ⟨sX6_passes_p0_5_0 l, List.forall_mem_cons.mpr ⟨sX6_passes_p0_5_2 l, List.forall_mem_cons.mpr ⟨sX6_passes_p0_5_30 l, List.forall_mem_cons.mpr ⟨sX6_passes_p0_5_42 l, List.forall_mem_cons.mpr ⟨sX6_passes_p0_5_58 l, fun _ h => absurd h List.not_mem_nil⟩⟩⟩⟩⟩)
def rmX6_passes_p0_6 : Room := { frames := 0, cells := 0, slots := 0, locals := 0 }
abbrev wsX6_passes_p0_6 : List Cond := .code yX6_passes cX6_passes 3 none :: gw_tbl
def kX6_passes_p0_6_58 : pProg := (58, 1, a_vret) :: []
def kX6_passes_p0_6_42 : pProg := (42, 1, a_aload 0) :: (43, 1, a_dup) :: (44, 3, a_getf 0 4 19) :: (47, 1, a_iconst 1) :: (48, 1, a_iadd) :: (49, 3, a_putf 0 4 19 .int) :: (52, 3, a_iinc 2 1) :: (55, 3, a_goto 2) :: []
def kX6_passes_p0_6_30 : pProg := (30, 1, a_aload 1) :: (31, 1, a_iload 2) :: (32, 1, a_aload 0) :: (33, 3, a_getf 0 4 16) :: (36, 1, a_aload 0) :: (37, 3, a_getf 0 4 19) :: (40, 1, a_iald 12) :: (41, 1, a_iast 6) :: (42, 0, a_fall 42) :: []
def kX6_passes_p0_6_2 : pProg := (2, 1, a_iload 2) :: (3, 1, a_aload 1) :: (4, 1, a_alen 6) :: (5, 3, a_icmp_ge 58) :: (8, 1, a_aload 0) :: (9, 3, a_getf 0 4 18) :: (12, 3, a_if_eq 30) :: (15, 1, a_aload 0) :: (16, 3, a_getf 0 4 16) :: (19, 1, a_aload 0) :: (20, 3, a_getf 0 4 19) :: (23, 1, a_aload 1) :: (24, 1, a_iload 2) :: (25, 1, a_iald 6) :: (26, 1, a_iast 12) :: (27, 3, a_goto 42) :: []
def kX6_passes_p0_6_0 : pProg := (0, 1, a_iconst 0) :: (1, 1, a_istore 2) :: (2, 0, a_fall 2) :: []
set_option maxRecDepth 100000 in
theorem sX6_passes_p0_6_58 (l : Launch) : AllS (pSnd l rmX6_passes_p0_6 yX6_passes.cls cX6_passes wsX6_passes_p0_6 3 none) 58 kX6_passes_p0_6_58 :=
  alls _ (s_vret dX6_passes_58) <|
  alls_nil _
set_option maxRecDepth 100000 in
theorem sX6_passes_p0_6_42 (l : Launch) : AllS (pSnd l rmX6_passes_p0_6 yX6_passes.cls cX6_passes wsX6_passes_p0_6 3 none) 42 kX6_passes_p0_6_42 :=
  alls _ (s_aload_n rfl dX6_passes_42) <|
  alls _ (s_dup dX6_passes_43) <|
  alls _ (s_getf (C := RX6) (T := TX6) (N := 29) rfl (in_c inX6) (by decide) (List.mem_cons_of_mem _ wd_766) rfl dX6_passes_44) <|
  alls _ (s_iconst dX6_passes_47) <|
  alls _ (s_iadd dX6_passes_48) <|
  alls _ (s_putf (C := RX6) (T := TX6) (N := 29) tyX6 rfl (in_c inX6) tyX6_ok nmX6 (by decide) (List.mem_cons_of_mem _ wd_766) rfl rfl (tyX6_ok 19 (by decide)) dX6_passes_49) <|
  alls _ (s_iinc dX6_passes_52) <|
  alls _ (s_goto (by decide) dX6_passes_55) <|
  alls_nil _
set_option maxRecDepth 100000 in
theorem sX6_passes_p0_6_30 (l : Launch) : AllS (pSnd l rmX6_passes_p0_6 yX6_passes.cls cX6_passes wsX6_passes_p0_6 3 none) 30 kX6_passes_p0_6_30 :=
  alls _ (s_aload_n rfl dX6_passes_30) <|
  alls _ (s_iload_n rfl dX6_passes_31) <|
  alls _ (s_aload_n rfl dX6_passes_32) <|
  alls _ (s_getf (C := RX6) (T := TX6) (N := 29) rfl (in_c inX6) (by decide) (List.mem_cons_of_mem _ wd_763) rfl dX6_passes_33) <|
  alls _ (s_aload_n rfl dX6_passes_36) <|
  alls _ (s_getf (C := RX6) (T := TX6) (N := 29) rfl (in_c inX6) (by decide) (List.mem_cons_of_mem _ wd_766) rfl dX6_passes_37) <|
  alls _ (s_iald dX6_passes_40) <|
  alls _ (s_iast dX6_passes_41) <|
  alls _ s_fall (alls_nil _)
set_option maxRecDepth 100000 in
theorem sX6_passes_p0_6_2 (l : Launch) : AllS (pSnd l rmX6_passes_p0_6 yX6_passes.cls cX6_passes wsX6_passes_p0_6 3 none) 2 kX6_passes_p0_6_2 :=
  alls _ (s_iload_n rfl dX6_passes_2) <|
  alls _ (s_aload_n rfl dX6_passes_3) <|
  alls _ (s_alen dX6_passes_4) <|
  alls _ (s_icmp_ge (by decide) dX6_passes_5) <|
  alls _ (s_aload_n rfl dX6_passes_8) <|
  alls _ (s_getf (C := RX6) (T := TX6) (N := 29) rfl (in_c inX6) (by decide) (List.mem_cons_of_mem _ wd_765) rfl dX6_passes_9) <|
  alls _ (s_if_eq (by decide) dX6_passes_12) <|
  alls _ (s_aload_n rfl dX6_passes_15) <|
  alls _ (s_getf (C := RX6) (T := TX6) (N := 29) rfl (in_c inX6) (by decide) (List.mem_cons_of_mem _ wd_763) rfl dX6_passes_16) <|
  alls _ (s_aload_n rfl dX6_passes_19) <|
  alls _ (s_getf (C := RX6) (T := TX6) (N := 29) rfl (in_c inX6) (by decide) (List.mem_cons_of_mem _ wd_766) rfl dX6_passes_20) <|
  alls _ (s_aload_n rfl dX6_passes_23) <|
  alls _ (s_iload_n rfl dX6_passes_24) <|
  alls _ (s_iald dX6_passes_25) <|
  alls _ (s_iast dX6_passes_26) <|
  alls _ (s_goto (by decide) dX6_passes_27) <|
  alls_nil _
set_option maxRecDepth 100000 in
theorem sX6_passes_p0_6_0 (l : Launch) : AllS (pSnd l rmX6_passes_p0_6 yX6_passes.cls cX6_passes wsX6_passes_p0_6 3 none) 0 kX6_passes_p0_6_0 :=
  alls _ (s_iconst dX6_passes_0) <|
  alls _ (s_istore_n rfl dX6_passes_1) <|
  alls _ s_fall (alls_nil _)
def KX6_passes_p0_6 : List (Nat × pProg) := [(0, kX6_passes_p0_6_0), (2, kX6_passes_p0_6_2), (30, kX6_passes_p0_6_30), (42, kX6_passes_p0_6_42), (58, kX6_passes_p0_6_58)]
theorem bX6_passes_p0_6_0 : blkOf KX6_passes_p0_6 0 = some kX6_passes_p0_6_0 := rfl
theorem bX6_passes_p0_6_2 : blkOf KX6_passes_p0_6 2 = some kX6_passes_p0_6_2 := rfl
theorem bX6_passes_p0_6_30 : blkOf KX6_passes_p0_6 30 = some kX6_passes_p0_6_30 := rfl
theorem bX6_passes_p0_6_42 : blkOf KX6_passes_p0_6 42 = some kX6_passes_p0_6_42 := rfl
theorem bX6_passes_p0_6_58 : blkOf KX6_passes_p0_6 58 = some kX6_passes_p0_6_58 := rfl
def tX6_passes_p0_6 : pT := pM KX6_passes_p0_6 3
theorem ct_X6_passes_p0_6 (l : Launch) : pCtr l yX6_passes wsX6_passes_p0_6 rmX6_passes_p0_6 2 tX6_passes_p0_6 := ctr_of (by decide +kernel) rfl (List.forall_mem_cons.mpr ⟨sX6_passes_p0_6_0 l, List.forall_mem_cons.mpr ⟨sX6_passes_p0_6_2 l, List.forall_mem_cons.mpr ⟨sX6_passes_p0_6_30 l, List.forall_mem_cons.mpr ⟨sX6_passes_p0_6_42 l, List.forall_mem_cons.mpr ⟨sX6_passes_p0_6_58 l, fun _ h => absurd h List.not_mem_nil⟩⟩⟩⟩⟩)
def rmX6_passes_p0_7 : Room := { frames := 0, cells := 0, slots := 0, locals := 0 }
abbrev wsX6_passes_p0_7 : List Cond := .code yX6_passes cX6_passes 3 none :: gw_tbl
def kX6_passes_p0_7_58 : pProg := (58, 1, a_vret) :: []
def kX6_passes_p0_7_42 : pProg := (42, 1, a_aload 0) :: (43, 1, a_dup) :: (44, 3, a_getf 0 4 19) :: (47, 1, a_iconst 1) :: (48, 1, a_iadd) :: (49, 3, a_putf 0 4 19 .int) :: (52, 3, a_iinc 2 1) :: (55, 3, a_goto 2) :: []
def kX6_passes_p0_7_30 : pProg := (30, 1, a_aload 1) :: (31, 1, a_iload 2) :: (32, 1, a_aload 0) :: (33, 3, a_getf 0 4 16) :: (36, 1, a_aload 0) :: (37, 3, a_getf 0 4 19) :: (40, 1, a_iald 12) :: (41, 1, a_iast 7) :: (42, 0, a_fall 42) :: []
def kX6_passes_p0_7_2 : pProg := (2, 1, a_iload 2) :: (3, 1, a_aload 1) :: (4, 1, a_alen 7) :: (5, 3, a_icmp_ge 58) :: (8, 1, a_aload 0) :: (9, 3, a_getf 0 4 18) :: (12, 3, a_if_eq 30) :: (15, 1, a_aload 0) :: (16, 3, a_getf 0 4 16) :: (19, 1, a_aload 0) :: (20, 3, a_getf 0 4 19) :: (23, 1, a_aload 1) :: (24, 1, a_iload 2) :: (25, 1, a_iald 7) :: (26, 1, a_iast 12) :: (27, 3, a_goto 42) :: []
def kX6_passes_p0_7_0 : pProg := (0, 1, a_iconst 0) :: (1, 1, a_istore 2) :: (2, 0, a_fall 2) :: []
set_option maxRecDepth 100000 in
theorem sX6_passes_p0_7_58 (l : Launch) : AllS (pSnd l rmX6_passes_p0_7 yX6_passes.cls cX6_passes wsX6_passes_p0_7 3 none) 58 kX6_passes_p0_7_58 :=
  alls _ (s_vret dX6_passes_58) <|
  alls_nil _
set_option maxRecDepth 100000 in
theorem sX6_passes_p0_7_42 (l : Launch) : AllS (pSnd l rmX6_passes_p0_7 yX6_passes.cls cX6_passes wsX6_passes_p0_7 3 none) 42 kX6_passes_p0_7_42 :=
  alls _ (s_aload_n rfl dX6_passes_42) <|
  alls _ (s_dup dX6_passes_43) <|
  alls _ (s_getf (C := RX6) (T := TX6) (N := 29) rfl (in_c inX6) (by decide) (List.mem_cons_of_mem _ wd_766) rfl dX6_passes_44) <|
  alls _ (s_iconst dX6_passes_47) <|
  alls _ (s_iadd dX6_passes_48) <|
  alls _ (s_putf (C := RX6) (T := TX6) (N := 29) tyX6 rfl (in_c inX6) tyX6_ok nmX6 (by decide) (List.mem_cons_of_mem _ wd_766) rfl rfl (tyX6_ok 19 (by decide)) dX6_passes_49) <|
  alls _ (s_iinc dX6_passes_52) <|
  alls _ (s_goto (by decide) dX6_passes_55) <|
  alls_nil _
set_option maxRecDepth 100000 in
theorem sX6_passes_p0_7_30 (l : Launch) : AllS (pSnd l rmX6_passes_p0_7 yX6_passes.cls cX6_passes wsX6_passes_p0_7 3 none) 30 kX6_passes_p0_7_30 :=
  alls _ (s_aload_n rfl dX6_passes_30) <|
  alls _ (s_iload_n rfl dX6_passes_31) <|
  alls _ (s_aload_n rfl dX6_passes_32) <|
  alls _ (s_getf (C := RX6) (T := TX6) (N := 29) rfl (in_c inX6) (by decide) (List.mem_cons_of_mem _ wd_763) rfl dX6_passes_33) <|
  alls _ (s_aload_n rfl dX6_passes_36) <|
  alls _ (s_getf (C := RX6) (T := TX6) (N := 29) rfl (in_c inX6) (by decide) (List.mem_cons_of_mem _ wd_766) rfl dX6_passes_37) <|
  alls _ (s_iald dX6_passes_40) <|
  alls _ (s_iast dX6_passes_41) <|
  alls _ s_fall (alls_nil _)
set_option maxRecDepth 100000 in
theorem sX6_passes_p0_7_2 (l : Launch) : AllS (pSnd l rmX6_passes_p0_7 yX6_passes.cls cX6_passes wsX6_passes_p0_7 3 none) 2 kX6_passes_p0_7_2 :=
  alls _ (s_iload_n rfl dX6_passes_2) <|
  alls _ (s_aload_n rfl dX6_passes_3) <|
  alls _ (s_alen dX6_passes_4) <|
  alls _ (s_icmp_ge (by decide) dX6_passes_5) <|
  alls _ (s_aload_n rfl dX6_passes_8) <|
  alls _ (s_getf (C := RX6) (T := TX6) (N := 29) rfl (in_c inX6) (by decide) (List.mem_cons_of_mem _ wd_765) rfl dX6_passes_9) <|
  alls _ (s_if_eq (by decide) dX6_passes_12) <|
  alls _ (s_aload_n rfl dX6_passes_15) <|
  alls _ (s_getf (C := RX6) (T := TX6) (N := 29) rfl (in_c inX6) (by decide) (List.mem_cons_of_mem _ wd_763) rfl dX6_passes_16) <|
  alls _ (s_aload_n rfl dX6_passes_19) <|
  alls _ (s_getf (C := RX6) (T := TX6) (N := 29) rfl (in_c inX6) (by decide) (List.mem_cons_of_mem _ wd_766) rfl dX6_passes_20) <|
  alls _ (s_aload_n rfl dX6_passes_23) <|
  alls _ (s_iload_n rfl dX6_passes_24) <|
  alls _ (s_iald dX6_passes_25) <|
  alls _ (s_iast dX6_passes_26) <|
  alls _ (s_goto (by decide) dX6_passes_27) <|
  alls_nil _
set_option maxRecDepth 100000 in
theorem sX6_passes_p0_7_0 (l : Launch) : AllS (pSnd l rmX6_passes_p0_7 yX6_passes.cls cX6_passes wsX6_passes_p0_7 3 none) 0 kX6_passes_p0_7_0 :=
  alls _ (s_iconst dX6_passes_0) <|
  alls _ (s_istore_n rfl dX6_passes_1) <|
  alls _ s_fall (alls_nil _)
def KX6_passes_p0_7 : List (Nat × pProg) := [(0, kX6_passes_p0_7_0), (2, kX6_passes_p0_7_2), (30, kX6_passes_p0_7_30), (42, kX6_passes_p0_7_42), (58, kX6_passes_p0_7_58)]
theorem bX6_passes_p0_7_0 : blkOf KX6_passes_p0_7 0 = some kX6_passes_p0_7_0 := rfl
theorem bX6_passes_p0_7_2 : blkOf KX6_passes_p0_7 2 = some kX6_passes_p0_7_2 := rfl
theorem bX6_passes_p0_7_30 : blkOf KX6_passes_p0_7 30 = some kX6_passes_p0_7_30 := rfl
theorem bX6_passes_p0_7_42 : blkOf KX6_passes_p0_7 42 = some kX6_passes_p0_7_42 := rfl
theorem bX6_passes_p0_7_58 : blkOf KX6_passes_p0_7 58 = some kX6_passes_p0_7_58 := rfl
def tX6_passes_p0_7 : pT := pM KX6_passes_p0_7 3
theorem ct_X6_passes_p0_7 (l : Launch) : pCtr l yX6_passes wsX6_passes_p0_7 rmX6_passes_p0_7 2 tX6_passes_p0_7 := ctr_of (by decide +kernel) rfl (List.forall_mem_cons.mpr ⟨sX6_passes_p0_7_0 l, List.forall_mem_cons.mpr ⟨sX6_passes_p0_7_2 l, List.forall_mem_cons.mpr ⟨sX6_passes_p0_7_30 l, List.forall_mem_cons.mpr ⟨sX6_passes_p0_7_42 l, List.forall_mem_cons.mpr ⟨sX6_passes_p0_7_58 l, fun _ h => absurd h List.not_mem_nil⟩⟩⟩⟩⟩)
theorem dX6_passOne_0 : decode cX6_passOne 0 = .ok (.aload_n 0, 1) := by decide +kernel
theorem dX6_passOne_1 : decode cX6_passOne 1 = .ok (.getfield 149, 3) := by decide +kernel
theorem dX6_passOne_4 : decode cX6_passOne 4 = .ok (.ifCond .eq 7, 3) := by decide +kernel
theorem dX6_passOne_7 : decode cX6_passOne 7 = .ok (.iload_n 1, 1) := by decide +kernel
theorem dX6_passOne_8 : decode cX6_passOne 8 = .ok (.goto 12, 3) := by decide +kernel
theorem dX6_passOne_11 : decode cX6_passOne 11 = .ok (.aload_n 0, 1) := by decide +kernel
theorem dX6_passOne_12 : decode cX6_passOne 12 = .ok (.getfield 43, 3) := by decide +kernel
theorem dX6_passOne_15 : decode cX6_passOne 15 = .ok (.aload_n 0, 1) := by decide +kernel
theorem dX6_passOne_16 : decode cX6_passOne 16 = .ok (.getfield 153, 3) := by decide +kernel
theorem dX6_passOne_19 : decode cX6_passOne 19 = .ok (.iaload, 1) := by decide +kernel
theorem dX6_passOne_20 : decode cX6_passOne 20 = .ok (.istore_n 2, 1) := by decide +kernel
theorem dX6_passOne_21 : decode cX6_passOne 21 = .ok (.aload_n 0, 1) := by decide +kernel
theorem dX6_passOne_22 : decode cX6_passOne 22 = .ok (.getfield 149, 3) := by decide +kernel
theorem dX6_passOne_25 : decode cX6_passOne 25 = .ok (.ifCond .eq 13, 3) := by decide +kernel
theorem dX6_passOne_28 : decode cX6_passOne 28 = .ok (.aload_n 0, 1) := by decide +kernel
theorem dX6_passOne_29 : decode cX6_passOne 29 = .ok (.getfield 43, 3) := by decide +kernel
theorem dX6_passOne_32 : decode cX6_passOne 32 = .ok (.aload_n 0, 1) := by decide +kernel
theorem dX6_passOne_33 : decode cX6_passOne 33 = .ok (.getfield 153, 3) := by decide +kernel
theorem dX6_passOne_36 : decode cX6_passOne 36 = .ok (.iload_n 1, 1) := by decide +kernel
theorem dX6_passOne_37 : decode cX6_passOne 37 = .ok (.iastore, 1) := by decide +kernel
theorem dX6_passOne_38 : decode cX6_passOne 38 = .ok (.aload_n 0, 1) := by decide +kernel
theorem dX6_passOne_39 : decode cX6_passOne 39 = .ok (.dup, 1) := by decide +kernel
theorem dX6_passOne_40 : decode cX6_passOne 40 = .ok (.getfield 153, 3) := by decide +kernel
theorem dX6_passOne_43 : decode cX6_passOne 43 = .ok (.iconst 1, 1) := by decide +kernel
theorem dX6_passOne_44 : decode cX6_passOne 44 = .ok (.iadd, 1) := by decide +kernel
theorem dX6_passOne_45 : decode cX6_passOne 45 = .ok (.putfield 153, 3) := by decide +kernel
theorem dX6_passOne_48 : decode cX6_passOne 48 = .ok (.iload_n 2, 1) := by decide +kernel
theorem dX6_passOne_49 : decode cX6_passOne 49 = .ok (.ireturn, 1) := by decide +kernel
def rmX6_passOne : Room := { frames := 0, cells := 0, slots := 0, locals := 0 }
abbrev wsX6_passOne : List Cond := .code yX6_passOne cX6_passOne 3 (some .int) :: gw_tbl
def kX6_passOne_38 : pProg := (38, 1, a_aload 0) :: (39, 1, a_dup) :: (40, 3, a_getf 0 4 19) :: (43, 1, a_iconst 1) :: (44, 1, a_iadd) :: (45, 3, a_putf 0 4 19 .int) :: (48, 1, a_iload 2) :: (49, 1, a_iret) :: []
def kX6_passOne_20 : pProg := (20, 1, a_istore 2) :: (21, 1, a_aload 0) :: (22, 3, a_getf 0 4 18) :: (25, 3, a_if_eq 38) :: (28, 1, a_aload 0) :: (29, 3, a_getf 0 4 16) :: (32, 1, a_aload 0) :: (33, 3, a_getf 0 4 19) :: (36, 1, a_iload 1) :: (37, 1, a_iast 12) :: (38, 0, a_fall 38) :: []
def kX6_passOne_11 : pProg := (11, 1, a_aload 0) :: (12, 3, a_getf 0 4 16) :: (15, 1, a_aload 0) :: (16, 3, a_getf 0 4 19) :: (19, 1, a_iald 12) :: (20, 0, a_fall 20) :: []
def kX6_passOne_0 : pProg := (0, 1, a_aload 0) :: (1, 3, a_getf 0 4 18) :: (4, 3, a_if_eq 11) :: (7, 1, a_iload 1) :: (8, 3, a_goto 20) :: []
set_option maxRecDepth 100000 in
theorem sX6_passOne_38 (l : Launch) : AllS (pSnd l rmX6_passOne yX6_passOne.cls cX6_passOne wsX6_passOne 3 (some .int)) 38 kX6_passOne_38 :=
  alls _ (s_aload_n rfl dX6_passOne_38) <|
  alls _ (s_dup dX6_passOne_39) <|
  alls _ (s_getf (C := RX6) (T := TX6) (N := 29) rfl (in_c inX6) (by decide) (List.mem_cons_of_mem _ wd_766) rfl dX6_passOne_40) <|
  alls _ (s_iconst dX6_passOne_43) <|
  alls _ (s_iadd dX6_passOne_44) <|
  alls _ (s_putf (C := RX6) (T := TX6) (N := 29) tyX6 rfl (in_c inX6) tyX6_ok nmX6 (by decide) (List.mem_cons_of_mem _ wd_766) rfl rfl (tyX6_ok 19 (by decide)) dX6_passOne_45) <|
  alls _ (s_iload_n rfl dX6_passOne_48) <|
  alls _ (s_iret dX6_passOne_49) <|
  alls_nil _
set_option maxRecDepth 100000 in
theorem sX6_passOne_20 (l : Launch) : AllS (pSnd l rmX6_passOne yX6_passOne.cls cX6_passOne wsX6_passOne 3 (some .int)) 20 kX6_passOne_20 :=
  alls _ (s_istore_n rfl dX6_passOne_20) <|
  alls _ (s_aload_n rfl dX6_passOne_21) <|
  alls _ (s_getf (C := RX6) (T := TX6) (N := 29) rfl (in_c inX6) (by decide) (List.mem_cons_of_mem _ wd_765) rfl dX6_passOne_22) <|
  alls _ (s_if_eq (by decide) dX6_passOne_25) <|
  alls _ (s_aload_n rfl dX6_passOne_28) <|
  alls _ (s_getf (C := RX6) (T := TX6) (N := 29) rfl (in_c inX6) (by decide) (List.mem_cons_of_mem _ wd_763) rfl dX6_passOne_29) <|
  alls _ (s_aload_n rfl dX6_passOne_32) <|
  alls _ (s_getf (C := RX6) (T := TX6) (N := 29) rfl (in_c inX6) (by decide) (List.mem_cons_of_mem _ wd_766) rfl dX6_passOne_33) <|
  alls _ (s_iload_n rfl dX6_passOne_36) <|
  alls _ (s_iast dX6_passOne_37) <|
  alls _ s_fall (alls_nil _)
set_option maxRecDepth 100000 in
theorem sX6_passOne_11 (l : Launch) : AllS (pSnd l rmX6_passOne yX6_passOne.cls cX6_passOne wsX6_passOne 3 (some .int)) 11 kX6_passOne_11 :=
  alls _ (s_aload_n rfl dX6_passOne_11) <|
  alls _ (s_getf (C := RX6) (T := TX6) (N := 29) rfl (in_c inX6) (by decide) (List.mem_cons_of_mem _ wd_763) rfl dX6_passOne_12) <|
  alls _ (s_aload_n rfl dX6_passOne_15) <|
  alls _ (s_getf (C := RX6) (T := TX6) (N := 29) rfl (in_c inX6) (by decide) (List.mem_cons_of_mem _ wd_766) rfl dX6_passOne_16) <|
  alls _ (s_iald dX6_passOne_19) <|
  alls _ s_fall (alls_nil _)
set_option maxRecDepth 100000 in
theorem sX6_passOne_0 (l : Launch) : AllS (pSnd l rmX6_passOne yX6_passOne.cls cX6_passOne wsX6_passOne 3 (some .int)) 0 kX6_passOne_0 :=
  alls _ (s_aload_n rfl dX6_passOne_0) <|
  alls _ (s_getf (C := RX6) (T := TX6) (N := 29) rfl (in_c inX6) (by decide) (List.mem_cons_of_mem _ wd_765) rfl dX6_passOne_1) <|
  alls _ (s_if_eq (by decide) dX6_passOne_4) <|
  alls _ (s_iload_n rfl dX6_passOne_7) <|
  alls _ (s_goto (by decide) dX6_passOne_8) <|
  alls_nil _
def KX6_passOne : List (Nat × pProg) := [(0, kX6_passOne_0), (11, kX6_passOne_11), (20, kX6_passOne_20), (38, kX6_passOne_38)]
theorem bX6_passOne_0 : blkOf KX6_passOne 0 = some kX6_passOne_0 := rfl
theorem bX6_passOne_11 : blkOf KX6_passOne 11 = some kX6_passOne_11 := rfl
theorem bX6_passOne_20 : blkOf KX6_passOne 20 = some kX6_passOne_20 := rfl
theorem bX6_passOne_38 : blkOf KX6_passOne 38 = some kX6_passOne_38 := rfl
def tX6_passOne : pT := pM KX6_passOne 3
theorem ct_X6_passOne (l : Launch) : pCtr l yX6_passOne wsX6_passOne rmX6_passOne 2 tX6_passOne := ctr_of (by decide +kernel) rfl (List.forall_mem_cons.mpr ⟨sX6_passOne_0 l, List.forall_mem_cons.mpr ⟨sX6_passOne_11 l, List.forall_mem_cons.mpr ⟨sX6_passOne_20 l, List.forall_mem_cons.mpr ⟨sX6_passOne_38 l, fun _ h => absurd h List.not_mem_nil⟩⟩⟩⟩)
theorem dX6_passesAll_0 : decode cX6_passesAll 0 = .ok (.aload_n 0, 1) := by decide +kernel
theorem dX6_passesAll_1 : decode cX6_passesAll 1 = .ok (.bipush 54, 2) := by decide +kernel
theorem dX6_passesAll_3 : decode cX6_passesAll 3 = .ok (.iload_n 1, 1) := by decide +kernel
theorem dX6_passesAll_4 : decode cX6_passesAll 4 = .ok (.imul, 1) := by decide +kernel
theorem dX6_passesAll_5 : decode cX6_passesAll 5 = .ok (.putfield 153, 3) := by decide +kernel
theorem dX6_passesAll_8 : decode cX6_passesAll 8 = .ok (.aload_n 0, 1) := by decide +kernel
theorem dX6_passesAll_9 : decode cX6_passesAll 9 = .ok (.iload_n 2, 1) := by decide +kernel
theorem dX6_passesAll_10 : decode cX6_passesAll 10 = .ok (.putfield 149, 3) := by decide +kernel
theorem dX6_passesAll_13 : decode cX6_passesAll 13 = .ok (.aload_n 0, 1) := by decide +kernel
theorem dX6_passesAll_14 : decode cX6_passesAll 14 = .ok (.aload_n 0, 1) := by decide +kernel
theorem dX6_passesAll_15 : decode cX6_passesAll 15 = .ok (.getfield 13, 3) := by decide +kernel
theorem dX6_passesAll_18 : decode cX6_passesAll 18 = .ok (.invokevirtual 156, 3) := by decide +kernel
theorem dX6_passesAll_21 : decode cX6_passesAll 21 = .ok (.aload_n 0, 1) := by decide +kernel
theorem dX6_passesAll_22 : decode cX6_passesAll 22 = .ok (.aload_n 0, 1) := by decide +kernel
theorem dX6_passesAll_23 : decode cX6_passesAll 23 = .ok (.getfield 16, 3) := by decide +kernel
theorem dX6_passesAll_26 : decode cX6_passesAll 26 = .ok (.invokevirtual 156, 3) := by decide +kernel
theorem dX6_passesAll_29 : decode cX6_passesAll 29 = .ok (.aload_n 0, 1) := by decide +kernel
theorem dX6_passesAll_30 : decode cX6_passesAll 30 = .ok (.aload_n 0, 1) := by decide +kernel
theorem dX6_passesAll_31 : decode cX6_passesAll 31 = .ok (.getfield 19, 3) := by decide +kernel
theorem dX6_passesAll_34 : decode cX6_passesAll 34 = .ok (.invokevirtual 156, 3) := by decide +kernel
theorem dX6_passesAll_37 : decode cX6_passesAll 37 = .ok (.aload_n 0, 1) := by decide +kernel
theorem dX6_passesAll_38 : decode cX6_passesAll 38 = .ok (.aload_n 0, 1) := by decide +kernel
theorem dX6_passesAll_39 : decode cX6_passesAll 39 = .ok (.getfield 22, 3) := by decide +kernel
theorem dX6_passesAll_42 : decode cX6_passesAll 42 = .ok (.invokevirtual 156, 3) := by decide +kernel
theorem dX6_passesAll_45 : decode cX6_passesAll 45 = .ok (.aload_n 0, 1) := by decide +kernel
theorem dX6_passesAll_46 : decode cX6_passesAll 46 = .ok (.aload_n 0, 1) := by decide +kernel
theorem dX6_passesAll_47 : decode cX6_passesAll 47 = .ok (.getfield 25, 3) := by decide +kernel
theorem dX6_passesAll_50 : decode cX6_passesAll 50 = .ok (.invokevirtual 156, 3) := by decide +kernel
theorem dX6_passesAll_53 : decode cX6_passesAll 53 = .ok (.aload_n 0, 1) := by decide +kernel
theorem dX6_passesAll_54 : decode cX6_passesAll 54 = .ok (.aload_n 0, 1) := by decide +kernel
theorem dX6_passesAll_55 : decode cX6_passesAll 55 = .ok (.getfield 28, 3) := by decide +kernel
theorem dX6_passesAll_58 : decode cX6_passesAll 58 = .ok (.invokevirtual 156, 3) := by decide +kernel
theorem dX6_passesAll_61 : decode cX6_passesAll 61 = .ok (.aload_n 0, 1) := by decide +kernel
theorem dX6_passesAll_62 : decode cX6_passesAll 62 = .ok (.aload_n 0, 1) := by decide +kernel
theorem dX6_passesAll_63 : decode cX6_passesAll 63 = .ok (.aload_n 0, 1) := by decide +kernel
theorem dX6_passesAll_64 : decode cX6_passesAll 64 = .ok (.getfield 58, 3) := by decide +kernel
theorem dX6_passesAll_67 : decode cX6_passesAll 67 = .ok (.invokevirtual 160, 3) := by decide +kernel
theorem dX6_passesAll_70 : decode cX6_passesAll 70 = .ok (.putfield 58, 3) := by decide +kernel
theorem dX6_passesAll_73 : decode cX6_passesAll 73 = .ok (.aload_n 0, 1) := by decide +kernel
theorem dX6_passesAll_74 : decode cX6_passesAll 74 = .ok (.aload_n 0, 1) := by decide +kernel
theorem dX6_passesAll_75 : decode cX6_passesAll 75 = .ok (.aload_n 0, 1) := by decide +kernel
theorem dX6_passesAll_76 : decode cX6_passesAll 76 = .ok (.getfield 112, 3) := by decide +kernel
theorem dX6_passesAll_79 : decode cX6_passesAll 79 = .ok (.invokevirtual 160, 3) := by decide +kernel
theorem dX6_passesAll_82 : decode cX6_passesAll 82 = .ok (.putfield 112, 3) := by decide +kernel
theorem dX6_passesAll_85 : decode cX6_passesAll 85 = .ok (.return_, 1) := by decide +kernel
def rmX6_passesAll : Room := { frames := 1, cells := 0, slots := 0, locals := 22 }
abbrev wsX6_passesAll : List Cond := .code yX6_passesAll cX6_passesAll 3 none :: gw_tbl
def kX6_passesAll_0 : pProg := (0, 1, a_aload 0) :: (1, 2, a_iconst 54) :: (3, 1, a_iload 1) :: (4, 1, a_imul) :: (5, 3, a_putf 0 4 19 .int) :: (8, 1, a_aload 0) :: (9, 1, a_iload 2) :: (10, 3, a_putf 0 4 18 .boolean) :: (13, 1, a_aload 0) :: (14, 1, a_aload 0) :: (15, 3, a_getf 0 4 1) :: (18, 3, a_callv 2 4 [0, 1, 2, 3, 4, 5, 6, 7, 8, 9, 10, 11, 12, 13, 14, 15, 16] tX6_passes) :: (21, 1, a_aload 0) :: (22, 1, a_aload 0) :: (23, 3, a_getf 0 4 2) :: (26, 3, a_callv 2 4 [0, 1, 2, 3, 4, 5, 6, 7, 8, 9, 10, 11, 12, 13, 14, 15, 16] tX6_passes_p0_3) :: (29, 1, a_aload 0) :: (30, 1, a_aload 0) :: (31, 3, a_getf 0 4 3) :: (34, 3, a_callv 2 4 [0, 1, 2, 3, 4, 5, 6, 7, 8, 9, 10, 11, 12, 13, 14, 15, 16] tX6_passes_p0_4) :: (37, 1, a_aload 0) :: (38, 1, a_aload 0) :: (39, 3, a_getf 0 4 4) :: (42, 3, a_callv 2 4 [0, 1, 2, 3, 4, 5, 6, 7, 8, 9, 10, 11, 12, 13, 14, 15, 16] tX6_passes_p0_5) :: (45, 1, a_aload 0) :: (46, 1, a_aload 0) :: (47, 3, a_getf 0 4 5) :: (50, 3, a_callv 2 4 [0, 1, 2, 3, 4, 5, 6, 7, 8, 9, 10, 11, 12, 13, 14, 15, 16] tX6_passes_p0_6) :: (53, 1, a_aload 0) :: (54, 1, a_aload 0) :: (55, 3, a_getf 0 4 6) :: (58, 3, a_callv 2 4 [0, 1, 2, 3, 4, 5, 6, 7, 8, 9, 10, 11, 12, 13, 14, 15, 16] tX6_passes_p0_7) :: (61, 1, a_aload 0) :: (62, 1, a_aload 0) :: (63, 1, a_aload 0) :: (64, 3, a_getf 0 4 7) :: (67, 3, a_callv 2 4 [0, 1, 2, 3, 4, 5, 6, 7, 8, 9, 10, 11, 12, 13, 14, 15, 16] tX6_passOne) :: (70, 3, a_putf 0 4 7 .int) :: (73, 1, a_aload 0) :: (74, 1, a_aload 0) :: (75, 1, a_aload 0) :: (76, 3, a_getf 0 4 8) :: (79, 3, a_callv 2 4 [0, 1, 2, 3, 4, 5, 6, 7, 8, 9, 10, 11, 12, 13, 14, 15, 16] tX6_passOne) :: (82, 3, a_putf 0 4 8 .int) :: (85, 1, a_vret) :: []
set_option maxRecDepth 100000 in
theorem sX6_passesAll_0 (l : Launch) : AllS (pSnd l rmX6_passesAll yX6_passesAll.cls cX6_passesAll wsX6_passesAll 3 none) 0 kX6_passesAll_0 :=
  alls _ (s_aload_n rfl dX6_passesAll_0) <|
  alls _ (s_bipush (by decide) dX6_passesAll_1) <|
  alls _ (s_iload_n rfl dX6_passesAll_3) <|
  alls _ (s_imul dX6_passesAll_4) <|
  alls _ (s_putf (C := RX6) (T := TX6) (N := 29) tyX6 rfl (in_c inX6) tyX6_ok nmX6 (by decide) (List.mem_cons_of_mem _ wd_766) rfl rfl (tyX6_ok 19 (by decide)) dX6_passesAll_5) <|
  alls _ (s_aload_n rfl dX6_passesAll_8) <|
  alls _ (s_iload_n rfl dX6_passesAll_9) <|
  alls _ (s_putf (C := RX6) (T := TX6) (N := 29) tyX6 rfl (in_c inX6) tyX6_ok nmX6 (by decide) (List.mem_cons_of_mem _ wd_765) rfl rfl (tyX6_ok 18 (by decide)) dX6_passesAll_10) <|
  alls _ (s_aload_n rfl dX6_passesAll_13) <|
  alls _ (s_aload_n rfl dX6_passesAll_14) <|
  alls _ (s_getf (C := RX6) (T := TX6) (N := 29) rfl (in_c inX6) (by decide) (List.mem_cons_of_mem _ wd_748) rfl dX6_passesAll_15) <|
  alls _ (s_callv (ct_X6_passes l) rfl rfl rfl (gdV wd_880 wd_882 wd_18 wd_65 wd_883) rfl rfl (by decide +kernel) ⟨Nat.le_of_ble_eq_true rfl, Nat.le_of_ble_eq_true rfl⟩ dX6_passesAll_18) <|
  alls _ (s_aload_n rfl dX6_passesAll_21) <|
  alls _ (s_aload_n rfl dX6_passesAll_22) <|
  alls _ (s_getf (C := RX6) (T := TX6) (N := 29) rfl (in_c inX6) (by decide) (List.mem_cons_of_mem _ wd_749) rfl dX6_passesAll_23) <|
  alls _ (s_callv (ct_X6_passes_p0_3 l) rfl rfl rfl (gdV wd_880 wd_882 wd_18 wd_65 wd_883) rfl rfl (by decide +kernel) ⟨Nat.le_of_ble_eq_true rfl, Nat.le_of_ble_eq_true rfl⟩ dX6_passesAll_26) <|
  alls _ (s_aload_n rfl dX6_passesAll_29) <|
  alls _ (s_aload_n rfl dX6_passesAll_30) <|
  alls _ (s_getf (C := RX6) (T := TX6) (N := 29) rfl (in_c inX6) (by decide) (List.mem_cons_of_mem _ wd_750) rfl dX6_passesAll_31) <|
  alls _ (s_callv (ct_X6_passes_p0_4 l) rfl rfl rfl (gdV wd_880 wd_882 wd_18 wd_65 wd_883) rfl rfl (by decide +kernel) ⟨Nat.le_of_ble_eq_true rfl, Nat.le_of_ble_eq_true rfl⟩ dX6_passesAll_34) <|
  alls _ (s_aload_n rfl dX6_passesAll_37) <|
  alls _ (s_aload_n rfl dX6_passesAll_38) <|
  alls _ (s_getf (C := RX6) (T := TX6) (N := 29) rfl (in_c inX6) (by decide) (List.mem_cons_of_mem _ wd_751) rfl dX6_passesAll_39) <|
  alls _ (s_callv (ct_X6_passes_p0_5 l) rfl rfl rfl (gdV wd_880 wd_882 wd_18 wd_65 wd_883) rfl rfl (by decide +kernel) ⟨Nat.le_of_ble_eq_true rfl, Nat.le_of_ble_eq_true rfl⟩ dX6_passesAll_42) <|
  alls _ (s_aload_n rfl dX6_passesAll_45) <|
  alls _ (s_aload_n rfl dX6_passesAll_46) <|
  alls _ (s_getf (C := RX6) (T := TX6) (N := 29) rfl (in_c inX6) (by decide) (List.mem_cons_of_mem _ wd_752) rfl dX6_passesAll_47) <|
  alls _ (s_callv (ct_X6_passes_p0_6 l) rfl rfl rfl (gdV wd_880 wd_882 wd_18 wd_65 wd_883) rfl rfl (by decide +kernel) ⟨Nat.le_of_ble_eq_true rfl, Nat.le_of_ble_eq_true rfl⟩ dX6_passesAll_50) <|
  alls _ (s_aload_n rfl dX6_passesAll_53) <|
  alls _ (s_aload_n rfl dX6_passesAll_54) <|
  alls _ (s_getf (C := RX6) (T := TX6) (N := 29) rfl (in_c inX6) (by decide) (List.mem_cons_of_mem _ wd_753) rfl dX6_passesAll_55) <|
  alls _ (s_callv (ct_X6_passes_p0_7 l) rfl rfl rfl (gdV wd_880 wd_882 wd_18 wd_65 wd_883) rfl rfl (by decide +kernel) ⟨Nat.le_of_ble_eq_true rfl, Nat.le_of_ble_eq_true rfl⟩ dX6_passesAll_58) <|
  alls _ (s_aload_n rfl dX6_passesAll_61) <|
  alls _ (s_aload_n rfl dX6_passesAll_62) <|
  alls _ (s_aload_n rfl dX6_passesAll_63) <|
  alls _ (s_getf (C := RX6) (T := TX6) (N := 29) rfl (in_c inX6) (by decide) (List.mem_cons_of_mem _ wd_754) rfl dX6_passesAll_64) <|
  alls _ (s_callv (ct_X6_passOne l) rfl rfl rfl (gdV wd_884 wd_886 wd_19 wd_65 wd_887) rfl rfl (by decide +kernel) ⟨Nat.le_of_ble_eq_true rfl, Nat.le_of_ble_eq_true rfl⟩ dX6_passesAll_67) <|
  alls _ (s_putf (C := RX6) (T := TX6) (N := 29) tyX6 rfl (in_c inX6) tyX6_ok nmX6 (by decide) (List.mem_cons_of_mem _ wd_754) rfl rfl (tyX6_ok 7 (by decide)) dX6_passesAll_70) <|
  alls _ (s_aload_n rfl dX6_passesAll_73) <|
  alls _ (s_aload_n rfl dX6_passesAll_74) <|
  alls _ (s_aload_n rfl dX6_passesAll_75) <|
  alls _ (s_getf (C := RX6) (T := TX6) (N := 29) rfl (in_c inX6) (by decide) (List.mem_cons_of_mem _ wd_755) rfl dX6_passesAll_76) <|
  alls _ (s_callv (ct_X6_passOne l) rfl rfl rfl (gdV wd_884 wd_886 wd_19 wd_65 wd_887) rfl rfl (by decide +kernel) ⟨Nat.le_of_ble_eq_true rfl, Nat.le_of_ble_eq_true rfl⟩ dX6_passesAll_79) <|
  alls _ (s_putf (C := RX6) (T := TX6) (N := 29) tyX6 rfl (in_c inX6) tyX6_ok nmX6 (by decide) (List.mem_cons_of_mem _ wd_755) rfl rfl (tyX6_ok 8 (by decide)) dX6_passesAll_82) <|
  alls _ (s_vret dX6_passesAll_85) <|
  alls_nil _
def KX6_passesAll : List (Nat × pProg) := [(0, kX6_passesAll_0)]
theorem bX6_passesAll_0 : blkOf KX6_passesAll 0 = some kX6_passesAll_0 := rfl
def tX6_passesAll : pT := pM KX6_passesAll 3
theorem ct_X6_passesAll (l : Launch) : pCtr l yX6_passesAll wsX6_passesAll rmX6_passesAll 3 tX6_passesAll := ctr_of (by decide +kernel) rfl (List.forall_mem_cons.mpr ⟨sX6_passesAll_0 l, fun _ h => absurd h List.not_mem_nil⟩)
theorem dX6_has_0 : decode cX6_has 0 = .ok (.iload_n 0, 1) := by decide +kernel
theorem dX6_has_1 : decode cX6_has 1 = .ok (.iload_n 1, 1) := by decide +kernel
theorem dX6_has_2 : decode cX6_has 2 = .ok (.ishr, 1) := by decide +kernel
theorem dX6_has_3 : decode cX6_has 3 = .ok (.iconst 1, 1) := by decide +kernel
theorem dX6_has_4 : decode cX6_has 4 = .ok (.iand, 1) := by decide +kernel
theorem dX6_has_5 : decode cX6_has 5 = .ok (.iconst 1, 1) := by decide +kernel
theorem dX6_has_6 : decode cX6_has 6 = .ok (.if_icmp .ne 7, 3) := by decide +kernel
theorem dX6_has_9 : decode cX6_has 9 = .ok (.iconst 1, 1) := by decide +kernel
theorem dX6_has_10 : decode cX6_has 10 = .ok (.goto 4, 3) := by decide +kernel
theorem dX6_has_13 : decode cX6_has 13 = .ok (.iconst 0, 1) := by decide +kernel
theorem dX6_has_14 : decode cX6_has 14 = .ok (.ireturn, 1) := by decide +kernel
def rmX6_has : Room := { frames := 0, cells := 0, slots := 0, locals := 0 }
abbrev wsX6_has : List Cond := .code yX6_has cX6_has 2 (some .boolean) :: gw_tbl
def kX6_has_14 : pProg := (14, 1, a_zret) :: []
def kX6_has_13 : pProg := (13, 1, a_iconst 0) :: (14, 0, a_fall 14) :: []
def kX6_has_0 : pProg := (0, 1, a_iload 0) :: (1, 1, a_iload 1) :: (2, 1, a_ishr) :: (3, 1, a_iconst 1) :: (4, 1, a_iand) :: (5, 1, a_iconst 1) :: (6, 3, a_icmp_ne 13) :: (9, 1, a_iconst 1) :: (10, 3, a_goto 14) :: []
set_option maxRecDepth 100000 in
theorem sX6_has_14 (l : Launch) : AllS (pSnd l rmX6_has yX6_has.cls cX6_has wsX6_has 2 (some .boolean)) 14 kX6_has_14 :=
  alls _ (s_zret dX6_has_14) <|
  alls_nil _
set_option maxRecDepth 100000 in
theorem sX6_has_13 (l : Launch) : AllS (pSnd l rmX6_has yX6_has.cls cX6_has wsX6_has 2 (some .boolean)) 13 kX6_has_13 :=
  alls _ (s_iconst dX6_has_13) <|
  alls _ s_fall (alls_nil _)
set_option maxRecDepth 100000 in
theorem sX6_has_0 (l : Launch) : AllS (pSnd l rmX6_has yX6_has.cls cX6_has wsX6_has 2 (some .boolean)) 0 kX6_has_0 :=
  alls _ (s_iload_n rfl dX6_has_0) <|
  alls _ (s_iload_n rfl dX6_has_1) <|
  alls _ (s_ishr dX6_has_2) <|
  alls _ (s_iconst dX6_has_3) <|
  alls _ (s_iand dX6_has_4) <|
  alls _ (s_iconst dX6_has_5) <|
  alls _ (s_icmp_ne (by decide) dX6_has_6) <|
  alls _ (s_iconst dX6_has_9) <|
  alls _ (s_goto (by decide) dX6_has_10) <|
  alls_nil _
def KX6_has : List (Nat × pProg) := [(0, kX6_has_0), (13, kX6_has_13), (14, kX6_has_14)]
theorem bX6_has_0 : blkOf KX6_has 0 = some kX6_has_0 := rfl
theorem bX6_has_13 : blkOf KX6_has 13 = some kX6_has_13 := rfl
theorem bX6_has_14 : blkOf KX6_has 14 = some kX6_has_14 := rfl
def tX6_has : pT := pM KX6_has 2
theorem ct_X6_has (l : Launch) : pCtr l yX6_has wsX6_has rmX6_has 2 tX6_has := ctr_of (by decide +kernel) rfl (List.forall_mem_cons.mpr ⟨sX6_has_0 l, List.forall_mem_cons.mpr ⟨sX6_has_13 l, List.forall_mem_cons.mpr ⟨sX6_has_14 l, fun _ h => absurd h List.not_mem_nil⟩⟩⟩)
theorem dX6_wantsBy_0 : decode cX6_wantsBy 0 = .ok (.aload_n 0, 1) := by decide +kernel
theorem dX6_wantsBy_1 : decode cX6_wantsBy 1 = .ok (.getfield 16, 3) := by decide +kernel
theorem dX6_wantsBy_4 : decode cX6_wantsBy 4 = .ok (.iload_n 1, 1) := by decide +kernel
theorem dX6_wantsBy_5 : decode cX6_wantsBy 5 = .ok (.iaload, 1) := by decide +kernel
theorem dX6_wantsBy_6 : decode cX6_wantsBy 6 = .ok (.tableswitch 117 0 5 #[38, 53, 117, 84, 86, 98], 38) := by decide +kernel
theorem dX6_wantsBy_44 : decode cX6_wantsBy 44 = .ok (.aload_n 0, 1) := by decide +kernel
theorem dX6_wantsBy_45 : decode cX6_wantsBy 45 = .ok (.getfield 28, 3) := by decide +kernel
theorem dX6_wantsBy_48 : decode cX6_wantsBy 48 = .ok (.iload_n 2, 1) := by decide +kernel
theorem dX6_wantsBy_49 : decode cX6_wantsBy 49 = .ok (.iaload, 1) := by decide +kernel
theorem dX6_wantsBy_50 : decode cX6_wantsBy 50 = .ok (.ifCond .le 7, 3) := by decide +kernel
theorem dX6_wantsBy_53 : decode cX6_wantsBy 53 = .ok (.iconst 1, 1) := by decide +kernel
theorem dX6_wantsBy_54 : decode cX6_wantsBy 54 = .ok (.goto 4, 3) := by decide +kernel
theorem dX6_wantsBy_57 : decode cX6_wantsBy 57 = .ok (.iconst 0, 1) := by decide +kernel
theorem dX6_wantsBy_58 : decode cX6_wantsBy 58 = .ok (.ireturn, 1) := by decide +kernel
theorem dX6_wantsBy_59 : decode cX6_wantsBy 59 = .ok (.aload_n 0, 1) := by decide +kernel
theorem dX6_wantsBy_60 : decode cX6_wantsBy 60 = .ok (.getfield 28, 3) := by decide +kernel
theorem dX6_wantsBy_63 : decode cX6_wantsBy 63 = .ok (.iload_n 2, 1) := by decide +kernel
theorem dX6_wantsBy_64 : decode cX6_wantsBy 64 = .ok (.iaload, 1) := by decide +kernel
theorem dX6_wantsBy_65 : decode cX6_wantsBy 65 = .ok (.ifCond .le 23, 3) := by decide +kernel
theorem dX6_wantsBy_68 : decode cX6_wantsBy 68 = .ok (.aload_n 0, 1) := by decide +kernel
theorem dX6_wantsBy_69 : decode cX6_wantsBy 69 = .ok (.getfield 13, 3) := by decide +kernel
theorem dX6_wantsBy_72 : decode cX6_wantsBy 72 = .ok (.aload_n 0, 1) := by decide +kernel
theorem dX6_wantsBy_73 : decode cX6_wantsBy 73 = .ok (.getfield 25, 3) := by decide +kernel
theorem dX6_wantsBy_76 : decode cX6_wantsBy 76 = .ok (.iload_n 2, 1) := by decide +kernel
theorem dX6_wantsBy_77 : decode cX6_wantsBy 77 = .ok (.iaload, 1) := by decide +kernel
theorem dX6_wantsBy_78 : decode cX6_wantsBy 78 = .ok (.iconst 1, 1) := by decide +kernel
theorem dX6_wantsBy_79 : decode cX6_wantsBy 79 = .ok (.iadd, 1) := by decide +kernel
theorem dX6_wantsBy_80 : decode cX6_wantsBy 80 = .ok (.iaload, 1) := by decide +kernel
theorem dX6_wantsBy_81 : decode cX6_wantsBy 81 = .ok (.ifCond .ne 7, 3) := by decide +kernel
theorem dX6_wantsBy_84 : decode cX6_wantsBy 84 = .ok (.iconst 1, 1) := by decide +kernel
theorem dX6_wantsBy_85 : decode cX6_wantsBy 85 = .ok (.goto 4, 3) := by decide +kernel
theorem dX6_wantsBy_88 : decode cX6_wantsBy 88 = .ok (.iconst 0, 1) := by decide +kernel
theorem dX6_wantsBy_89 : decode cX6_wantsBy 89 = .ok (.ireturn, 1) := by decide +kernel
theorem dX6_wantsBy_90 : decode cX6_wantsBy 90 = .ok (.iconst 0, 1) := by decide +kernel
theorem dX6_wantsBy_91 : decode cX6_wantsBy 91 = .ok (.ireturn, 1) := by decide +kernel
theorem dX6_wantsBy_92 : decode cX6_wantsBy 92 = .ok (.iload_n 3, 1) := by decide +kernel
theorem dX6_wantsBy_93 : decode cX6_wantsBy 93 = .ok (.iconst 2, 1) := by decide +kernel
theorem dX6_wantsBy_94 : decode cX6_wantsBy 94 = .ok (.irem, 1) := by decide +kernel
theorem dX6_wantsBy_95 : decode cX6_wantsBy 95 = .ok (.ifCond .ne 7, 3) := by decide +kernel
theorem dX6_wantsBy_98 : decode cX6_wantsBy 98 = .ok (.iconst 1, 1) := by decide +kernel
theorem dX6_wantsBy_99 : decode cX6_wantsBy 99 = .ok (.goto 4, 3) := by decide +kernel
theorem dX6_wantsBy_102 : decode cX6_wantsBy 102 = .ok (.iconst 0, 1) := by decide +kernel
theorem dX6_wantsBy_103 : decode cX6_wantsBy 103 = .ok (.ireturn, 1) := by decide +kernel
theorem dX6_wantsBy_104 : decode cX6_wantsBy 104 = .ok (.iload_n 3, 1) := by decide +kernel
theorem dX6_wantsBy_105 : decode cX6_wantsBy 105 = .ok (.aload_n 0, 1) := by decide +kernel
theorem dX6_wantsBy_106 : decode cX6_wantsBy 106 = .ok (.getfield 19, 3) := by decide +kernel
theorem dX6_wantsBy_109 : decode cX6_wantsBy 109 = .ok (.iload_n 1, 1) := by decide +kernel
theorem dX6_wantsBy_110 : decode cX6_wantsBy 110 = .ok (.iaload, 1) := by decide +kernel
theorem dX6_wantsBy_111 : decode cX6_wantsBy 111 = .ok (.iconst 3, 1) := by decide +kernel
theorem dX6_wantsBy_112 : decode cX6_wantsBy 112 = .ok (.iadd, 1) := by decide +kernel
theorem dX6_wantsBy_113 : decode cX6_wantsBy 113 = .ok (.irem, 1) := by decide +kernel
theorem dX6_wantsBy_114 : decode cX6_wantsBy 114 = .ok (.ifCond .eq 7, 3) := by decide +kernel
theorem dX6_wantsBy_117 : decode cX6_wantsBy 117 = .ok (.iconst 1, 1) := by decide +kernel
theorem dX6_wantsBy_118 : decode cX6_wantsBy 118 = .ok (.goto 4, 3) := by decide +kernel
theorem dX6_wantsBy_121 : decode cX6_wantsBy 121 = .ok (.iconst 0, 1) := by decide +kernel
theorem dX6_wantsBy_122 : decode cX6_wantsBy 122 = .ok (.ireturn, 1) := by decide +kernel
theorem dX6_wantsBy_123 : decode cX6_wantsBy 123 = .ok (.iconst 1, 1) := by decide +kernel
theorem dX6_wantsBy_124 : decode cX6_wantsBy 124 = .ok (.ireturn, 1) := by decide +kernel
def rmX6_wantsBy : Room := { frames := 0, cells := 0, slots := 0, locals := 0 }
abbrev wsX6_wantsBy : List Cond := .code yX6_wantsBy cX6_wantsBy 4 (some .boolean) :: gw_tbl
def kX6_wantsBy_123 : pProg := (123, 1, a_iconst 1) :: (124, 1, a_zret) :: []
def kX6_wantsBy_122 : pProg := (122, 1, a_zret) :: []
def kX6_wantsBy_121 : pProg := (121, 1, a_iconst 0) :: (122, 0, a_fall 122) :: []
def kX6_wantsBy_104 : pProg := (104, 1, a_iload 3) :: (105, 1, a_aload 0) :: (106, 3, a_getf 0 4 3) :: (109, 1, a_iload 1) :: (110, 1, a_iald 4) :: (111, 1, a_iconst 3) :: (112, 1, a_iadd) :: (113, 1, a_irem) :: (114, 3, a_if_eq 121) :: (117, 1, a_iconst 1) :: (118, 3, a_goto 122) :: []
def kX6_wantsBy_103 : pProg := (103, 1, a_zret) :: []
def kX6_wantsBy_102 : pProg := (102, 1, a_iconst 0) :: (103, 0, a_fall 103) :: []
def kX6_wantsBy_92 : pProg := (92, 1, a_iload 3) :: (93, 1, a_iconst 2) :: (94, 1, a_irem) :: (95, 3, a_if_ne 102) :: (98, 1, a_iconst 1) :: (99, 3, a_goto 103) :: []
def kX6_wantsBy_90 : pProg := (90, 1, a_iconst 0) :: (91, 1, a_zret) :: []
def kX6_wantsBy_89 : pProg := (89, 1, a_zret) :: []
def kX6_wantsBy_88 : pProg := (88, 1, a_iconst 0) :: (89, 0, a_fall 89) :: []
def kX6_wantsBy_59 : pProg := (59, 1, a_aload 0) :: (60, 3, a_getf 0 4 6) :: (63, 1, a_iload 2) :: (64, 1, a_iald 7) :: (65, 3, a_if_le 88) :: (68, 1, a_aload 0) :: (69, 3, a_getf 0 4 1) :: (72, 1, a_aload 0) :: (73, 3, a_getf 0 4 5) :: (76, 1, a_iload 2) :: (77, 1, a_iald 6) :: (78, 1, a_iconst 1) :: (79, 1, a_iadd) :: (80, 1, a_iald 2) :: (81, 3, a_if_ne 88) :: (84, 1, a_iconst 1) :: (85, 3, a_goto 89) :: []
def kX6_wantsBy_58 : pProg := (58, 1, a_zret) :: []
def kX6_wantsBy_57 : pProg := (57, 1, a_iconst 0) :: (58, 0, a_fall 58) :: []
def kX6_wantsBy_44 : pProg := (44, 1, a_aload 0) :: (45, 3, a_getf 0 4 6) :: (48, 1, a_iload 2) :: (49, 1, a_iald 7) :: (50, 3, a_if_le 57) :: (53, 1, a_iconst 1) :: (54, 3, a_goto 58) :: []
def kX6_wantsBy_0 : pProg := (0, 1, a_aload 0) :: (1, 3, a_getf 0 4 2) :: (4, 1, a_iload 1) :: (5, 1, a_iald 3) :: (6, 38, a_lsw [(0, 44), (1, 59), (2, 123), (3, 90), (4, 92), (5, 104)] 123) :: []
set_option maxRecDepth 100000 in
theorem sX6_wantsBy_123 (l : Launch) : AllS (pSnd l rmX6_wantsBy yX6_wantsBy.cls cX6_wantsBy wsX6_wantsBy 4 (some .boolean)) 123 kX6_wantsBy_123 :=
  alls _ (s_iconst dX6_wantsBy_123) <|
  alls _ (s_zret dX6_wantsBy_124) <|
  alls_nil _
set_option maxRecDepth 100000 in
theorem sX6_wantsBy_122 (l : Launch) : AllS (pSnd l rmX6_wantsBy yX6_wantsBy.cls cX6_wantsBy wsX6_wantsBy 4 (some .boolean)) 122 kX6_wantsBy_122 :=
  alls _ (s_zret dX6_wantsBy_122) <|
  alls_nil _
set_option maxRecDepth 100000 in
theorem sX6_wantsBy_121 (l : Launch) : AllS (pSnd l rmX6_wantsBy yX6_wantsBy.cls cX6_wantsBy wsX6_wantsBy 4 (some .boolean)) 121 kX6_wantsBy_121 :=
  alls _ (s_iconst dX6_wantsBy_121) <|
  alls _ s_fall (alls_nil _)
set_option maxRecDepth 100000 in
theorem sX6_wantsBy_104 (l : Launch) : AllS (pSnd l rmX6_wantsBy yX6_wantsBy.cls cX6_wantsBy wsX6_wantsBy 4 (some .boolean)) 104 kX6_wantsBy_104 :=
  alls _ (s_iload_n rfl dX6_wantsBy_104) <|
  alls _ (s_aload_n rfl dX6_wantsBy_105) <|
  alls _ (s_getf (C := RX6) (T := TX6) (N := 29) rfl (in_c inX6) (by decide) (List.mem_cons_of_mem _ wd_750) rfl dX6_wantsBy_106) <|
  alls _ (s_iload_n rfl dX6_wantsBy_109) <|
  alls _ (s_iald dX6_wantsBy_110) <|
  alls _ (s_iconst dX6_wantsBy_111) <|
  alls _ (s_iadd dX6_wantsBy_112) <|
  alls _ (s_irem dX6_wantsBy_113) <|
  alls _ (s_if_eq (by decide) dX6_wantsBy_114) <|
  alls _ (s_iconst dX6_wantsBy_117) <|
  alls _ (s_goto (by decide) dX6_wantsBy_118) <|
  alls_nil _
set_option maxRecDepth 100000 in
theorem sX6_wantsBy_103 (l : Launch) : AllS (pSnd l rmX6_wantsBy yX6_wantsBy.cls cX6_wantsBy wsX6_wantsBy 4 (some .boolean)) 103 kX6_wantsBy_103 :=
  alls _ (s_zret dX6_wantsBy_103) <|
  alls_nil _
set_option maxRecDepth 100000 in
theorem sX6_wantsBy_102 (l : Launch) : AllS (pSnd l rmX6_wantsBy yX6_wantsBy.cls cX6_wantsBy wsX6_wantsBy 4 (some .boolean)) 102 kX6_wantsBy_102 :=
  alls _ (s_iconst dX6_wantsBy_102) <|
  alls _ s_fall (alls_nil _)
set_option maxRecDepth 100000 in
theorem sX6_wantsBy_92 (l : Launch) : AllS (pSnd l rmX6_wantsBy yX6_wantsBy.cls cX6_wantsBy wsX6_wantsBy 4 (some .boolean)) 92 kX6_wantsBy_92 :=
  alls _ (s_iload_n rfl dX6_wantsBy_92) <|
  alls _ (s_iconst dX6_wantsBy_93) <|
  alls _ (s_irem dX6_wantsBy_94) <|
  alls _ (s_if_ne (by decide) dX6_wantsBy_95) <|
  alls _ (s_iconst dX6_wantsBy_98) <|
  alls _ (s_goto (by decide) dX6_wantsBy_99) <|
  alls_nil _
set_option maxRecDepth 100000 in
theorem sX6_wantsBy_90 (l : Launch) : AllS (pSnd l rmX6_wantsBy yX6_wantsBy.cls cX6_wantsBy wsX6_wantsBy 4 (some .boolean)) 90 kX6_wantsBy_90 :=
  alls _ (s_iconst dX6_wantsBy_90) <|
  alls _ (s_zret dX6_wantsBy_91) <|
  alls_nil _
set_option maxRecDepth 100000 in
theorem sX6_wantsBy_89 (l : Launch) : AllS (pSnd l rmX6_wantsBy yX6_wantsBy.cls cX6_wantsBy wsX6_wantsBy 4 (some .boolean)) 89 kX6_wantsBy_89 :=
  alls _ (s_zret dX6_wantsBy_89) <|
  alls_nil _
set_option maxRecDepth 100000 in
theorem sX6_wantsBy_88 (l : Launch) : AllS (pSnd l rmX6_wantsBy yX6_wantsBy.cls cX6_wantsBy wsX6_wantsBy 4 (some .boolean)) 88 kX6_wantsBy_88 :=
  alls _ (s_iconst dX6_wantsBy_88) <|
  alls _ s_fall (alls_nil _)
set_option maxRecDepth 100000 in
theorem sX6_wantsBy_59 (l : Launch) : AllS (pSnd l rmX6_wantsBy yX6_wantsBy.cls cX6_wantsBy wsX6_wantsBy 4 (some .boolean)) 59 kX6_wantsBy_59 :=
  alls _ (s_aload_n rfl dX6_wantsBy_59) <|
  alls _ (s_getf (C := RX6) (T := TX6) (N := 29) rfl (in_c inX6) (by decide) (List.mem_cons_of_mem _ wd_753) rfl dX6_wantsBy_60) <|
  alls _ (s_iload_n rfl dX6_wantsBy_63) <|
  alls _ (s_iald dX6_wantsBy_64) <|
  alls _ (s_if_le (by decide) dX6_wantsBy_65) <|
  alls _ (s_aload_n rfl dX6_wantsBy_68) <|
  alls _ (s_getf (C := RX6) (T := TX6) (N := 29) rfl (in_c inX6) (by decide) (List.mem_cons_of_mem _ wd_748) rfl dX6_wantsBy_69) <|
  alls _ (s_aload_n rfl dX6_wantsBy_72) <|
  alls _ (s_getf (C := RX6) (T := TX6) (N := 29) rfl (in_c inX6) (by decide) (List.mem_cons_of_mem _ wd_752) rfl dX6_wantsBy_73) <|
  alls _ (s_iload_n rfl dX6_wantsBy_76) <|
  alls _ (s_iald dX6_wantsBy_77) <|
  alls _ (s_iconst dX6_wantsBy_78) <|
  alls _ (s_iadd dX6_wantsBy_79) <|
  alls _ (s_iald dX6_wantsBy_80) <|
  alls _ (s_if_ne (by decide) dX6_wantsBy_81) <|
  alls _ (s_iconst dX6_wantsBy_84) <|
  alls _ (s_goto (by decide) dX6_wantsBy_85) <|
  alls_nil _
set_option maxRecDepth 100000 in
theorem sX6_wantsBy_58 (l : Launch) : AllS (pSnd l rmX6_wantsBy yX6_wantsBy.cls cX6_wantsBy wsX6_wantsBy 4 (some .boolean)) 58 kX6_wantsBy_58 :=
  alls _ (s_zret dX6_wantsBy_58) <|
  alls_nil _
set_option maxRecDepth 100000 in
theorem sX6_wantsBy_57 (l : Launch) : AllS (pSnd l rmX6_wantsBy yX6_wantsBy.cls cX6_wantsBy wsX6_wantsBy 4 (some .boolean)) 57 kX6_wantsBy_57 :=
  alls _ (s_iconst dX6_wantsBy_57) <|
  alls _ s_fall (alls_nil _)
set_option maxRecDepth 100000 in
theorem sX6_wantsBy_44 (l : Launch) : AllS (pSnd l rmX6_wantsBy yX6_wantsBy.cls cX6_wantsBy wsX6_wantsBy 4 (some .boolean)) 44 kX6_wantsBy_44 :=
  alls _ (s_aload_n rfl dX6_wantsBy_44) <|
  alls _ (s_getf (C := RX6) (T := TX6) (N := 29) rfl (in_c inX6) (by decide) (List.mem_cons_of_mem _ wd_753) rfl dX6_wantsBy_45) <|
  alls _ (s_iload_n rfl dX6_wantsBy_48) <|
  alls _ (s_iald dX6_wantsBy_49) <|
  alls _ (s_if_le (by decide) dX6_wantsBy_50) <|
  alls _ (s_iconst dX6_wantsBy_53) <|
  alls _ (s_goto (by decide) dX6_wantsBy_54) <|
  alls_nil _
set_option maxRecDepth 100000 in
theorem sX6_wantsBy_0 (l : Launch) : AllS (pSnd l rmX6_wantsBy yX6_wantsBy.cls cX6_wantsBy wsX6_wantsBy 4 (some .boolean)) 0 kX6_wantsBy_0 :=
  alls _ (s_aload_n rfl dX6_wantsBy_0) <|
  alls _ (s_getf (C := RX6) (T := TX6) (N := 29) rfl (in_c inX6) (by decide) (List.mem_cons_of_mem _ wd_749) rfl dX6_wantsBy_1) <|
  alls _ (s_iload_n rfl dX6_wantsBy_4) <|
  alls _ (s_iald dX6_wantsBy_5) <|
  alls _ (s_tsw (by decide) (by decide) (by decide) (by decide) dX6_wantsBy_6) <|
  alls_nil _
def KX6_wantsBy : List (Nat × pProg) := [(0, kX6_wantsBy_0), (44, kX6_wantsBy_44), (57, kX6_wantsBy_57), (58, kX6_wantsBy_58), (59, kX6_wantsBy_59), (88, kX6_wantsBy_88), (89, kX6_wantsBy_89), (90, kX6_wantsBy_90), (92, kX6_wantsBy_92), (102, kX6_wantsBy_102), (103, kX6_wantsBy_103), (104, kX6_wantsBy_104), (121, kX6_wantsBy_121), (122, kX6_wantsBy_122), (123, kX6_wantsBy_123)]
theorem bX6_wantsBy_0 : blkOf KX6_wantsBy 0 = some kX6_wantsBy_0 := rfl
theorem bX6_wantsBy_44 : blkOf KX6_wantsBy 44 = some kX6_wantsBy_44 := rfl
theorem bX6_wantsBy_57 : blkOf KX6_wantsBy 57 = some kX6_wantsBy_57 := rfl
theorem bX6_wantsBy_58 : blkOf KX6_wantsBy 58 = some kX6_wantsBy_58 := rfl
theorem bX6_wantsBy_59 : blkOf KX6_wantsBy 59 = some kX6_wantsBy_59 := rfl
theorem bX6_wantsBy_88 : blkOf KX6_wantsBy 88 = some kX6_wantsBy_88 := rfl
theorem bX6_wantsBy_89 : blkOf KX6_wantsBy 89 = some kX6_wantsBy_89 := rfl
theorem bX6_wantsBy_90 : blkOf KX6_wantsBy 90 = some kX6_wantsBy_90 := rfl
theorem bX6_wantsBy_92 : blkOf KX6_wantsBy 92 = some kX6_wantsBy_92 := rfl
theorem bX6_wantsBy_102 : blkOf KX6_wantsBy 102 = some kX6_wantsBy_102 := rfl
theorem bX6_wantsBy_103 : blkOf KX6_wantsBy 103 = some kX6_wantsBy_103 := rfl
theorem bX6_wantsBy_104 : blkOf KX6_wantsBy 104 = some kX6_wantsBy_104 := rfl
theorem bX6_wantsBy_121 : blkOf KX6_wantsBy 121 = some kX6_wantsBy_121 := rfl
theorem bX6_wantsBy_122 : blkOf KX6_wantsBy 122 = some kX6_wantsBy_122 := rfl
theorem bX6_wantsBy_123 : blkOf KX6_wantsBy 123 = some kX6_wantsBy_123 := rfl
def tX6_wantsBy : pT := pM KX6_wantsBy 4
theorem ct_X6_wantsBy (l : Launch) : pCtr l yX6_wantsBy wsX6_wantsBy rmX6_wantsBy 4 tX6_wantsBy := ctr_of (by decide +kernel) rfl (List.forall_mem_cons.mpr ⟨sX6_wantsBy_0 l, List.forall_mem_cons.mpr ⟨sX6_wantsBy_44 l, List.forall_mem_cons.mpr ⟨sX6_wantsBy_57 l, List.forall_mem_cons.mpr ⟨sX6_wantsBy_58 l, List.forall_mem_cons.mpr ⟨sX6_wantsBy_59 l, List.forall_mem_cons.mpr ⟨sX6_wantsBy_88 l, List.forall_mem_cons.mpr ⟨sX6_wantsBy_89 l, List.forall_mem_cons.mpr ⟨sX6_wantsBy_90 l, List.forall_mem_cons.mpr ⟨sX6_wantsBy_92 l, List.forall_mem_cons.mpr ⟨sX6_wantsBy_102 l, List.forall_mem_cons.mpr ⟨sX6_wantsBy_103 l, List.forall_mem_cons.mpr ⟨sX6_wantsBy_104 l, List.forall_mem_cons.mpr ⟨sX6_wantsBy_121 l, List.forall_mem_cons.mpr ⟨sX6_wantsBy_122 l, List.forall_mem_cons.mpr ⟨sX6_wantsBy_123 l, fun _ h => absurd h List.not_mem_nil⟩⟩⟩⟩⟩⟩⟩⟩⟩⟩⟩⟩⟩⟩⟩)
theorem dX6_wants_0 : decode cX6_wants 0 = .ok (.iload_n 1, 1) := by decide +kernel
theorem dX6_wants_1 : decode cX6_wants 1 = .ok (.iconst 2, 1) := by decide +kernel
theorem dX6_wants_2 : decode cX6_wants 2 = .ok (.idiv, 1) := by decide +kernel
theorem dX6_wants_3 : decode cX6_wants 3 = .ok (.istore_n 3, 1) := by decide +kernel
theorem dX6_wants_4 : decode cX6_wants 4 = .ok (.aload_n 0, 1) := by decide +kernel
theorem dX6_wants_5 : decode cX6_wants 5 = .ok (.getfield 163, 3) := by decide +kernel
theorem dX6_wants_8 : decode cX6_wants 8 = .ok (.ifCond .eq 16, 3) := by decide +kernel
theorem dX6_wants_11 : decode cX6_wants 11 = .ok (.iload_n 1, 1) := by decide +kernel
theorem dX6_wants_12 : decode cX6_wants 12 = .ok (.iconst 2, 1) := by decide +kernel
theorem dX6_wants_13 : decode cX6_wants 13 = .ok (.irem, 1) := by decide +kernel
theorem dX6_wants_14 : decode cX6_wants 14 = .ok (.iconst 1, 1) := by decide +kernel
theorem dX6_wants_15 : decode cX6_wants 15 = .ok (.if_icmp .ne 7, 3) := by decide +kernel
theorem dX6_wants_18 : decode cX6_wants 18 = .ok (.iconst 1, 1) := by decide +kernel
theorem dX6_wants_19 : decode cX6_wants 19 = .ok (.goto 4, 3) := by decide +kernel
theorem dX6_wants_22 : decode cX6_wants 22 = .ok (.iconst 0, 1) := by decide +kernel
theorem dX6_wants_23 : decode cX6_wants 23 = .ok (.ireturn, 1) := by decide +kernel
theorem dX6_wants_24 : decode cX6_wants 24 = .ok (.aload_n 0, 1) := by decide +kernel
theorem dX6_wants_25 : decode cX6_wants 25 = .ok (.getfield 166, 3) := by decide +kernel
theorem dX6_wants_28 : decode cX6_wants 28 = .ok (.ifCond .le 24, 3) := by decide +kernel
theorem dX6_wants_31 : decode cX6_wants 31 = .ok (.iload_n 3, 1) := by decide +kernel
theorem dX6_wants_32 : decode cX6_wants 32 = .ok (.aload_n 0, 1) := by decide +kernel
theorem dX6_wants_33 : decode cX6_wants 33 = .ok (.getfield 172, 3) := by decide +kernel
theorem dX6_wants_36 : decode cX6_wants 36 = .ok (.if_icmp .ne 16, 3) := by decide +kernel
theorem dX6_wants_39 : decode cX6_wants 39 = .ok (.aload_n 0, 1) := by decide +kernel
theorem dX6_wants_40 : decode cX6_wants 40 = .ok (.getfield 166, 3) := by decide +kernel
theorem dX6_wants_43 : decode cX6_wants 43 = .ok (.iconst 1, 1) := by decide +kernel
theorem dX6_wants_44 : decode cX6_wants 44 = .ok (.iload_n 1, 1) := by decide +kernel
theorem dX6_wants_45 : decode cX6_wants 45 = .ok (.iconst 2, 1) := by decide +kernel
theorem dX6_wants_46 : decode cX6_wants 46 = .ok (.irem, 1) := by decide +kernel
theorem dX6_wants_47 : decode cX6_wants 47 = .ok (.isub, 1) := by decide +kernel
theorem dX6_wants_48 : decode cX6_wants 48 = .ok (.invokestatic 175, 3) := by decide +kernel
theorem dX6_wants_51 : decode cX6_wants 51 = .ok (.ireturn, 1) := by decide +kernel
theorem dX6_wants_52 : decode cX6_wants 52 = .ok (.aload_n 0, 1) := by decide +kernel
theorem dX6_wants_53 : decode cX6_wants 53 = .ok (.iload_n 1, 1) := by decide +kernel
theorem dX6_wants_54 : decode cX6_wants 54 = .ok (.iload_n 3, 1) := by decide +kernel
theorem dX6_wants_55 : decode cX6_wants 55 = .ok (.iload_n 2, 1) := by decide +kernel
theorem dX6_wants_56 : decode cX6_wants 56 = .ok (.invokevirtual 178, 3) := by decide +kernel
theorem dX6_wants_59 : decode cX6_wants 59 = .ok (.ireturn, 1) := by decide +kernel
def rmX6_wants : Room := { frames := 1, cells := 0, slots := 0, locals := 23 }
abbrev wsX6_wants : List Cond := .code yX6_wants cX6_wants 4 (some .boolean) :: gw_tbl
def kX6_wants_52 : pProg := (52, 1, a_aload 0) :: (53, 1, a_iload 1) :: (54, 1, a_iload 3) :: (55, 1, a_iload 2) :: (56, 3, a_callv 4 4 [0, 1, 2, 3, 4, 5, 6, 7, 8, 9, 10, 11, 12, 13, 14, 15, 16] tX6_wantsBy) :: (59, 1, a_zret) :: []
def kX6_wants_24 : pProg := (24, 1, a_aload 0) :: (25, 3, a_getf 0 4 21) :: (28, 3, a_if_le 52) :: (31, 1, a_iload 3) :: (32, 1, a_aload 0) :: (33, 3, a_getf 0 4 22) :: (36, 3, a_icmp_ne 52) :: (39, 1, a_aload 0) :: (40, 3, a_getf 0 4 21) :: (43, 1, a_iconst 1) :: (44, 1, a_iload 1) :: (45, 1, a_iconst 2) :: (46, 1, a_irem) :: (47, 1, a_isub) :: (48, 3, a_calls 2 [] tX6_has) :: (51, 1, a_zret) :: []
def kX6_wants_23 : pProg := (23, 1, a_zret) :: []
def kX6_wants_22 : pProg := (22, 1, a_iconst 0) :: (23, 0, a_fall 23) :: []
def kX6_wants_0 : pProg := (0, 1, a_iload 1) :: (1, 1, a_iconst 2) :: (2, 1, a_idiv) :: (3, 1, a_istore 3) :: (4, 1, a_aload 0) :: (5, 3, a_getf 0 4 20) :: (8, 3, a_if_eq 24) :: (11, 1, a_iload 1) :: (12, 1, a_iconst 2) :: (13, 1, a_irem) :: (14, 1, a_iconst 1) :: (15, 3, a_icmp_ne 22) :: (18, 1, a_iconst 1) :: (19, 3, a_goto 23) :: []
set_option maxRecDepth 100000 in
theorem sX6_wants_52 (l : Launch) : AllS (pSnd l rmX6_wants yX6_wants.cls cX6_wants wsX6_wants 4 (some .boolean)) 52 kX6_wants_52 :=
  alls _ (s_aload_n rfl dX6_wants_52) <|
  alls _ (s_iload_n rfl dX6_wants_53) <|
  alls _ (s_iload_n rfl dX6_wants_54) <|
  alls _ (s_iload_n rfl dX6_wants_55) <|
  alls _ (s_callv (ct_X6_wantsBy l) rfl rfl rfl (gdV wd_953 wd_955 wd_34 wd_65 wd_956) rfl rfl (by decide +kernel) ⟨Nat.le_of_ble_eq_true rfl, Nat.le_of_ble_eq_true rfl⟩ dX6_wants_56) <|
  alls _ (s_zret dX6_wants_59) <|
  alls_nil _
set_option maxRecDepth 100000 in
theorem sX6_wants_24 (l : Launch) : AllS (pSnd l rmX6_wants yX6_wants.cls cX6_wants wsX6_wants 4 (some .boolean)) 24 kX6_wants_24 :=
  alls _ (s_aload_n rfl dX6_wants_24) <|
  alls _ (s_getf (C := RX6) (T := TX6) (N := 29) rfl (in_c inX6) (by decide) (List.mem_cons_of_mem _ wd_768) rfl dX6_wants_25) <|
  alls _ (s_if_le (by decide) dX6_wants_28) <|
  alls _ (s_iload_n rfl dX6_wants_31) <|
  alls _ (s_aload_n rfl dX6_wants_32) <|
  alls _ (s_getf (C := RX6) (T := TX6) (N := 29) rfl (in_c inX6) (by decide) (List.mem_cons_of_mem _ wd_769) rfl dX6_wants_33) <|
  alls _ (s_icmp_ne (by decide) dX6_wants_36) <|
  alls _ (s_aload_n rfl dX6_wants_39) <|
  alls _ (s_getf (C := RX6) (T := TX6) (N := 29) rfl (in_c inX6) (by decide) (List.mem_cons_of_mem _ wd_768) rfl dX6_wants_40) <|
  alls _ (s_iconst dX6_wants_43) <|
  alls _ (s_iload_n rfl dX6_wants_44) <|
  alls _ (s_iconst dX6_wants_45) <|
  alls _ (s_irem dX6_wants_46) <|
  alls _ (s_isub dX6_wants_47) <|
  alls _ (s_calls (ct_X6_has l) rfl rfl (gdS wd_952) (List.mem_cons_of_mem _ wd_950) (List.mem_cons_of_mem _ wd_951) (List.mem_cons_of_mem _ wd_65) rfl rfl (by decide +kernel) ⟨Nat.le_of_ble_eq_true rfl, Nat.le_of_ble_eq_true rfl⟩ dX6_wants_48) <|
  alls _ (s_zret dX6_wants_51) <|
  alls_nil _
set_option maxRecDepth 100000 in
theorem sX6_wants_23 (l : Launch) : AllS (pSnd l rmX6_wants yX6_wants.cls cX6_wants wsX6_wants 4 (some .boolean)) 23 kX6_wants_23 :=
  alls _ (s_zret dX6_wants_23) <|
  alls_nil _
set_option maxRecDepth 100000 in
theorem sX6_wants_22 (l : Launch) : AllS (pSnd l rmX6_wants yX6_wants.cls cX6_wants wsX6_wants 4 (some .boolean)) 22 kX6_wants_22 :=
  alls _ (s_iconst dX6_wants_22) <|
  alls _ s_fall (alls_nil _)
set_option maxRecDepth 100000 in
theorem sX6_wants_0 (l : Launch) : AllS (pSnd l rmX6_wants yX6_wants.cls cX6_wants wsX6_wants 4 (some .boolean)) 0 kX6_wants_0 :=
  alls _ (s_iload_n rfl dX6_wants_0) <|
  alls _ (s_iconst dX6_wants_1) <|
  alls _ (s_idiv dX6_wants_2) <|
  alls _ (s_istore_n rfl dX6_wants_3) <|
  alls _ (s_aload_n rfl dX6_wants_4) <|
  alls _ (s_getf (C := RX6) (T := TX6) (N := 29) rfl (in_c inX6) (by decide) (List.mem_cons_of_mem _ wd_767) rfl dX6_wants_5) <|
  alls _ (s_if_eq (by decide) dX6_wants_8) <|
  alls _ (s_iload_n rfl dX6_wants_11) <|
  alls _ (s_iconst dX6_wants_12) <|
  alls _ (s_irem dX6_wants_13) <|
  alls _ (s_iconst dX6_wants_14) <|
  alls _ (s_icmp_ne (by decide) dX6_wants_15) <|
  alls _ (s_iconst dX6_wants_18) <|
  alls _ (s_goto (by decide) dX6_wants_19) <|
  alls_nil _
def KX6_wants : List (Nat × pProg) := [(0, kX6_wants_0), (22, kX6_wants_22), (23, kX6_wants_23), (24, kX6_wants_24), (52, kX6_wants_52)]
theorem bX6_wants_0 : blkOf KX6_wants 0 = some kX6_wants_0 := rfl
theorem bX6_wants_22 : blkOf KX6_wants 22 = some kX6_wants_22 := rfl
theorem bX6_wants_23 : blkOf KX6_wants 23 = some kX6_wants_23 := rfl
theorem bX6_wants_24 : blkOf KX6_wants 24 = some kX6_wants_24 := rfl
theorem bX6_wants_52 : blkOf KX6_wants 52 = some kX6_wants_52 := rfl
def tX6_wants : pT := pM KX6_wants 4
theorem ct_X6_wants (l : Launch) : pCtr l yX6_wants wsX6_wants rmX6_wants 3 tX6_wants := ctr_of (by decide +kernel) rfl (List.forall_mem_cons.mpr ⟨sX6_wants_0 l, List.forall_mem_cons.mpr ⟨sX6_wants_22 l, List.forall_mem_cons.mpr ⟨sX6_wants_23 l, List.forall_mem_cons.mpr ⟨sX6_wants_24 l, List.forall_mem_cons.mpr ⟨sX6_wants_52 l, fun _ h => absurd h List.not_mem_nil⟩⟩⟩⟩⟩)
theorem dX6_speaker_0 : decode cX6_speaker 0 = .ok (.aload_n 0, 1) := by decide +kernel
theorem dX6_speaker_1 : decode cX6_speaker 1 = .ok (.getfield 25, 3) := by decide +kernel
theorem dX6_speaker_4 : decode cX6_speaker 4 = .ok (.iload_n 1, 1) := by decide +kernel
theorem dX6_speaker_5 : decode cX6_speaker 5 = .ok (.iaload, 1) := by decide +kernel
theorem dX6_speaker_6 : decode cX6_speaker 6 = .ok (.bipush 19, 2) := by decide +kernel
theorem dX6_speaker_8 : decode cX6_speaker 8 = .ok (.if_icmp .ne 6, 3) := by decide +kernel
theorem dX6_speaker_11 : decode cX6_speaker 11 = .ok (.bipush (-9), 2) := by decide +kernel
theorem dX6_speaker_13 : decode cX6_speaker 13 = .ok (.ireturn, 1) := by decide +kernel
theorem dX6_speaker_14 : decode cX6_speaker 14 = .ok (.aload_n 0, 1) := by decide +kernel
theorem dX6_speaker_15 : decode cX6_speaker 15 = .ok (.iconst 2, 1) := by decide +kernel
theorem dX6_speaker_16 : decode cX6_speaker 16 = .ok (.iload_n 1, 1) := by decide +kernel
theorem dX6_speaker_17 : decode cX6_speaker 17 = .ok (.imul, 1) := by decide +kernel
theorem dX6_speaker_18 : decode cX6_speaker 18 = .ok (.iload_n 2, 1) := by decide +kernel
theorem dX6_speaker_19 : decode cX6_speaker 19 = .ok (.invokevirtual 181, 3) := by decide +kernel
theorem dX6_speaker_22 : decode cX6_speaker 22 = .ok (.ifCond .eq 7, 3) := by decide +kernel
theorem dX6_speaker_25 : decode cX6_speaker 25 = .ok (.iconst 0, 1) := by decide +kernel
theorem dX6_speaker_26 : decode cX6_speaker 26 = .ok (.goto 22, 3) := by decide +kernel
theorem dX6_speaker_29 : decode cX6_speaker 29 = .ok (.aload_n 0, 1) := by decide +kernel
theorem dX6_speaker_30 : decode cX6_speaker 30 = .ok (.iconst 2, 1) := by decide +kernel
theorem dX6_speaker_31 : decode cX6_speaker 31 = .ok (.iload_n 1, 1) := by decide +kernel
theorem dX6_speaker_32 : decode cX6_speaker 32 = .ok (.imul, 1) := by decide +kernel
theorem dX6_speaker_33 : decode cX6_speaker 33 = .ok (.iconst 1, 1) := by decide +kernel
theorem dX6_speaker_34 : decode cX6_speaker 34 = .ok (.iadd, 1) := by decide +kernel
theorem dX6_speaker_35 : decode cX6_speaker 35 = .ok (.iload_n 2, 1) := by decide +kernel
theorem dX6_speaker_36 : decode cX6_speaker 36 = .ok (.invokevirtual 181, 3) := by decide +kernel
theorem dX6_speaker_39 : decode cX6_speaker 39 = .ok (.ifCond .eq 7, 3) := by decide +kernel
theorem dX6_speaker_42 : decode cX6_speaker 42 = .ok (.iconst 1, 1) := by decide +kernel
theorem dX6_speaker_43 : decode cX6_speaker 43 = .ok (.goto 5, 3) := by decide +kernel
theorem dX6_speaker_46 : decode cX6_speaker 46 = .ok (.bipush (-9), 2) := by decide +kernel
theorem dX6_speaker_48 : decode cX6_speaker 48 = .ok (.ireturn, 1) := by decide +kernel
def rmX6_speaker : Room := { frames := 2, cells := 0, slots := 0, locals := 46 }
abbrev wsX6_speaker : List Cond := .code yX6_speaker cX6_speaker 3 (some .int) :: gw_tbl
def kX6_speaker_48 : pProg := (48, 1, a_iret) :: []
def kX6_speaker_46 : pProg := (46, 2, a_iconst (-9)) :: (48, 0, a_fall 48) :: []
def kX6_speaker_29 : pProg := (29, 1, a_aload 0) :: (30, 1, a_iconst 2) :: (31, 1, a_iload 1) :: (32, 1, a_imul) :: (33, 1, a_iconst 1) :: (34, 1, a_iadd) :: (35, 1, a_iload 2) :: (36, 3, a_callv 3 4 [0, 1, 2, 3, 4, 5, 6, 7, 8, 9, 10, 11, 12, 13, 14, 15, 16] tX6_wants) :: (39, 3, a_if_eq 46) :: (42, 1, a_iconst 1) :: (43, 3, a_goto 48) :: []
def kX6_speaker_14 : pProg := (14, 1, a_aload 0) :: (15, 1, a_iconst 2) :: (16, 1, a_iload 1) :: (17, 1, a_imul) :: (18, 1, a_iload 2) :: (19, 3, a_callv 3 4 [0, 1, 2, 3, 4, 5, 6, 7, 8, 9, 10, 11, 12, 13, 14, 15, 16] tX6_wants) :: (22, 3, a_if_eq 29) :: (25, 1, a_iconst 0) :: (26, 3, a_goto 48) :: []
def kX6_speaker_0 : pProg := (0, 1, a_aload 0) :: (1, 3, a_getf 0 4 5) :: (4, 1, a_iload 1) :: (5, 1, a_iald 6) :: (6, 2, a_iconst 19) :: (8, 3, a_icmp_ne 14) :: (11, 2, a_iconst (-9)) :: (13, 1, a_iret) :: []
set_option maxRecDepth 100000 in
theorem sX6_speaker_48 (l : Launch) : AllS (pSnd l rmX6_speaker yX6_speaker.cls cX6_speaker wsX6_speaker 3 (some .int)) 48 kX6_speaker_48 :=
  alls _ (s_iret dX6_speaker_48) <|
  alls_nil _
set_option maxRecDepth 100000 in
theorem sX6_speaker_46 (l : Launch) : AllS (pSnd l rmX6_speaker yX6_speaker.cls cX6_speaker wsX6_speaker 3 (some .int)) 46 kX6_speaker_46 :=
  alls _ (s_bipush (by decide) dX6_speaker_46) <|
  alls _ s_fall (alls_nil _)
set_option maxRecDepth 100000 in
theorem sX6_speaker_29 (l : Launch) : AllS (pSnd l rmX6_speaker yX6_speaker.cls cX6_speaker wsX6_speaker 3 (some .int)) 29 kX6_speaker_29 :=
  alls _ (s_aload_n rfl dX6_speaker_29) <|
  alls _ (s_iconst dX6_speaker_30) <|
  alls _ (s_iload_n rfl dX6_speaker_31) <|
  alls _ (s_imul dX6_speaker_32) <|
  alls _ (s_iconst dX6_speaker_33) <|
  alls _ (s_iadd dX6_speaker_34) <|
  alls _ (s_iload_n rfl dX6_speaker_35) <|
  alls _ (s_callv (ct_X6_wants l) rfl rfl rfl (gdV wd_946 wd_948 wd_33 wd_65 wd_949) rfl rfl (by decide +kernel) ⟨Nat.le_of_ble_eq_true rfl, Nat.le_of_ble_eq_true rfl⟩ dX6_speaker_36) <|
  alls _ (s_if_eq (by decide) dX6_speaker_39) <|
  alls _ (s_iconst dX6_speaker_42) <|
  alls _ (s_goto (by decide) dX6_speaker_43) <|
  alls_nil _
set_option maxRecDepth 100000 in
theorem sX6_speaker_14 (l : Launch) : AllS (pSnd l rmX6_speaker yX6_speaker.cls cX6_speaker wsX6_speaker 3 (some .int)) 14 kX6_speaker_14 :=
  alls _ (s_aload_n rfl dX6_speaker_14) <|
  alls _ (s_iconst dX6_speaker_15) <|
  alls _ (s_iload_n rfl dX6_speaker_16) <|
  alls _ (s_imul dX6_speaker_17) <|
  alls _ (s_iload_n rfl dX6_speaker_18) <|
  alls _ (s_callv (ct_X6_wants l) rfl rfl rfl (gdV wd_946 wd_948 wd_33 wd_65 wd_949) rfl rfl (by decide +kernel) ⟨Nat.le_of_ble_eq_true rfl, Nat.le_of_ble_eq_true rfl⟩ dX6_speaker_19) <|
  alls _ (s_if_eq (by decide) dX6_speaker_22) <|
  alls _ (s_iconst dX6_speaker_25) <|
  alls _ (s_goto (by decide) dX6_speaker_26) <|
  alls_nil _
set_option maxRecDepth 100000 in
theorem sX6_speaker_0 (l : Launch) : AllS (pSnd l rmX6_speaker yX6_speaker.cls cX6_speaker wsX6_speaker 3 (some .int)) 0 kX6_speaker_0 :=
  alls _ (s_aload_n rfl dX6_speaker_0) <|
  alls _ (s_getf (C := RX6) (T := TX6) (N := 29) rfl (in_c inX6) (by decide) (List.mem_cons_of_mem _ wd_752) rfl dX6_speaker_1) <|
  alls _ (s_iload_n rfl dX6_speaker_4) <|
  alls _ (s_iald dX6_speaker_5) <|
  alls _ (s_bipush (by decide) dX6_speaker_6) <|
  alls _ (s_icmp_ne (by decide) dX6_speaker_8) <|
  alls _ (s_bipush (by decide) dX6_speaker_11) <|
  alls _ (s_iret dX6_speaker_13) <|
  alls_nil _
def KX6_speaker : List (Nat × pProg) := [(0, kX6_speaker_0), (14, kX6_speaker_14), (29, kX6_speaker_29), (46, kX6_speaker_46), (48, kX6_speaker_48)]
theorem bX6_speaker_0 : blkOf KX6_speaker 0 = some kX6_speaker_0 := rfl
theorem bX6_speaker_14 : blkOf KX6_speaker 14 = some kX6_speaker_14 := rfl
theorem bX6_speaker_29 : blkOf KX6_speaker 29 = some kX6_speaker_29 := rfl
theorem bX6_speaker_46 : blkOf KX6_speaker 46 = some kX6_speaker_46 := rfl
theorem bX6_speaker_48 : blkOf KX6_speaker 48 = some kX6_speaker_48 := rfl
def tX6_speaker : pT := pM KX6_speaker 3
theorem ct_X6_speaker (l : Launch) : pCtr l yX6_speaker wsX6_speaker rmX6_speaker 3 tX6_speaker := ctr_of (by decide +kernel) rfl (List.forall_mem_cons.mpr ⟨sX6_speaker_0 l, List.forall_mem_cons.mpr ⟨sX6_speaker_14 l, List.forall_mem_cons.mpr ⟨sX6_speaker_29 l, List.forall_mem_cons.mpr ⟨sX6_speaker_46 l, List.forall_mem_cons.mpr ⟨sX6_speaker_48 l, fun _ h => absurd h List.not_mem_nil⟩⟩⟩⟩⟩)
theorem dX6_stepsOf_0 : decode cX6_stepsOf 0 = .ok (.aload_n 0, 1) := by decide +kernel
theorem dX6_stepsOf_1 : decode cX6_stepsOf 1 = .ok (.getfield 16, 3) := by decide +kernel
theorem dX6_stepsOf_4 : decode cX6_stepsOf 4 = .ok (.iload_n 1, 1) := by decide +kernel
theorem dX6_stepsOf_5 : decode cX6_stepsOf 5 = .ok (.iaload, 1) := by decide +kernel
theorem dX6_stepsOf_6 : decode cX6_stepsOf 6 = .ok (.tableswitch 42 0 5 #[38, 38, 42, 40, 42, 38], 38) := by decide +kernel
theorem dX6_stepsOf_44 : decode cX6_stepsOf 44 = .ok (.iconst 2, 1) := by decide +kernel
theorem dX6_stepsOf_45 : decode cX6_stepsOf 45 = .ok (.ireturn, 1) := by decide +kernel
theorem dX6_stepsOf_46 : decode cX6_stepsOf 46 = .ok (.iconst 3, 1) := by decide +kernel
theorem dX6_stepsOf_47 : decode cX6_stepsOf 47 = .ok (.ireturn, 1) := by decide +kernel
theorem dX6_stepsOf_48 : decode cX6_stepsOf 48 = .ok (.iconst 1, 1) := by decide +kernel
theorem dX6_stepsOf_49 : decode cX6_stepsOf 49 = .ok (.ireturn, 1) := by decide +kernel
def rmX6_stepsOf : Room := { frames := 0, cells := 0, slots := 0, locals := 0 }
abbrev wsX6_stepsOf : List Cond := .code yX6_stepsOf cX6_stepsOf 2 (some .int) :: gw_tbl
def kX6_stepsOf_48 : pProg := (48, 1, a_iconst 1) :: (49, 1, a_iret) :: []
def kX6_stepsOf_46 : pProg := (46, 1, a_iconst 3) :: (47, 1, a_iret) :: []
def kX6_stepsOf_44 : pProg := (44, 1, a_iconst 2) :: (45, 1, a_iret) :: []
def kX6_stepsOf_0 : pProg := (0, 1, a_aload 0) :: (1, 3, a_getf 0 4 2) :: (4, 1, a_iload 1) :: (5, 1, a_iald 3) :: (6, 38, a_lsw [(0, 44), (1, 44), (2, 48), (3, 46), (4, 48), (5, 44)] 48) :: []
set_option maxRecDepth 100000 in
theorem sX6_stepsOf_48 (l : Launch) : AllS (pSnd l rmX6_stepsOf yX6_stepsOf.cls cX6_stepsOf wsX6_stepsOf 2 (some .int)) 48 kX6_stepsOf_48 :=
  alls _ (s_iconst dX6_stepsOf_48) <|
  alls _ (s_iret dX6_stepsOf_49) <|
  alls_nil _
set_option maxRecDepth 100000 in
theorem sX6_stepsOf_46 (l : Launch) : AllS (pSnd l rmX6_stepsOf yX6_stepsOf.cls cX6_stepsOf wsX6_stepsOf 2 (some .int)) 46 kX6_stepsOf_46 :=
  alls _ (s_iconst dX6_stepsOf_46) <|
  alls _ (s_iret dX6_stepsOf_47) <|
  alls_nil _
set_option maxRecDepth 100000 in
theorem sX6_stepsOf_44 (l : Launch) : AllS (pSnd l rmX6_stepsOf yX6_stepsOf.cls cX6_stepsOf wsX6_stepsOf 2 (some .int)) 44 kX6_stepsOf_44 :=
  alls _ (s_iconst dX6_stepsOf_44) <|
  alls _ (s_iret dX6_stepsOf_45) <|
  alls_nil _
set_option maxRecDepth 100000 in
theorem sX6_stepsOf_0 (l : Launch) : AllS (pSnd l rmX6_stepsOf yX6_stepsOf.cls cX6_stepsOf wsX6_stepsOf 2 (some .int)) 0 kX6_stepsOf_0 :=
  alls _ (s_aload_n rfl dX6_stepsOf_0) <|
  alls _ (s_getf (C := RX6) (T := TX6) (N := 29) rfl (in_c inX6) (by decide) (List.mem_cons_of_mem _ wd_749) rfl dX6_stepsOf_1) <|
  alls _ (s_iload_n rfl dX6_stepsOf_4) <|
  alls _ (s_iald dX6_stepsOf_5) <|
  alls _ (s_tsw (by decide) (by decide) (by decide) (by decide) dX6_stepsOf_6) <|
  alls_nil _
def KX6_stepsOf : List (Nat × pProg) := [(0, kX6_stepsOf_0), (44, kX6_stepsOf_44), (46, kX6_stepsOf_46), (48, kX6_stepsOf_48)]
theorem bX6_stepsOf_0 : blkOf KX6_stepsOf 0 = some kX6_stepsOf_0 := rfl
theorem bX6_stepsOf_44 : blkOf KX6_stepsOf 44 = some kX6_stepsOf_44 := rfl
theorem bX6_stepsOf_46 : blkOf KX6_stepsOf 46 = some kX6_stepsOf_46 := rfl
theorem bX6_stepsOf_48 : blkOf KX6_stepsOf 48 = some kX6_stepsOf_48 := rfl
def tX6_stepsOf : pT := pM KX6_stepsOf 2
theorem ct_X6_stepsOf (l : Launch) : pCtr l yX6_stepsOf wsX6_stepsOf rmX6_stepsOf 2 tX6_stepsOf := ctr_of (by decide +kernel) rfl (List.forall_mem_cons.mpr ⟨sX6_stepsOf_0 l, List.forall_mem_cons.mpr ⟨sX6_stepsOf_44 l, List.forall_mem_cons.mpr ⟨sX6_stepsOf_46 l, List.forall_mem_cons.mpr ⟨sX6_stepsOf_48 l, fun _ h => absurd h List.not_mem_nil⟩⟩⟩⟩)
theorem dX6_faceAtMost_0 : decode cX6_faceAtMost 0 = .ok (.iload_n 0, 1) := by decide +kernel
theorem dX6_faceAtMost_1 : decode cX6_faceAtMost 1 = .ok (.bipush 19, 2) := by decide +kernel
theorem dX6_faceAtMost_3 : decode cX6_faceAtMost 3 = .ok (.if_icmp .le 8, 3) := by decide +kernel
theorem dX6_faceAtMost_6 : decode cX6_faceAtMost 6 = .ok (.bipush 19, 2) := by decide +kernel
theorem dX6_faceAtMost_8 : decode cX6_faceAtMost 8 = .ok (.goto 4, 3) := by decide +kernel
theorem dX6_faceAtMost_11 : decode cX6_faceAtMost 11 = .ok (.iload_n 0, 1) := by decide +kernel
theorem dX6_faceAtMost_12 : decode cX6_faceAtMost 12 = .ok (.ireturn, 1) := by decide +kernel
def rmX6_faceAtMost : Room := { frames := 0, cells := 0, slots := 0, locals := 0 }
abbrev wsX6_faceAtMost : List Cond := .code yX6_faceAtMost cX6_faceAtMost 1 (some .int) :: gw_tbl
def kX6_faceAtMost_12 : pProg := (12, 1, a_iret) :: []
def kX6_faceAtMost_11 : pProg := (11, 1, a_iload 0) :: (12, 0, a_fall 12) :: []
def kX6_faceAtMost_0 : pProg := (0, 1, a_iload 0) :: (1, 2, a_iconst 19) :: (3, 3, a_icmp_le 11) :: (6, 2, a_iconst 19) :: (8, 3, a_goto 12) :: []
set_option maxRecDepth 100000 in
theorem sX6_faceAtMost_12 (l : Launch) : AllS (pSnd l rmX6_faceAtMost yX6_faceAtMost.cls cX6_faceAtMost wsX6_faceAtMost 1 (some .int)) 12 kX6_faceAtMost_12 :=
  alls _ (s_iret dX6_faceAtMost_12) <|
  alls_nil _
set_option maxRecDepth 100000 in
theorem sX6_faceAtMost_11 (l : Launch) : AllS (pSnd l rmX6_faceAtMost yX6_faceAtMost.cls cX6_faceAtMost wsX6_faceAtMost 1 (some .int)) 11 kX6_faceAtMost_11 :=
  alls _ (s_iload_n rfl dX6_faceAtMost_11) <|
  alls _ s_fall (alls_nil _)
set_option maxRecDepth 100000 in
theorem sX6_faceAtMost_0 (l : Launch) : AllS (pSnd l rmX6_faceAtMost yX6_faceAtMost.cls cX6_faceAtMost wsX6_faceAtMost 1 (some .int)) 0 kX6_faceAtMost_0 :=
  alls _ (s_iload_n rfl dX6_faceAtMost_0) <|
  alls _ (s_bipush (by decide) dX6_faceAtMost_1) <|
  alls _ (s_icmp_le (by decide) dX6_faceAtMost_3) <|
  alls _ (s_bipush (by decide) dX6_faceAtMost_6) <|
  alls _ (s_goto (by decide) dX6_faceAtMost_8) <|
  alls_nil _
def KX6_faceAtMost : List (Nat × pProg) := [(0, kX6_faceAtMost_0), (11, kX6_faceAtMost_11), (12, kX6_faceAtMost_12)]
theorem bX6_faceAtMost_0 : blkOf KX6_faceAtMost 0 = some kX6_faceAtMost_0 := rfl
theorem bX6_faceAtMost_11 : blkOf KX6_faceAtMost 11 = some kX6_faceAtMost_11 := rfl
theorem bX6_faceAtMost_12 : blkOf KX6_faceAtMost 12 = some kX6_faceAtMost_12 := rfl
def tX6_faceAtMost : pT := pM KX6_faceAtMost 1
theorem ct_X6_faceAtMost (l : Launch) : pCtr l yX6_faceAtMost wsX6_faceAtMost rmX6_faceAtMost 1 tX6_faceAtMost := ctr_of (by decide +kernel) rfl (List.forall_mem_cons.mpr ⟨sX6_faceAtMost_0 l, List.forall_mem_cons.mpr ⟨sX6_faceAtMost_11 l, List.forall_mem_cons.mpr ⟨sX6_faceAtMost_12 l, fun _ h => absurd h List.not_mem_nil⟩⟩⟩)
theorem dX6_held_0 : decode cX6_held 0 = .ok (.iload_n 0, 1) := by decide +kernel
theorem dX6_held_1 : decode cX6_held 1 = .ok (.bipush 99, 2) := by decide +kernel
theorem dX6_held_3 : decode cX6_held 3 = .ok (.if_icmp .le 8, 3) := by decide +kernel
theorem dX6_held_6 : decode cX6_held 6 = .ok (.bipush 99, 2) := by decide +kernel
theorem dX6_held_8 : decode cX6_held 8 = .ok (.goto 4, 3) := by decide +kernel
theorem dX6_held_11 : decode cX6_held 11 = .ok (.iload_n 0, 1) := by decide +kernel
theorem dX6_held_12 : decode cX6_held 12 = .ok (.ireturn, 1) := by decide +kernel
def rmX6_held : Room := { frames := 0, cells := 0, slots := 0, locals := 0 }
abbrev wsX6_held : List Cond := .code yX6_held cX6_held 1 (some .int) :: gw_tbl
def kX6_held_12 : pProg := (12, 1, a_iret) :: []
def kX6_held_11 : pProg := (11, 1, a_iload 0) :: (12, 0, a_fall 12) :: []
def kX6_held_0 : pProg := (0, 1, a_iload 0) :: (1, 2, a_iconst 99) :: (3, 3, a_icmp_le 11) :: (6, 2, a_iconst 99) :: (8, 3, a_goto 12) :: []
set_option maxRecDepth 100000 in
theorem sX6_held_12 (l : Launch) : AllS (pSnd l rmX6_held yX6_held.cls cX6_held wsX6_held 1 (some .int)) 12 kX6_held_12 :=
  alls _ (s_iret dX6_held_12) <|
  alls_nil _
set_option maxRecDepth 100000 in
theorem sX6_held_11 (l : Launch) : AllS (pSnd l rmX6_held yX6_held.cls cX6_held wsX6_held 1 (some .int)) 11 kX6_held_11 :=
  alls _ (s_iload_n rfl dX6_held_11) <|
  alls _ s_fall (alls_nil _)
set_option maxRecDepth 100000 in
theorem sX6_held_0 (l : Launch) : AllS (pSnd l rmX6_held yX6_held.cls cX6_held wsX6_held 1 (some .int)) 0 kX6_held_0 :=
  alls _ (s_iload_n rfl dX6_held_0) <|
  alls _ (s_bipush (by decide) dX6_held_1) <|
  alls _ (s_icmp_le (by decide) dX6_held_3) <|
  alls _ (s_bipush (by decide) dX6_held_6) <|
  alls _ (s_goto (by decide) dX6_held_8) <|
  alls_nil _
def KX6_held : List (Nat × pProg) := [(0, kX6_held_0), (11, kX6_held_11), (12, kX6_held_12)]
theorem bX6_held_0 : blkOf KX6_held 0 = some kX6_held_0 := rfl
theorem bX6_held_11 : blkOf KX6_held 11 = some kX6_held_11 := rfl
theorem bX6_held_12 : blkOf KX6_held 12 = some kX6_held_12 := rfl
def tX6_held : pT := pM KX6_held 1
theorem ct_X6_held (l : Launch) : pCtr l yX6_held wsX6_held rmX6_held 1 tX6_held := ctr_of (by decide +kernel) rfl (List.forall_mem_cons.mpr ⟨sX6_held_0 l, List.forall_mem_cons.mpr ⟨sX6_held_11 l, List.forall_mem_cons.mpr ⟨sX6_held_12 l, fun _ h => absurd h List.not_mem_nil⟩⟩⟩)
theorem dX6_goesPair_0 : decode cX6_goesPair 0 = .ok (.aload_n 0, 1) := by decide +kernel
theorem dX6_goesPair_1 : decode cX6_goesPair 1 = .ok (.getfield 25, 3) := by decide +kernel
theorem dX6_goesPair_4 : decode cX6_goesPair 4 = .ok (.iload_n 1, 1) := by decide +kernel
theorem dX6_goesPair_5 : decode cX6_goesPair 5 = .ok (.iaload, 1) := by decide +kernel
theorem dX6_goesPair_6 : decode cX6_goesPair 6 = .ok (.bipush 19, 2) := by decide +kernel
theorem dX6_goesPair_8 : decode cX6_goesPair 8 = .ok (.if_icmp .ne 4, 3) := by decide +kernel
theorem dX6_goesPair_11 : decode cX6_goesPair 11 = .ok (.return_, 1) := by decide +kernel
theorem dX6_goesPair_12 : decode cX6_goesPair 12 = .ok (.aload_n 0, 1) := by decide +kernel
theorem dX6_goesPair_13 : decode cX6_goesPair 13 = .ok (.iload_n 1, 1) := by decide +kernel
theorem dX6_goesPair_14 : decode cX6_goesPair 14 = .ok (.aload_n 0, 1) := by decide +kernel
theorem dX6_goesPair_15 : decode cX6_goesPair 15 = .ok (.getfield 112, 3) := by decide +kernel
theorem dX6_goesPair_18 : decode cX6_goesPair 18 = .ok (.invokevirtual 184, 3) := by decide +kernel
theorem dX6_goesPair_21 : decode cX6_goesPair 21 = .ok (.istore_n 2, 1) := by decide +kernel
theorem dX6_goesPair_22 : decode cX6_goesPair 22 = .ok (.iload_n 2, 1) := by decide +kernel
theorem dX6_goesPair_23 : decode cX6_goesPair 23 = .ok (.ifCond .ge 27, 3) := by decide +kernel
theorem dX6_goesPair_26 : decode cX6_goesPair 26 = .ok (.aload_n 0, 1) := by decide +kernel
theorem dX6_goesPair_27 : decode cX6_goesPair 27 = .ok (.getfield 25, 3) := by decide +kernel
theorem dX6_goesPair_30 : decode cX6_goesPair 30 = .ok (.iload_n 1, 1) := by decide +kernel
theorem dX6_goesPair_31 : decode cX6_goesPair 31 = .ok (.aload_n 0, 1) := by decide +kernel
theorem dX6_goesPair_32 : decode cX6_goesPair 32 = .ok (.getfield 25, 3) := by decide +kernel
theorem dX6_goesPair_35 : decode cX6_goesPair 35 = .ok (.iload_n 1, 1) := by decide +kernel
theorem dX6_goesPair_36 : decode cX6_goesPair 36 = .ok (.iaload, 1) := by decide +kernel
theorem dX6_goesPair_37 : decode cX6_goesPair 37 = .ok (.aload_n 0, 1) := by decide +kernel
theorem dX6_goesPair_38 : decode cX6_goesPair 38 = .ok (.iconst 2, 1) := by decide +kernel
theorem dX6_goesPair_39 : decode cX6_goesPair 39 = .ok (.iload_n 1, 1) := by decide +kernel
theorem dX6_goesPair_40 : decode cX6_goesPair 40 = .ok (.imul, 1) := by decide +kernel
theorem dX6_goesPair_41 : decode cX6_goesPair 41 = .ok (.invokevirtual 188, 3) := by decide +kernel
theorem dX6_goesPair_44 : decode cX6_goesPair 44 = .ok (.iadd, 1) := by decide +kernel
theorem dX6_goesPair_45 : decode cX6_goesPair 45 = .ok (.invokestatic 191, 3) := by decide +kernel
theorem dX6_goesPair_48 : decode cX6_goesPair 48 = .ok (.iastore, 1) := by decide +kernel
theorem dX6_goesPair_49 : decode cX6_goesPair 49 = .ok (.return_, 1) := by decide +kernel
theorem dX6_goesPair_50 : decode cX6_goesPair 50 = .ok (.aload_n 0, 1) := by decide +kernel
theorem dX6_goesPair_51 : decode cX6_goesPair 51 = .ok (.getfield 28, 3) := by decide +kernel
theorem dX6_goesPair_54 : decode cX6_goesPair 54 = .ok (.iload_n 1, 1) := by decide +kernel
theorem dX6_goesPair_55 : decode cX6_goesPair 55 = .ok (.aload_n 0, 1) := by decide +kernel
theorem dX6_goesPair_56 : decode cX6_goesPair 56 = .ok (.getfield 28, 3) := by decide +kernel
theorem dX6_goesPair_59 : decode cX6_goesPair 59 = .ok (.iload_n 1, 1) := by decide +kernel
theorem dX6_goesPair_60 : decode cX6_goesPair 60 = .ok (.iaload, 1) := by decide +kernel
theorem dX6_goesPair_61 : decode cX6_goesPair 61 = .ok (.ifCond .le 14, 3) := by decide +kernel
theorem dX6_goesPair_64 : decode cX6_goesPair 64 = .ok (.aload_n 0, 1) := by decide +kernel
theorem dX6_goesPair_65 : decode cX6_goesPair 65 = .ok (.getfield 28, 3) := by decide +kernel
theorem dX6_goesPair_68 : decode cX6_goesPair 68 = .ok (.iload_n 1, 1) := by decide +kernel
theorem dX6_goesPair_69 : decode cX6_goesPair 69 = .ok (.iaload, 1) := by decide +kernel
theorem dX6_goesPair_70 : decode cX6_goesPair 70 = .ok (.iconst 1, 1) := by decide +kernel
theorem dX6_goesPair_71 : decode cX6_goesPair 71 = .ok (.isub, 1) := by decide +kernel
theorem dX6_goesPair_72 : decode cX6_goesPair 72 = .ok (.goto 4, 3) := by decide +kernel
theorem dX6_goesPair_75 : decode cX6_goesPair 75 = .ok (.iconst 0, 1) := by decide +kernel
theorem dX6_goesPair_76 : decode cX6_goesPair 76 = .ok (.iastore, 1) := by decide +kernel
theorem dX6_goesPair_77 : decode cX6_goesPair 77 = .ok (.aload_n 0, 1) := by decide +kernel
theorem dX6_goesPair_78 : decode cX6_goesPair 78 = .ok (.getfield 25, 3) := by decide +kernel
theorem dX6_goesPair_81 : decode cX6_goesPair 81 = .ok (.iload_n 1, 1) := by decide +kernel
theorem dX6_goesPair_82 : decode cX6_goesPair 82 = .ok (.dup2, 1) := by decide +kernel
theorem dX6_goesPair_83 : decode cX6_goesPair 83 = .ok (.iaload, 1) := by decide +kernel
theorem dX6_goesPair_84 : decode cX6_goesPair 84 = .ok (.iconst 1, 1) := by decide +kernel
theorem dX6_goesPair_85 : decode cX6_goesPair 85 = .ok (.iadd, 1) := by decide +kernel
theorem dX6_goesPair_86 : decode cX6_goesPair 86 = .ok (.iastore, 1) := by decide +kernel
theorem dX6_goesPair_87 : decode cX6_goesPair 87 = .ok (.aload_n 0, 1) := by decide +kernel
theorem dX6_goesPair_88 : decode cX6_goesPair 88 = .ok (.getfield 22, 3) := by decide +kernel
theorem dX6_goesPair_91 : decode cX6_goesPair 91 = .ok (.iconst 2, 1) := by decide +kernel
theorem dX6_goesPair_92 : decode cX6_goesPair 92 = .ok (.iload_n 1, 1) := by decide +kernel
theorem dX6_goesPair_93 : decode cX6_goesPair 93 = .ok (.imul, 1) := by decide +kernel
theorem dX6_goesPair_94 : decode cX6_goesPair 94 = .ok (.iload_n 2, 1) := by decide +kernel
theorem dX6_goesPair_95 : decode cX6_goesPair 95 = .ok (.iadd, 1) := by decide +kernel
theorem dX6_goesPair_96 : decode cX6_goesPair 96 = .ok (.aload_n 0, 1) := by decide +kernel
theorem dX6_goesPair_97 : decode cX6_goesPair 97 = .ok (.getfield 22, 3) := by decide +kernel
theorem dX6_goesPair_100 : decode cX6_goesPair 100 = .ok (.iconst 2, 1) := by decide +kernel
theorem dX6_goesPair_101 : decode cX6_goesPair 101 = .ok (.iload_n 1, 1) := by decide +kernel
theorem dX6_goesPair_102 : decode cX6_goesPair 102 = .ok (.imul, 1) := by decide +kernel
theorem dX6_goesPair_103 : decode cX6_goesPair 103 = .ok (.iload_n 2, 1) := by decide +kernel
theorem dX6_goesPair_104 : decode cX6_goesPair 104 = .ok (.iadd, 1) := by decide +kernel
theorem dX6_goesPair_105 : decode cX6_goesPair 105 = .ok (.iaload, 1) := by decide +kernel
theorem dX6_goesPair_106 : decode cX6_goesPair 106 = .ok (.aload_n 0, 1) := by decide +kernel
theorem dX6_goesPair_107 : decode cX6_goesPair 107 = .ok (.getfield 13, 3) := by decide +kernel
theorem dX6_goesPair_110 : decode cX6_goesPair 110 = .ok (.aload_n 0, 1) := by decide +kernel
theorem dX6_goesPair_111 : decode cX6_goesPair 111 = .ok (.getfield 25, 3) := by decide +kernel
theorem dX6_goesPair_114 : decode cX6_goesPair 114 = .ok (.iload_n 1, 1) := by decide +kernel
theorem dX6_goesPair_115 : decode cX6_goesPair 115 = .ok (.iaload, 1) := by decide +kernel
theorem dX6_goesPair_116 : decode cX6_goesPair 116 = .ok (.iaload, 1) := by decide +kernel
theorem dX6_goesPair_117 : decode cX6_goesPair 117 = .ok (.iadd, 1) := by decide +kernel
theorem dX6_goesPair_118 : decode cX6_goesPair 118 = .ok (.invokestatic 109, 3) := by decide +kernel
theorem dX6_goesPair_121 : decode cX6_goesPair 121 = .ok (.iastore, 1) := by decide +kernel
theorem dX6_goesPair_122 : decode cX6_goesPair 122 = .ok (.return_, 1) := by decide +kernel
def rmX6_goesPair : Room := { frames := 3, cells := 0, slots := 0, locals := 68 }
abbrev wsX6_goesPair : List Cond := .code yX6_goesPair cX6_goesPair 3 none :: gw_tbl
def kX6_goesPair_76 : pProg := (76, 1, a_iast 7) :: (77, 1, a_aload 0) :: (78, 3, a_getf 0 4 5) :: (81, 1, a_iload 1) :: (82, 1, a_dup2) :: (83, 1, a_iald 6) :: (84, 1, a_iconst 1) :: (85, 1, a_iadd) :: (86, 1, a_iast 6) :: (87, 1, a_aload 0) :: (88, 3, a_getf 0 4 4) :: (91, 1, a_iconst 2) :: (92, 1, a_iload 1) :: (93, 1, a_imul) :: (94, 1, a_iload 2) :: (95, 1, a_iadd) :: (96, 1, a_aload 0) :: (97, 3, a_getf 0 4 4) :: (100, 1, a_iconst 2) :: (101, 1, a_iload 1) :: (102, 1, a_imul) :: (103, 1, a_iload 2) :: (104, 1, a_iadd) :: (105, 1, a_iald 5) :: (106, 1, a_aload 0) :: (107, 3, a_getf 0 4 1) :: (110, 1, a_aload 0) :: (111, 3, a_getf 0 4 5) :: (114, 1, a_iload 1) :: (115, 1, a_iald 6) :: (116, 1, a_iald 2) :: (117, 1, a_iadd) :: (118, 3, a_calls 1 [] tX6_held) :: (121, 1, a_iast 5) :: (122, 1, a_vret) :: []
def kX6_goesPair_75 : pProg := (75, 1, a_iconst 0) :: (76, 0, a_fall 76) :: []
def kX6_goesPair_50 : pProg := (50, 1, a_aload 0) :: (51, 3, a_getf 0 4 6) :: (54, 1, a_iload 1) :: (55, 1, a_aload 0) :: (56, 3, a_getf 0 4 6) :: (59, 1, a_iload 1) :: (60, 1, a_iald 7) :: (61, 3, a_if_le 75) :: (64, 1, a_aload 0) :: (65, 3, a_getf 0 4 6) :: (68, 1, a_iload 1) :: (69, 1, a_iald 7) :: (70, 1, a_iconst 1) :: (71, 1, a_isub) :: (72, 3, a_goto 76) :: []
def kX6_goesPair_12 : pProg := (12, 1, a_aload 0) :: (13, 1, a_iload 1) :: (14, 1, a_aload 0) :: (15, 3, a_getf 0 4 8) :: (18, 3, a_callv 3 4 [0, 1, 2, 3, 4, 5, 6, 7, 8, 9, 10, 11, 12, 13, 14, 15, 16] tX6_speaker) :: (21, 1, a_istore 2) :: (22, 1, a_iload 2) :: (23, 3, a_if_ge 50) :: (26, 1, a_aload 0) :: (27, 3, a_getf 0 4 5) :: (30, 1, a_iload 1) :: (31, 1, a_aload 0) :: (32, 3, a_getf 0 4 5) :: (35, 1, a_iload 1) :: (36, 1, a_iald 6) :: (37, 1, a_aload 0) :: (38, 1, a_iconst 2) :: (39, 1, a_iload 1) :: (40, 1, a_imul) :: (41, 3, a_callv 2 4 [0, 1, 2, 3, 4, 5, 6, 7, 8, 9, 10, 11, 12, 13, 14, 15, 16] tX6_stepsOf) :: (44, 1, a_iadd) :: (45, 3, a_calls 1 [] tX6_faceAtMost) :: (48, 1, a_iast 6) :: (49, 1, a_vret) :: []
def kX6_goesPair_0 : pProg := (0, 1, a_aload 0) :: (1, 3, a_getf 0 4 5) :: (4, 1, a_iload 1) :: (5, 1, a_iald 6) :: (6, 2, a_iconst 19) :: (8, 3, a_icmp_ne 12) :: (11, 1, a_vret) :: []
set_option maxRecDepth 100000 in
theorem sX6_goesPair_76 (l : Launch) : AllS (pSnd l rmX6_goesPair yX6_goesPair.cls cX6_goesPair wsX6_goesPair 3 none) 76 kX6_goesPair_76 :=
  alls _ (s_iast dX6_goesPair_76) <|
  alls _ (s_aload_n rfl dX6_goesPair_77) <|
  alls _ (s_getf (C := RX6) (T := TX6) (N := 29) rfl (in_c inX6) (by decide) (List.mem_cons_of_mem _ wd_752) rfl dX6_goesPair_78) <|
  alls _ (s_iload_n rfl dX6_goesPair_81) <|
  alls _ (s_dup2 dX6_goesPair_82) <|
  alls _ (s_iald dX6_goesPair_83) <|
  alls _ (s_iconst dX6_goesPair_84) <|
  alls _ (s_iadd dX6_goesPair_85) <|
  alls _ (s_iast dX6_goesPair_86) <|
  alls _ (s_aload_n rfl dX6_goesPair_87) <|
  alls _ (s_getf (C := RX6) (T := TX6) (N := 29) rfl (in_c inX6) (by decide) (List.mem_cons_of_mem _ wd_751) rfl dX6_goesPair_88) <|
  alls _ (s_iconst dX6_goesPair_91) <|
  alls _ (s_iload_n rfl dX6_goesPair_92) <|
  alls _ (s_imul dX6_goesPair_93) <|
  alls _ (s_iload_n rfl dX6_goesPair_94) <|
  alls _ (s_iadd dX6_goesPair_95) <|
  alls _ (s_aload_n rfl dX6_goesPair_96) <|
  alls _ (s_getf (C := RX6) (T := TX6) (N := 29) rfl (in_c inX6) (by decide) (List.mem_cons_of_mem _ wd_751) rfl dX6_goesPair_97) <|
  alls _ (s_iconst dX6_goesPair_100) <|
  alls _ (s_iload_n rfl dX6_goesPair_101) <|
  alls _ (s_imul dX6_goesPair_102) <|
  alls _ (s_iload_n rfl dX6_goesPair_103) <|
  alls _ (s_iadd dX6_goesPair_104) <|
  alls _ (s_iald dX6_goesPair_105) <|
  alls _ (s_aload_n rfl dX6_goesPair_106) <|
  alls _ (s_getf (C := RX6) (T := TX6) (N := 29) rfl (in_c inX6) (by decide) (List.mem_cons_of_mem _ wd_748) rfl dX6_goesPair_107) <|
  alls _ (s_aload_n rfl dX6_goesPair_110) <|
  alls _ (s_getf (C := RX6) (T := TX6) (N := 29) rfl (in_c inX6) (by decide) (List.mem_cons_of_mem _ wd_752) rfl dX6_goesPair_111) <|
  alls _ (s_iload_n rfl dX6_goesPair_114) <|
  alls _ (s_iald dX6_goesPair_115) <|
  alls _ (s_iald dX6_goesPair_116) <|
  alls _ (s_iadd dX6_goesPair_117) <|
  alls _ (s_calls (ct_X6_held l) rfl rfl (gdS wd_913) (List.mem_cons_of_mem _ wd_911) (List.mem_cons_of_mem _ wd_912) (List.mem_cons_of_mem _ wd_65) rfl rfl (by decide +kernel) ⟨Nat.le_of_ble_eq_true rfl, Nat.le_of_ble_eq_true rfl⟩ dX6_goesPair_118) <|
  alls _ (s_iast dX6_goesPair_121) <|
  alls _ (s_vret dX6_goesPair_122) <|
  alls_nil _
set_option maxRecDepth 100000 in
theorem sX6_goesPair_75 (l : Launch) : AllS (pSnd l rmX6_goesPair yX6_goesPair.cls cX6_goesPair wsX6_goesPair 3 none) 75 kX6_goesPair_75 :=
  alls _ (s_iconst dX6_goesPair_75) <|
  alls _ s_fall (alls_nil _)
set_option maxRecDepth 100000 in
theorem sX6_goesPair_50 (l : Launch) : AllS (pSnd l rmX6_goesPair yX6_goesPair.cls cX6_goesPair wsX6_goesPair 3 none) 50 kX6_goesPair_50 :=
  alls _ (s_aload_n rfl dX6_goesPair_50) <|
  alls _ (s_getf (C := RX6) (T := TX6) (N := 29) rfl (in_c inX6) (by decide) (List.mem_cons_of_mem _ wd_753) rfl dX6_goesPair_51) <|
  alls _ (s_iload_n rfl dX6_goesPair_54) <|
  alls _ (s_aload_n rfl dX6_goesPair_55) <|
  alls _ (s_getf (C := RX6) (T := TX6) (N := 29) rfl (in_c inX6) (by decide) (List.mem_cons_of_mem _ wd_753) rfl dX6_goesPair_56) <|
  alls _ (s_iload_n rfl dX6_goesPair_59) <|
  alls _ (s_iald dX6_goesPair_60) <|
  alls _ (s_if_le (by decide) dX6_goesPair_61) <|
  alls _ (s_aload_n rfl dX6_goesPair_64) <|
  alls _ (s_getf (C := RX6) (T := TX6) (N := 29) rfl (in_c inX6) (by decide) (List.mem_cons_of_mem _ wd_753) rfl dX6_goesPair_65) <|
  alls _ (s_iload_n rfl dX6_goesPair_68) <|
  alls _ (s_iald dX6_goesPair_69) <|
  alls _ (s_iconst dX6_goesPair_70) <|
  alls _ (s_isub dX6_goesPair_71) <|
  alls _ (s_goto (by decide) dX6_goesPair_72) <|
  alls_nil _
set_option maxRecDepth 100000 in
theorem sX6_goesPair_12 (l : Launch) : AllS (pSnd l rmX6_goesPair yX6_goesPair.cls cX6_goesPair wsX6_goesPair 3 none) 12 kX6_goesPair_12 :=
  alls _ (s_aload_n rfl dX6_goesPair_12) <|
  alls _ (s_iload_n rfl dX6_goesPair_13) <|
  alls _ (s_aload_n rfl dX6_goesPair_14) <|
  alls _ (s_getf (C := RX6) (T := TX6) (N := 29) rfl (in_c inX6) (by decide) (List.mem_cons_of_mem _ wd_755) rfl dX6_goesPair_15) <|
  alls _ (s_callv (ct_X6_speaker l) rfl rfl rfl (gdV wd_942 wd_944 wd_32 wd_65 wd_945) rfl rfl (by decide +kernel) ⟨Nat.le_of_ble_eq_true rfl, Nat.le_of_ble_eq_true rfl⟩ dX6_goesPair_18) <|
  alls _ (s_istore_n rfl dX6_goesPair_21) <|
  alls _ (s_iload_n rfl dX6_goesPair_22) <|
  alls _ (s_if_ge (by decide) dX6_goesPair_23) <|
  alls _ (s_aload_n rfl dX6_goesPair_26) <|
  alls _ (s_getf (C := RX6) (T := TX6) (N := 29) rfl (in_c inX6) (by decide) (List.mem_cons_of_mem _ wd_752) rfl dX6_goesPair_27) <|
  alls _ (s_iload_n rfl dX6_goesPair_30) <|
  alls _ (s_aload_n rfl dX6_goesPair_31) <|
  alls _ (s_getf (C := RX6) (T := TX6) (N := 29) rfl (in_c inX6) (by decide) (List.mem_cons_of_mem _ wd_752) rfl dX6_goesPair_32) <|
  alls _ (s_iload_n rfl dX6_goesPair_35) <|
  alls _ (s_iald dX6_goesPair_36) <|
  alls _ (s_aload_n rfl dX6_goesPair_37) <|
  alls _ (s_iconst dX6_goesPair_38) <|
  alls _ (s_iload_n rfl dX6_goesPair_39) <|
  alls _ (s_imul dX6_goesPair_40) <|
  alls _ (s_callv (ct_X6_stepsOf l) rfl rfl rfl (gdV wd_957 wd_959 wd_35 wd_65 wd_960) rfl rfl (by decide +kernel) ⟨Nat.le_of_ble_eq_true rfl, Nat.le_of_ble_eq_true rfl⟩ dX6_goesPair_41) <|
  alls _ (s_iadd dX6_goesPair_44) <|
  alls _ (s_calls (ct_X6_faceAtMost l) rfl rfl (gdS wd_963) (List.mem_cons_of_mem _ wd_961) (List.mem_cons_of_mem _ wd_962) (List.mem_cons_of_mem _ wd_65) rfl rfl (by decide +kernel) ⟨Nat.le_of_ble_eq_true rfl, Nat.le_of_ble_eq_true rfl⟩ dX6_goesPair_45) <|
  alls _ (s_iast dX6_goesPair_48) <|
  alls _ (s_vret dX6_goesPair_49) <|
  alls_nil _
set_option maxRecDepth 100000 in
theorem sX6_goesPair_0 (l : Launch) : AllS (pSnd l rmX6_goesPair yX6_goesPair.cls cX6_goesPair wsX6_goesPair 3 none) 0 kX6_goesPair_0 :=
  alls _ (s_aload_n rfl dX6_goesPair_0) <|
  alls _ (s_getf (C := RX6) (T := TX6) (N := 29) rfl (in_c inX6) (by decide) (List.mem_cons_of_mem _ wd_752) rfl dX6_goesPair_1) <|
  alls _ (s_iload_n rfl dX6_goesPair_4) <|
  alls _ (s_iald dX6_goesPair_5) <|
  alls _ (s_bipush (by decide) dX6_goesPair_6) <|
  alls _ (s_icmp_ne (by decide) dX6_goesPair_8) <|
  alls _ (s_vret dX6_goesPair_11) <|
  alls_nil _
def KX6_goesPair : List (Nat × pProg) := [(0, kX6_goesPair_0), (12, kX6_goesPair_12), (50, kX6_goesPair_50), (75, kX6_goesPair_75), (76, kX6_goesPair_76)]
theorem bX6_goesPair_0 : blkOf KX6_goesPair 0 = some kX6_goesPair_0 := rfl
theorem bX6_goesPair_12 : blkOf KX6_goesPair 12 = some kX6_goesPair_12 := rfl
theorem bX6_goesPair_50 : blkOf KX6_goesPair 50 = some kX6_goesPair_50 := rfl
theorem bX6_goesPair_75 : blkOf KX6_goesPair 75 = some kX6_goesPair_75 := rfl
theorem bX6_goesPair_76 : blkOf KX6_goesPair 76 = some kX6_goesPair_76 := rfl
def tX6_goesPair : pT := pM KX6_goesPair 3
theorem ct_X6_goesPair (l : Launch) : pCtr l yX6_goesPair wsX6_goesPair rmX6_goesPair 2 tX6_goesPair := ctr_of (by decide +kernel) rfl (List.forall_mem_cons.mpr ⟨sX6_goesPair_0 l, List.forall_mem_cons.mpr ⟨sX6_goesPair_12 l, List.forall_mem_cons.mpr ⟨sX6_goesPair_50 l, List.forall_mem_cons.mpr ⟨sX6_goesPair_75 l, List.forall_mem_cons.mpr ⟨sX6_goesPair_76 l, fun _ h => absurd h List.not_mem_nil⟩⟩⟩⟩⟩)
theorem dX6_goesMinute_0 : decode cX6_goesMinute 0 = .ok (.aload_n 0, 1) := by decide +kernel
theorem dX6_goesMinute_1 : decode cX6_goesMinute 1 = .ok (.dup, 1) := by decide +kernel
theorem dX6_goesMinute_2 : decode cX6_goesMinute 2 = .ok (.getfield 112, 3) := by decide +kernel
theorem dX6_goesMinute_5 : decode cX6_goesMinute 5 = .ok (.iconst 1, 1) := by decide +kernel
theorem dX6_goesMinute_6 : decode cX6_goesMinute 6 = .ok (.iadd, 1) := by decide +kernel
theorem dX6_goesMinute_7 : decode cX6_goesMinute 7 = .ok (.putfield 112, 3) := by decide +kernel
theorem dX6_goesMinute_10 : decode cX6_goesMinute 10 = .ok (.iconst 0, 1) := by decide +kernel
theorem dX6_goesMinute_11 : decode cX6_goesMinute 11 = .ok (.istore_n 1, 1) := by decide +kernel
theorem dX6_goesMinute_12 : decode cX6_goesMinute 12 = .ok (.iload_n 1, 1) := by decide +kernel
theorem dX6_goesMinute_13 : decode cX6_goesMinute 13 = .ok (.aload_n 0, 1) := by decide +kernel
theorem dX6_goesMinute_14 : decode cX6_goesMinute 14 = .ok (.getfield 58, 3) := by decide +kernel
theorem dX6_goesMinute_17 : decode cX6_goesMinute 17 = .ok (.if_icmp .ge 14, 3) := by decide +kernel
theorem dX6_goesMinute_20 : decode cX6_goesMinute 20 = .ok (.aload_n 0, 1) := by decide +kernel
theorem dX6_goesMinute_21 : decode cX6_goesMinute 21 = .ok (.iload_n 1, 1) := by decide +kernel
theorem dX6_goesMinute_22 : decode cX6_goesMinute 22 = .ok (.invokevirtual 194, 3) := by decide +kernel
theorem dX6_goesMinute_25 : decode cX6_goesMinute 25 = .ok (.iinc 1 1, 3) := by decide +kernel
theorem dX6_goesMinute_28 : decode cX6_goesMinute 28 = .ok (.goto (-16), 3) := by decide +kernel
theorem dX6_goesMinute_31 : decode cX6_goesMinute 31 = .ok (.return_, 1) := by decide +kernel
def rmX6_goesMinute : Room := { frames := 4, cells := 0, slots := 0, locals := 90 }
abbrev wsX6_goesMinute : List Cond := .code yX6_goesMinute cX6_goesMinute 2 none :: gw_tbl
def kX6_goesMinute_31 : pProg := (31, 1, a_vret) :: []
def kX6_goesMinute_12 : pProg := (12, 1, a_iload 1) :: (13, 1, a_aload 0) :: (14, 3, a_getf 0 4 7) :: (17, 3, a_icmp_ge 31) :: (20, 1, a_aload 0) :: (21, 1, a_iload 1) :: (22, 3, a_callv 2 4 [0, 1, 2, 3, 4, 5, 6, 7, 8, 9, 10, 11, 12, 13, 14, 15, 16] tX6_goesPair) :: (25, 3, a_iinc 1 1) :: (28, 3, a_goto 12) :: []
def kX6_goesMinute_0 : pProg := (0, 1, a_aload 0) :: (1, 1, a_dup) :: (2, 3, a_getf 0 4 8) :: (5, 1, a_iconst 1) :: (6, 1, a_iadd) :: (7, 3, a_putf 0 4 8 .int) :: (10, 1, a_iconst 0) :: (11, 1, a_istore 1) :: (12, 0, a_fall 12) :: []
set_option maxRecDepth 100000 in
theorem sX6_goesMinute_31 (l : Launch) : AllS (pSnd l rmX6_goesMinute yX6_goesMinute.cls cX6_goesMinute wsX6_goesMinute 2 none) 31 kX6_goesMinute_31 :=
  alls _ (s_vret dX6_goesMinute_31) <|
  alls_nil _
set_option maxRecDepth 100000 in
theorem sX6_goesMinute_12 (l : Launch) : AllS (pSnd l rmX6_goesMinute yX6_goesMinute.cls cX6_goesMinute wsX6_goesMinute 2 none) 12 kX6_goesMinute_12 :=
  alls _ (s_iload_n rfl dX6_goesMinute_12) <|
  alls _ (s_aload_n rfl dX6_goesMinute_13) <|
  alls _ (s_getf (C := RX6) (T := TX6) (N := 29) rfl (in_c inX6) (by decide) (List.mem_cons_of_mem _ wd_754) rfl dX6_goesMinute_14) <|
  alls _ (s_icmp_ge (by decide) dX6_goesMinute_17) <|
  alls _ (s_aload_n rfl dX6_goesMinute_20) <|
  alls _ (s_iload_n rfl dX6_goesMinute_21) <|
  alls _ (s_callv (ct_X6_goesPair l) rfl rfl rfl (gdV wd_938 wd_940 wd_31 wd_65 wd_941) rfl rfl (by decide +kernel) ⟨Nat.le_of_ble_eq_true rfl, Nat.le_of_ble_eq_true rfl⟩ dX6_goesMinute_22) <|
  alls _ (s_iinc dX6_goesMinute_25) <|
  alls _ (s_goto (by decide) dX6_goesMinute_28) <|
  alls_nil _
set_option maxRecDepth 100000 in
theorem sX6_goesMinute_0 (l : Launch) : AllS (pSnd l rmX6_goesMinute yX6_goesMinute.cls cX6_goesMinute wsX6_goesMinute 2 none) 0 kX6_goesMinute_0 :=
  alls _ (s_aload_n rfl dX6_goesMinute_0) <|
  alls _ (s_dup dX6_goesMinute_1) <|
  alls _ (s_getf (C := RX6) (T := TX6) (N := 29) rfl (in_c inX6) (by decide) (List.mem_cons_of_mem _ wd_755) rfl dX6_goesMinute_2) <|
  alls _ (s_iconst dX6_goesMinute_5) <|
  alls _ (s_iadd dX6_goesMinute_6) <|
  alls _ (s_putf (C := RX6) (T := TX6) (N := 29) tyX6 rfl (in_c inX6) tyX6_ok nmX6 (by decide) (List.mem_cons_of_mem _ wd_755) rfl rfl (tyX6_ok 8 (by decide)) dX6_goesMinute_7) <|
  alls _ (s_iconst dX6_goesMinute_10) <|
  alls _ (s_istore_n rfl dX6_goesMinute_11) <|
  alls _ s_fall (alls_nil _)
def KX6_goesMinute : List (Nat × pProg) := [(0, kX6_goesMinute_0), (12, kX6_goesMinute_12), (31, kX6_goesMinute_31)]
theorem bX6_goesMinute_0 : blkOf KX6_goesMinute 0 = some kX6_goesMinute_0 := rfl
theorem bX6_goesMinute_12 : blkOf KX6_goesMinute 12 = some kX6_goesMinute_12 := rfl
theorem bX6_goesMinute_31 : blkOf KX6_goesMinute 31 = some kX6_goesMinute_31 := rfl
def tX6_goesMinute : pT := pM KX6_goesMinute 2
theorem ct_X6_goesMinute (l : Launch) : pCtr l yX6_goesMinute wsX6_goesMinute rmX6_goesMinute 1 tX6_goesMinute := ctr_of (by decide +kernel) rfl (List.forall_mem_cons.mpr ⟨sX6_goesMinute_0 l, List.forall_mem_cons.mpr ⟨sX6_goesMinute_12 l, List.forall_mem_cons.mpr ⟨sX6_goesMinute_31 l, fun _ h => absurd h List.not_mem_nil⟩⟩⟩)
theorem dX6_goes_0 : decode cX6_goes 0 = .ok (.iconst 0, 1) := by decide +kernel
theorem dX6_goes_1 : decode cX6_goes 1 = .ok (.istore_n 2, 1) := by decide +kernel
theorem dX6_goes_2 : decode cX6_goes 2 = .ok (.iload_n 2, 1) := by decide +kernel
theorem dX6_goes_3 : decode cX6_goes 3 = .ok (.iload_n 1, 1) := by decide +kernel
theorem dX6_goes_4 : decode cX6_goes 4 = .ok (.if_icmp .ge 13, 3) := by decide +kernel
theorem dX6_goes_7 : decode cX6_goes 7 = .ok (.aload_n 0, 1) := by decide +kernel
theorem dX6_goes_8 : decode cX6_goes 8 = .ok (.invokevirtual 197, 3) := by decide +kernel
theorem dX6_goes_11 : decode cX6_goes 11 = .ok (.iinc 2 1, 3) := by decide +kernel
theorem dX6_goes_14 : decode cX6_goes 14 = .ok (.goto (-12), 3) := by decide +kernel
theorem dX6_goes_17 : decode cX6_goes 17 = .ok (.return_, 1) := by decide +kernel
def rmX6_goes : Room := { frames := 5, cells := 0, slots := 0, locals := 111 }
abbrev wsX6_goes : List Cond := .code yX6_goes cX6_goes 3 none :: gw_tbl
def kX6_goes_17 : pProg := (17, 1, a_vret) :: []
def kX6_goes_2 : pProg := (2, 1, a_iload 2) :: (3, 1, a_iload 1) :: (4, 3, a_icmp_ge 17) :: (7, 1, a_aload 0) :: (8, 3, a_callv 1 4 [0, 1, 2, 3, 4, 5, 6, 7, 8, 9, 10, 11, 12, 13, 14, 15, 16] tX6_goesMinute) :: (11, 3, a_iinc 2 1) :: (14, 3, a_goto 2) :: []
def kX6_goes_0 : pProg := (0, 1, a_iconst 0) :: (1, 1, a_istore 2) :: (2, 0, a_fall 2) :: []
set_option maxRecDepth 100000 in
theorem sX6_goes_17 (l : Launch) : AllS (pSnd l rmX6_goes yX6_goes.cls cX6_goes wsX6_goes 3 none) 17 kX6_goes_17 :=
  alls _ (s_vret dX6_goes_17) <|
  alls_nil _
set_option maxRecDepth 100000 in
theorem sX6_goes_2 (l : Launch) : AllS (pSnd l rmX6_goes yX6_goes.cls cX6_goes wsX6_goes 3 none) 2 kX6_goes_2 :=
  alls _ (s_iload_n rfl dX6_goes_2) <|
  alls _ (s_iload_n rfl dX6_goes_3) <|
  alls _ (s_icmp_ge (by decide) dX6_goes_4) <|
  alls _ (s_aload_n rfl dX6_goes_7) <|
  alls _ (s_callv (ct_X6_goesMinute l) rfl rfl rfl (gdV wd_934 wd_936 wd_30 wd_65 wd_937) rfl rfl (by decide +kernel) ⟨Nat.le_of_ble_eq_true rfl, Nat.le_of_ble_eq_true rfl⟩ dX6_goes_8) <|
  alls _ (s_iinc dX6_goes_11) <|
  alls _ (s_goto (by decide) dX6_goes_14) <|
  alls_nil _
set_option maxRecDepth 100000 in
theorem sX6_goes_0 (l : Launch) : AllS (pSnd l rmX6_goes yX6_goes.cls cX6_goes wsX6_goes 3 none) 0 kX6_goes_0 :=
  alls _ (s_iconst dX6_goes_0) <|
  alls _ (s_istore_n rfl dX6_goes_1) <|
  alls _ s_fall (alls_nil _)
def KX6_goes : List (Nat × pProg) := [(0, kX6_goes_0), (2, kX6_goes_2), (17, kX6_goes_17)]
theorem bX6_goes_0 : blkOf KX6_goes 0 = some kX6_goes_0 := rfl
theorem bX6_goes_2 : blkOf KX6_goes 2 = some kX6_goes_2 := rfl
theorem bX6_goes_17 : blkOf KX6_goes 17 = some kX6_goes_17 := rfl
def tX6_goes : pT := pM KX6_goes 3
theorem ct_X6_goes (l : Launch) : pCtr l yX6_goes wsX6_goes rmX6_goes 2 tX6_goes := ctr_of (by decide +kernel) rfl (List.forall_mem_cons.mpr ⟨sX6_goes_0 l, List.forall_mem_cons.mpr ⟨sX6_goes_2 l, List.forall_mem_cons.mpr ⟨sX6_goes_17 l, fun _ h => absurd h List.not_mem_nil⟩⟩⟩)
theorem dX6_comesMinutes_0 : decode cX6_comesMinutes 0 = .ok (.iload_n 1, 1) := by decide +kernel
theorem dX6_comesMinutes_1 : decode cX6_comesMinutes 1 = .ok (.iconst 1, 1) := by decide +kernel
theorem dX6_comesMinutes_2 : decode cX6_comesMinutes 2 = .ok (.bipush 60, 2) := by decide +kernel
theorem dX6_comesMinutes_4 : decode cX6_comesMinutes 4 = .ok (.invokestatic 82, 3) := by decide +kernel
theorem dX6_comesMinutes_7 : decode cX6_comesMinutes 7 = .ok (.ifCond .eq 15, 3) := by decide +kernel
theorem dX6_comesMinutes_10 : decode cX6_comesMinutes 10 = .ok (.aload_n 0, 1) := by decide +kernel
theorem dX6_comesMinutes_11 : decode cX6_comesMinutes 11 = .ok (.getfield 112, 3) := by decide +kernel
theorem dX6_comesMinutes_14 : decode cX6_comesMinutes 14 = .ok (.iload_n 1, 1) := by decide +kernel
theorem dX6_comesMinutes_15 : decode cX6_comesMinutes 15 = .ok (.iadd, 1) := by decide +kernel
theorem dX6_comesMinutes_16 : decode cX6_comesMinutes 16 = .ok (.sipush 999, 3) := by decide +kernel
theorem dX6_comesMinutes_19 : decode cX6_comesMinutes 19 = .ok (.if_icmp .le 5, 3) := by decide +kernel
theorem dX6_comesMinutes_22 : decode cX6_comesMinutes 22 = .ok (.iconst 0, 1) := by decide +kernel
theorem dX6_comesMinutes_23 : decode cX6_comesMinutes 23 = .ok (.ireturn, 1) := by decide +kernel
theorem dX6_comesMinutes_24 : decode cX6_comesMinutes 24 = .ok (.aload_n 0, 1) := by decide +kernel
theorem dX6_comesMinutes_25 : decode cX6_comesMinutes 25 = .ok (.iload_n 1, 1) := by decide +kernel
theorem dX6_comesMinutes_26 : decode cX6_comesMinutes 26 = .ok (.invokevirtual 115, 3) := by decide +kernel
theorem dX6_comesMinutes_29 : decode cX6_comesMinutes 29 = .ok (.iconst 1, 1) := by decide +kernel
theorem dX6_comesMinutes_30 : decode cX6_comesMinutes 30 = .ok (.ireturn, 1) := by decide +kernel
def rmX6_comesMinutes : Room := { frames := 6, cells := 0, slots := 0, locals := 133 }
abbrev wsX6_comesMinutes : List Cond := .code yX6_comesMinutes cX6_comesMinutes 2 (some .boolean) :: gw_tbl
def kX6_comesMinutes_24 : pProg := (24, 1, a_aload 0) :: (25, 1, a_iload 1) :: (26, 3, a_callv 2 4 [0, 1, 2, 3, 4, 5, 6, 7, 8, 9, 10, 11, 12, 13, 14, 15, 16] tX6_goes) :: (29, 1, a_iconst 1) :: (30, 1, a_zret) :: []
def kX6_comesMinutes_22 : pProg := (22, 1, a_iconst 0) :: (23, 1, a_zret) :: []
def kX6_comesMinutes_0 : pProg := (0, 1, a_iload 1) :: (1, 1, a_iconst 1) :: (2, 2, a_iconst 60) :: (4, 3, a_calls 3 [] tX6_isIn) :: (7, 3, a_if_eq 22) :: (10, 1, a_aload 0) :: (11, 3, a_getf 0 4 8) :: (14, 1, a_iload 1) :: (15, 1, a_iadd) :: (16, 3, a_iconst 999) :: (19, 3, a_icmp_le 24) :: (22, 0, a_fall 22) :: []
set_option maxRecDepth 100000 in
theorem sX6_comesMinutes_24 (l : Launch) : AllS (pSnd l rmX6_comesMinutes yX6_comesMinutes.cls cX6_comesMinutes wsX6_comesMinutes 2 (some .boolean)) 24 kX6_comesMinutes_24 :=
  alls _ (s_aload_n rfl dX6_comesMinutes_24) <|
  alls _ (s_iload_n rfl dX6_comesMinutes_25) <|
  alls _ (s_callv (ct_X6_goes l) rfl rfl rfl (gdV wd_930 wd_932 wd_29 wd_65 wd_933) rfl rfl (by decide +kernel) ⟨Nat.le_of_ble_eq_true rfl, Nat.le_of_ble_eq_true rfl⟩ dX6_comesMinutes_26) <|
  alls _ (s_iconst dX6_comesMinutes_29) <|
  alls _ (s_zret dX6_comesMinutes_30) <|
  alls_nil _
set_option maxRecDepth 100000 in
theorem sX6_comesMinutes_22 (l : Launch) : AllS (pSnd l rmX6_comesMinutes yX6_comesMinutes.cls cX6_comesMinutes wsX6_comesMinutes 2 (some .boolean)) 22 kX6_comesMinutes_22 :=
  alls _ (s_iconst dX6_comesMinutes_22) <|
  alls _ (s_zret dX6_comesMinutes_23) <|
  alls_nil _
set_option maxRecDepth 100000 in
theorem sX6_comesMinutes_0 (l : Launch) : AllS (pSnd l rmX6_comesMinutes yX6_comesMinutes.cls cX6_comesMinutes wsX6_comesMinutes 2 (some .boolean)) 0 kX6_comesMinutes_0 :=
  alls _ (s_iload_n rfl dX6_comesMinutes_0) <|
  alls _ (s_iconst dX6_comesMinutes_1) <|
  alls _ (s_bipush (by decide) dX6_comesMinutes_2) <|
  alls _ (s_calls (ct_X6_isIn l) rfl rfl (gdS wd_868) (List.mem_cons_of_mem _ wd_866) (List.mem_cons_of_mem _ wd_867) (List.mem_cons_of_mem _ wd_65) rfl rfl (by decide +kernel) ⟨Nat.le_of_ble_eq_true rfl, Nat.le_of_ble_eq_true rfl⟩ dX6_comesMinutes_4) <|
  alls _ (s_if_eq (by decide) dX6_comesMinutes_7) <|
  alls _ (s_aload_n rfl dX6_comesMinutes_10) <|
  alls _ (s_getf (C := RX6) (T := TX6) (N := 29) rfl (in_c inX6) (by decide) (List.mem_cons_of_mem _ wd_755) rfl dX6_comesMinutes_11) <|
  alls _ (s_iload_n rfl dX6_comesMinutes_14) <|
  alls _ (s_iadd dX6_comesMinutes_15) <|
  alls _ (s_sipush (by decide) dX6_comesMinutes_16) <|
  alls _ (s_icmp_le (by decide) dX6_comesMinutes_19) <|
  alls _ s_fall (alls_nil _)
def KX6_comesMinutes : List (Nat × pProg) := [(0, kX6_comesMinutes_0), (22, kX6_comesMinutes_22), (24, kX6_comesMinutes_24)]
theorem bX6_comesMinutes_0 : blkOf KX6_comesMinutes 0 = some kX6_comesMinutes_0 := rfl
theorem bX6_comesMinutes_22 : blkOf KX6_comesMinutes 22 = some kX6_comesMinutes_22 := rfl
theorem bX6_comesMinutes_24 : blkOf KX6_comesMinutes 24 = some kX6_comesMinutes_24 := rfl
def tX6_comesMinutes : pT := pM KX6_comesMinutes 2
theorem ct_X6_comesMinutes (l : Launch) : pCtr l yX6_comesMinutes wsX6_comesMinutes rmX6_comesMinutes 2 tX6_comesMinutes := ctr_of (by decide +kernel) rfl (List.forall_mem_cons.mpr ⟨sX6_comesMinutes_0 l, List.forall_mem_cons.mpr ⟨sX6_comesMinutes_22 l, List.forall_mem_cons.mpr ⟨sX6_comesMinutes_24 l, fun _ h => absurd h List.not_mem_nil⟩⟩⟩)
theorem dX6_isMiner_0 : decode cX6_isMiner 0 = .ok (.iload_n 1, 1) := by decide +kernel
theorem dX6_isMiner_1 : decode cX6_isMiner 1 = .ok (.ifCond .lt 17, 3) := by decide +kernel
theorem dX6_isMiner_4 : decode cX6_isMiner 4 = .ok (.iload_n 1, 1) := by decide +kernel
theorem dX6_isMiner_5 : decode cX6_isMiner 5 = .ok (.iconst 2, 1) := by decide +kernel
theorem dX6_isMiner_6 : decode cX6_isMiner 6 = .ok (.aload_n 0, 1) := by decide +kernel
theorem dX6_isMiner_7 : decode cX6_isMiner 7 = .ok (.getfield 58, 3) := by decide +kernel
theorem dX6_isMiner_10 : decode cX6_isMiner 10 = .ok (.imul, 1) := by decide +kernel
theorem dX6_isMiner_11 : decode cX6_isMiner 11 = .ok (.if_icmp .ge 7, 3) := by decide +kernel
theorem dX6_isMiner_14 : decode cX6_isMiner 14 = .ok (.iconst 1, 1) := by decide +kernel
theorem dX6_isMiner_15 : decode cX6_isMiner 15 = .ok (.goto 4, 3) := by decide +kernel
theorem dX6_isMiner_18 : decode cX6_isMiner 18 = .ok (.iconst 0, 1) := by decide +kernel
theorem dX6_isMiner_19 : decode cX6_isMiner 19 = .ok (.ireturn, 1) := by decide +kernel
def rmX6_isMiner : Room := { frames := 0, cells := 0, slots := 0, locals := 0 }
abbrev wsX6_isMiner : List Cond := .code yX6_isMiner cX6_isMiner 2 (some .boolean) :: gw_tbl
def kX6_isMiner_19 : pProg := (19, 1, a_zret) :: []
def kX6_isMiner_18 : pProg := (18, 1, a_iconst 0) :: (19, 0, a_fall 19) :: []
def kX6_isMiner_0 : pProg := (0, 1, a_iload 1) :: (1, 3, a_if_lt 18) :: (4, 1, a_iload 1) :: (5, 1, a_iconst 2) :: (6, 1, a_aload 0) :: (7, 3, a_getf 0 4 7) :: (10, 1, a_imul) :: (11, 3, a_icmp_ge 18) :: (14, 1, a_iconst 1) :: (15, 3, a_goto 19) :: []
set_option maxRecDepth 100000 in
theorem sX6_isMiner_19 (l : Launch) : AllS (pSnd l rmX6_isMiner yX6_isMiner.cls cX6_isMiner wsX6_isMiner 2 (some .boolean)) 19 kX6_isMiner_19 :=
  alls _ (s_zret dX6_isMiner_19) <|
  alls_nil _
set_option maxRecDepth 100000 in
theorem sX6_isMiner_18 (l : Launch) : AllS (pSnd l rmX6_isMiner yX6_isMiner.cls cX6_isMiner wsX6_isMiner 2 (some .boolean)) 18 kX6_isMiner_18 :=
  alls _ (s_iconst dX6_isMiner_18) <|
  alls _ s_fall (alls_nil _)
set_option maxRecDepth 100000 in
theorem sX6_isMiner_0 (l : Launch) : AllS (pSnd l rmX6_isMiner yX6_isMiner.cls cX6_isMiner wsX6_isMiner 2 (some .boolean)) 0 kX6_isMiner_0 :=
  alls _ (s_iload_n rfl dX6_isMiner_0) <|
  alls _ (s_if_lt (by decide) dX6_isMiner_1) <|
  alls _ (s_iload_n rfl dX6_isMiner_4) <|
  alls _ (s_iconst dX6_isMiner_5) <|
  alls _ (s_aload_n rfl dX6_isMiner_6) <|
  alls _ (s_getf (C := RX6) (T := TX6) (N := 29) rfl (in_c inX6) (by decide) (List.mem_cons_of_mem _ wd_754) rfl dX6_isMiner_7) <|
  alls _ (s_imul dX6_isMiner_10) <|
  alls _ (s_icmp_ge (by decide) dX6_isMiner_11) <|
  alls _ (s_iconst dX6_isMiner_14) <|
  alls _ (s_goto (by decide) dX6_isMiner_15) <|
  alls_nil _
def KX6_isMiner : List (Nat × pProg) := [(0, kX6_isMiner_0), (18, kX6_isMiner_18), (19, kX6_isMiner_19)]
theorem bX6_isMiner_0 : blkOf KX6_isMiner 0 = some kX6_isMiner_0 := rfl
theorem bX6_isMiner_18 : blkOf KX6_isMiner 18 = some kX6_isMiner_18 := rfl
theorem bX6_isMiner_19 : blkOf KX6_isMiner 19 = some kX6_isMiner_19 := rfl
def tX6_isMiner : pT := pM KX6_isMiner 2
theorem ct_X6_isMiner (l : Launch) : pCtr l yX6_isMiner wsX6_isMiner rmX6_isMiner 2 tX6_isMiner := ctr_of (by decide +kernel) rfl (List.forall_mem_cons.mpr ⟨sX6_isMiner_0 l, List.forall_mem_cons.mpr ⟨sX6_isMiner_18 l, List.forall_mem_cons.mpr ⟨sX6_isMiner_19 l, fun _ h => absurd h List.not_mem_nil⟩⟩⟩)
theorem dX6_changes_0 : decode cX6_changes 0 = .ok (.aload_n 1, 1) := by decide +kernel
theorem dX6_changes_1 : decode cX6_changes 1 = .ok (.iload_n 2, 1) := by decide +kernel
theorem dX6_changes_2 : decode cX6_changes 2 = .ok (.iaload, 1) := by decide +kernel
theorem dX6_changes_3 : decode cX6_changes 3 = .ok (.istore 4, 2) := by decide +kernel
theorem dX6_changes_5 : decode cX6_changes 5 = .ok (.aload_n 1, 1) := by decide +kernel
theorem dX6_changes_6 : decode cX6_changes 6 = .ok (.iload_n 2, 1) := by decide +kernel
theorem dX6_changes_7 : decode cX6_changes 7 = .ok (.aload_n 1, 1) := by decide +kernel
theorem dX6_changes_8 : decode cX6_changes 8 = .ok (.iload_n 3, 1) := by decide +kernel
theorem dX6_changes_9 : decode cX6_changes 9 = .ok (.iaload, 1) := by decide +kernel
theorem dX6_changes_10 : decode cX6_changes 10 = .ok (.iastore, 1) := by decide +kernel
theorem dX6_changes_11 : decode cX6_changes 11 = .ok (.aload_n 1, 1) := by decide +kernel
theorem dX6_changes_12 : decode cX6_changes 12 = .ok (.iload_n 3, 1) := by decide +kernel
theorem dX6_changes_13 : decode cX6_changes 13 = .ok (.iload 4, 2) := by decide +kernel
theorem dX6_changes_15 : decode cX6_changes 15 = .ok (.iastore, 1) := by decide +kernel
theorem dX6_changes_16 : decode cX6_changes 16 = .ok (.return_, 1) := by decide +kernel
def rmX6_changes : Room := { frames := 0, cells := 0, slots := 0, locals := 0 }
abbrev wsX6_changes : List Cond := .code yX6_changes cX6_changes 5 none :: gw_tbl
def kX6_changes_0 : pProg := (0, 1, a_aload 1) :: (1, 1, a_iload 2) :: (2, 1, a_iald 3) :: (3, 2, a_istore 4) :: (5, 1, a_aload 1) :: (6, 1, a_iload 2) :: (7, 1, a_aload 1) :: (8, 1, a_iload 3) :: (9, 1, a_iald 3) :: (10, 1, a_iast 3) :: (11, 1, a_aload 1) :: (12, 1, a_iload 3) :: (13, 2, a_iload 4) :: (15, 1, a_iast 3) :: (16, 1, a_vret) :: []
set_option maxRecDepth 100000 in
theorem sX6_changes_0 (l : Launch) : AllS (pSnd l rmX6_changes yX6_changes.cls cX6_changes wsX6_changes 5 none) 0 kX6_changes_0 :=
  alls _ (s_aload_n rfl dX6_changes_0) <|
  alls _ (s_iload_n rfl dX6_changes_1) <|
  alls _ (s_iald dX6_changes_2) <|
  alls _ (s_istore dX6_changes_3) <|
  alls _ (s_aload_n rfl dX6_changes_5) <|
  alls _ (s_iload_n rfl dX6_changes_6) <|
  alls _ (s_aload_n rfl dX6_changes_7) <|
  alls _ (s_iload_n rfl dX6_changes_8) <|
  alls _ (s_iald dX6_changes_9) <|
  alls _ (s_iast dX6_changes_10) <|
  alls _ (s_aload_n rfl dX6_changes_11) <|
  alls _ (s_iload_n rfl dX6_changes_12) <|
  alls _ (s_iload dX6_changes_13) <|
  alls _ (s_iast dX6_changes_15) <|
  alls _ (s_vret dX6_changes_16) <|
  alls_nil _
def KX6_changes : List (Nat × pProg) := [(0, kX6_changes_0)]
theorem bX6_changes_0 : blkOf KX6_changes 0 = some kX6_changes_0 := rfl
def tX6_changes : pT := pM KX6_changes 5
theorem ct_X6_changes (l : Launch) : pCtr l yX6_changes wsX6_changes rmX6_changes 4 tX6_changes := ctr_of (by decide +kernel) rfl (List.forall_mem_cons.mpr ⟨sX6_changes_0 l, fun _ h => absurd h List.not_mem_nil⟩)
def rmX6_changes_p0_4 : Room := { frames := 0, cells := 0, slots := 0, locals := 0 }
abbrev wsX6_changes_p0_4 : List Cond := .code yX6_changes cX6_changes 5 none :: gw_tbl
def kX6_changes_p0_4_0 : pProg := (0, 1, a_aload 1) :: (1, 1, a_iload 2) :: (2, 1, a_iald 4) :: (3, 2, a_istore 4) :: (5, 1, a_aload 1) :: (6, 1, a_iload 2) :: (7, 1, a_aload 1) :: (8, 1, a_iload 3) :: (9, 1, a_iald 4) :: (10, 1, a_iast 4) :: (11, 1, a_aload 1) :: (12, 1, a_iload 3) :: (13, 2, a_iload 4) :: (15, 1, a_iast 4) :: (16, 1, a_vret) :: []
set_option maxRecDepth 100000 in
theorem sX6_changes_p0_4_0 (l : Launch) : AllS (pSnd l rmX6_changes_p0_4 yX6_changes.cls cX6_changes wsX6_changes_p0_4 5 none) 0 kX6_changes_p0_4_0 :=
  alls _ (s_aload_n rfl dX6_changes_0) <|
  alls _ (s_iload_n rfl dX6_changes_1) <|
  alls _ (s_iald dX6_changes_2) <|
  alls _ (s_istore dX6_changes_3) <|
  alls _ (s_aload_n rfl dX6_changes_5) <|
  alls _ (s_iload_n rfl dX6_changes_6) <|
  alls _ (s_aload_n rfl dX6_changes_7) <|
  alls _ (s_iload_n rfl dX6_changes_8) <|
  alls _ (s_iald dX6_changes_9) <|
  alls _ (s_iast dX6_changes_10) <|
  alls _ (s_aload_n rfl dX6_changes_11) <|
  alls _ (s_iload_n rfl dX6_changes_12) <|
  alls _ (s_iload dX6_changes_13) <|
  alls _ (s_iast dX6_changes_15) <|
  alls _ (s_vret dX6_changes_16) <|
  alls_nil _
def KX6_changes_p0_4 : List (Nat × pProg) := [(0, kX6_changes_p0_4_0)]
theorem bX6_changes_p0_4_0 : blkOf KX6_changes_p0_4 0 = some kX6_changes_p0_4_0 := rfl
def tX6_changes_p0_4 : pT := pM KX6_changes_p0_4 5
theorem ct_X6_changes_p0_4 (l : Launch) : pCtr l yX6_changes wsX6_changes_p0_4 rmX6_changes_p0_4 4 tX6_changes_p0_4 := ctr_of (by decide +kernel) rfl (List.forall_mem_cons.mpr ⟨sX6_changes_p0_4_0 l, fun _ h => absurd h List.not_mem_nil⟩)
def rmX6_changes_p0_5 : Room := { frames := 0, cells := 0, slots := 0, locals := 0 }
abbrev wsX6_changes_p0_5 : List Cond := .code yX6_changes cX6_changes 5 none :: gw_tbl
def kX6_changes_p0_5_0 : pProg := (0, 1, a_aload 1) :: (1, 1, a_iload 2) :: (2, 1, a_iald 5) :: (3, 2, a_istore 4) :: (5, 1, a_aload 1) :: (6, 1, a_iload 2) :: (7, 1, a_aload 1) :: (8, 1, a_iload 3) :: (9, 1, a_iald 5) :: (10, 1, a_iast 5) :: (11, 1, a_aload 1) :: (12, 1, a_iload 3) :: (13, 2, a_iload 4) :: (15, 1, a_iast 5) :: (16, 1, a_vret) :: []
set_option maxRecDepth 100000 in
theorem sX6_changes_p0_5_0 (l : Launch) : AllS (pSnd l rmX6_changes_p0_5 yX6_changes.cls cX6_changes wsX6_changes_p0_5 5 none) 0 kX6_changes_p0_5_0 :=
  alls _ (s_aload_n rfl dX6_changes_0) <|
  alls _ (s_iload_n rfl dX6_changes_1) <|
  alls _ (s_iald dX6_changes_2) <|
  alls _ (s_istore dX6_changes_3) <|
  alls _ (s_aload_n rfl dX6_changes_5) <|
  alls _ (s_iload_n rfl dX6_changes_6) <|
  alls _ (s_aload_n rfl dX6_changes_7) <|
  alls _ (s_iload_n rfl dX6_changes_8) <|
  alls _ (s_iald dX6_changes_9) <|
  alls _ (s_iast dX6_changes_10) <|
  alls _ (s_aload_n rfl dX6_changes_11) <|
  alls _ (s_iload_n rfl dX6_changes_12) <|
  alls _ (s_iload dX6_changes_13) <|
  alls _ (s_iast dX6_changes_15) <|
  alls _ (s_vret dX6_changes_16) <|
  alls_nil _
def KX6_changes_p0_5 : List (Nat × pProg) := [(0, kX6_changes_p0_5_0)]
theorem bX6_changes_p0_5_0 : blkOf KX6_changes_p0_5 0 = some kX6_changes_p0_5_0 := rfl
def tX6_changes_p0_5 : pT := pM KX6_changes_p0_5 5
theorem ct_X6_changes_p0_5 (l : Launch) : pCtr l yX6_changes wsX6_changes_p0_5 rmX6_changes_p0_5 4 tX6_changes_p0_5 := ctr_of (by decide +kernel) rfl (List.forall_mem_cons.mpr ⟨sX6_changes_p0_5_0 l, fun _ h => absurd h List.not_mem_nil⟩)
theorem dX6_changesTwo_0 : decode cX6_changesTwo 0 = .ok (.aload_n 0, 1) := by decide +kernel
theorem dX6_changesTwo_1 : decode cX6_changesTwo 1 = .ok (.aload_n 0, 1) := by decide +kernel
theorem dX6_changesTwo_2 : decode cX6_changesTwo 2 = .ok (.getfield 16, 3) := by decide +kernel
theorem dX6_changesTwo_5 : decode cX6_changesTwo 5 = .ok (.iload_n 1, 1) := by decide +kernel
theorem dX6_changesTwo_6 : decode cX6_changesTwo 6 = .ok (.iload_n 2, 1) := by decide +kernel
theorem dX6_changesTwo_7 : decode cX6_changesTwo 7 = .ok (.invokevirtual 200, 3) := by decide +kernel
theorem dX6_changesTwo_10 : decode cX6_changesTwo 10 = .ok (.aload_n 0, 1) := by decide +kernel
theorem dX6_changesTwo_11 : decode cX6_changesTwo 11 = .ok (.aload_n 0, 1) := by decide +kernel
theorem dX6_changesTwo_12 : decode cX6_changesTwo 12 = .ok (.getfield 19, 3) := by decide +kernel
theorem dX6_changesTwo_15 : decode cX6_changesTwo 15 = .ok (.iload_n 1, 1) := by decide +kernel
theorem dX6_changesTwo_16 : decode cX6_changesTwo 16 = .ok (.iload_n 2, 1) := by decide +kernel
theorem dX6_changesTwo_17 : decode cX6_changesTwo 17 = .ok (.invokevirtual 200, 3) := by decide +kernel
theorem dX6_changesTwo_20 : decode cX6_changesTwo 20 = .ok (.aload_n 0, 1) := by decide +kernel
theorem dX6_changesTwo_21 : decode cX6_changesTwo 21 = .ok (.aload_n 0, 1) := by decide +kernel
theorem dX6_changesTwo_22 : decode cX6_changesTwo 22 = .ok (.getfield 22, 3) := by decide +kernel
theorem dX6_changesTwo_25 : decode cX6_changesTwo 25 = .ok (.iload_n 1, 1) := by decide +kernel
theorem dX6_changesTwo_26 : decode cX6_changesTwo 26 = .ok (.iload_n 2, 1) := by decide +kernel
theorem dX6_changesTwo_27 : decode cX6_changesTwo 27 = .ok (.invokevirtual 200, 3) := by decide +kernel
theorem dX6_changesTwo_30 : decode cX6_changesTwo 30 = .ok (.return_, 1) := by decide +kernel
def rmX6_changesTwo : Room := { frames := 1, cells := 0, slots := 0, locals := 24 }
abbrev wsX6_changesTwo : List Cond := .code yX6_changesTwo cX6_changesTwo 3 none :: gw_tbl
def kX6_changesTwo_0 : pProg := (0, 1, a_aload 0) :: (1, 1, a_aload 0) :: (2, 3, a_getf 0 4 2) :: (5, 1, a_iload 1) :: (6, 1, a_iload 2) :: (7, 3, a_callv 4 4 [0, 1, 2, 3, 4, 5, 6, 7, 8, 9, 10, 11, 12, 13, 14, 15, 16] tX6_changes) :: (10, 1, a_aload 0) :: (11, 1, a_aload 0) :: (12, 3, a_getf 0 4 3) :: (15, 1, a_iload 1) :: (16, 1, a_iload 2) :: (17, 3, a_callv 4 4 [0, 1, 2, 3, 4, 5, 6, 7, 8, 9, 10, 11, 12, 13, 14, 15, 16] tX6_changes_p0_4) :: (20, 1, a_aload 0) :: (21, 1, a_aload 0) :: (22, 3, a_getf 0 4 4) :: (25, 1, a_iload 1) :: (26, 1, a_iload 2) :: (27, 3, a_callv 4 4 [0, 1, 2, 3, 4, 5, 6, 7, 8, 9, 10, 11, 12, 13, 14, 15, 16] tX6_changes_p0_5) :: (30, 1, a_vret) :: []
set_option maxRecDepth 100000 in
theorem sX6_changesTwo_0 (l : Launch) : AllS (pSnd l rmX6_changesTwo yX6_changesTwo.cls cX6_changesTwo wsX6_changesTwo 3 none) 0 kX6_changesTwo_0 :=
  alls _ (s_aload_n rfl dX6_changesTwo_0) <|
  alls _ (s_aload_n rfl dX6_changesTwo_1) <|
  alls _ (s_getf (C := RX6) (T := TX6) (N := 29) rfl (in_c inX6) (by decide) (List.mem_cons_of_mem _ wd_749) rfl dX6_changesTwo_2) <|
  alls _ (s_iload_n rfl dX6_changesTwo_5) <|
  alls _ (s_iload_n rfl dX6_changesTwo_6) <|
  alls _ (s_callv (ct_X6_changes l) rfl rfl rfl (gdV wd_922 wd_924 wd_27 wd_65 wd_925) rfl rfl (by decide +kernel) ⟨Nat.le_of_ble_eq_true rfl, Nat.le_of_ble_eq_true rfl⟩ dX6_changesTwo_7) <|
  alls _ (s_aload_n rfl dX6_changesTwo_10) <|
  alls _ (s_aload_n rfl dX6_changesTwo_11) <|
  alls _ (s_getf (C := RX6) (T := TX6) (N := 29) rfl (in_c inX6) (by decide) (List.mem_cons_of_mem _ wd_750) rfl dX6_changesTwo_12) <|
  alls _ (s_iload_n rfl dX6_changesTwo_15) <|
  alls _ (s_iload_n rfl dX6_changesTwo_16) <|
  alls _ (s_callv (ct_X6_changes_p0_4 l) rfl rfl rfl (gdV wd_922 wd_924 wd_27 wd_65 wd_925) rfl rfl (by decide +kernel) ⟨Nat.le_of_ble_eq_true rfl, Nat.le_of_ble_eq_true rfl⟩ dX6_changesTwo_17) <|
  alls _ (s_aload_n rfl dX6_changesTwo_20) <|
  alls _ (s_aload_n rfl dX6_changesTwo_21) <|
  alls _ (s_getf (C := RX6) (T := TX6) (N := 29) rfl (in_c inX6) (by decide) (List.mem_cons_of_mem _ wd_751) rfl dX6_changesTwo_22) <|
  alls _ (s_iload_n rfl dX6_changesTwo_25) <|
  alls _ (s_iload_n rfl dX6_changesTwo_26) <|
  alls _ (s_callv (ct_X6_changes_p0_5 l) rfl rfl rfl (gdV wd_922 wd_924 wd_27 wd_65 wd_925) rfl rfl (by decide +kernel) ⟨Nat.le_of_ble_eq_true rfl, Nat.le_of_ble_eq_true rfl⟩ dX6_changesTwo_27) <|
  alls _ (s_vret dX6_changesTwo_30) <|
  alls_nil _
def KX6_changesTwo : List (Nat × pProg) := [(0, kX6_changesTwo_0)]
theorem bX6_changesTwo_0 : blkOf KX6_changesTwo 0 = some kX6_changesTwo_0 := rfl
def tX6_changesTwo : pT := pM KX6_changesTwo 3
theorem ct_X6_changesTwo (l : Launch) : pCtr l yX6_changesTwo wsX6_changesTwo rmX6_changesTwo 3 tX6_changesTwo := ctr_of (by decide +kernel) rfl (List.forall_mem_cons.mpr ⟨sX6_changesTwo_0 l, fun _ h => absurd h List.not_mem_nil⟩)
theorem dX6_comesPair_0 : decode cX6_comesPair 0 = .ok (.aload_n 0, 1) := by decide +kernel
theorem dX6_comesPair_1 : decode cX6_comesPair 1 = .ok (.getfield 58, 3) := by decide +kernel
theorem dX6_comesPair_4 : decode cX6_comesPair 4 = .ok (.iconst 4, 1) := by decide +kernel
theorem dX6_comesPair_5 : decode cX6_comesPair 5 = .ok (.if_icmp .ne 5, 3) := by decide +kernel
theorem dX6_comesPair_8 : decode cX6_comesPair 8 = .ok (.iconst 0, 1) := by decide +kernel
theorem dX6_comesPair_9 : decode cX6_comesPair 9 = .ok (.ireturn, 1) := by decide +kernel
theorem dX6_comesPair_10 : decode cX6_comesPair 10 = .ok (.iconst 0, 1) := by decide +kernel
theorem dX6_comesPair_11 : decode cX6_comesPair 11 = .ok (.istore_n 2, 1) := by decide +kernel
theorem dX6_comesPair_12 : decode cX6_comesPair 12 = .ok (.iload_n 2, 1) := by decide +kernel
theorem dX6_comesPair_13 : decode cX6_comesPair 13 = .ok (.iconst 2, 1) := by decide +kernel
theorem dX6_comesPair_14 : decode cX6_comesPair 14 = .ok (.if_icmp .ge 71, 3) := by decide +kernel
theorem dX6_comesPair_17 : decode cX6_comesPair 17 = .ok (.aload_n 0, 1) := by decide +kernel
theorem dX6_comesPair_18 : decode cX6_comesPair 18 = .ok (.getfield 16, 3) := by decide +kernel
theorem dX6_comesPair_21 : decode cX6_comesPair 21 = .ok (.iconst 2, 1) := by decide +kernel
theorem dX6_comesPair_22 : decode cX6_comesPair 22 = .ok (.aload_n 0, 1) := by decide +kernel
theorem dX6_comesPair_23 : decode cX6_comesPair 23 = .ok (.getfield 58, 3) := by decide +kernel
theorem dX6_comesPair_26 : decode cX6_comesPair 26 = .ok (.imul, 1) := by decide +kernel
theorem dX6_comesPair_27 : decode cX6_comesPair 27 = .ok (.iload_n 2, 1) := by decide +kernel
theorem dX6_comesPair_28 : decode cX6_comesPair 28 = .ok (.iadd, 1) := by decide +kernel
theorem dX6_comesPair_29 : decode cX6_comesPair 29 = .ok (.aload_n 0, 1) := by decide +kernel
theorem dX6_comesPair_30 : decode cX6_comesPair 30 = .ok (.getfield 40, 3) := by decide +kernel
theorem dX6_comesPair_33 : decode cX6_comesPair 33 = .ok (.iload_n 1, 1) := by decide +kernel
theorem dX6_comesPair_34 : decode cX6_comesPair 34 = .ok (.iconst 2, 1) := by decide +kernel
theorem dX6_comesPair_35 : decode cX6_comesPair 35 = .ok (.iload_n 2, 1) := by decide +kernel
theorem dX6_comesPair_36 : decode cX6_comesPair 36 = .ok (.imul, 1) := by decide +kernel
theorem dX6_comesPair_37 : decode cX6_comesPair 37 = .ok (.iadd, 1) := by decide +kernel
theorem dX6_comesPair_38 : decode cX6_comesPair 38 = .ok (.iaload, 1) := by decide +kernel
theorem dX6_comesPair_39 : decode cX6_comesPair 39 = .ok (.iastore, 1) := by decide +kernel
theorem dX6_comesPair_40 : decode cX6_comesPair 40 = .ok (.aload_n 0, 1) := by decide +kernel
theorem dX6_comesPair_41 : decode cX6_comesPair 41 = .ok (.getfield 19, 3) := by decide +kernel
theorem dX6_comesPair_44 : decode cX6_comesPair 44 = .ok (.iconst 2, 1) := by decide +kernel
theorem dX6_comesPair_45 : decode cX6_comesPair 45 = .ok (.aload_n 0, 1) := by decide +kernel
theorem dX6_comesPair_46 : decode cX6_comesPair 46 = .ok (.getfield 58, 3) := by decide +kernel
theorem dX6_comesPair_49 : decode cX6_comesPair 49 = .ok (.imul, 1) := by decide +kernel
theorem dX6_comesPair_50 : decode cX6_comesPair 50 = .ok (.iload_n 2, 1) := by decide +kernel
theorem dX6_comesPair_51 : decode cX6_comesPair 51 = .ok (.iadd, 1) := by decide +kernel
theorem dX6_comesPair_52 : decode cX6_comesPair 52 = .ok (.aload_n 0, 1) := by decide +kernel
theorem dX6_comesPair_53 : decode cX6_comesPair 53 = .ok (.getfield 40, 3) := by decide +kernel
theorem dX6_comesPair_56 : decode cX6_comesPair 56 = .ok (.iload_n 1, 1) := by decide +kernel
theorem dX6_comesPair_57 : decode cX6_comesPair 57 = .ok (.iconst 2, 1) := by decide +kernel
theorem dX6_comesPair_58 : decode cX6_comesPair 58 = .ok (.iload_n 2, 1) := by decide +kernel
theorem dX6_comesPair_59 : decode cX6_comesPair 59 = .ok (.imul, 1) := by decide +kernel
theorem dX6_comesPair_60 : decode cX6_comesPair 60 = .ok (.iadd, 1) := by decide +kernel
theorem dX6_comesPair_61 : decode cX6_comesPair 61 = .ok (.iconst 1, 1) := by decide +kernel
theorem dX6_comesPair_62 : decode cX6_comesPair 62 = .ok (.iadd, 1) := by decide +kernel
theorem dX6_comesPair_63 : decode cX6_comesPair 63 = .ok (.iaload, 1) := by decide +kernel
theorem dX6_comesPair_64 : decode cX6_comesPair 64 = .ok (.iastore, 1) := by decide +kernel
theorem dX6_comesPair_65 : decode cX6_comesPair 65 = .ok (.aload_n 0, 1) := by decide +kernel
theorem dX6_comesPair_66 : decode cX6_comesPair 66 = .ok (.getfield 22, 3) := by decide +kernel
theorem dX6_comesPair_69 : decode cX6_comesPair 69 = .ok (.iconst 2, 1) := by decide +kernel
theorem dX6_comesPair_70 : decode cX6_comesPair 70 = .ok (.aload_n 0, 1) := by decide +kernel
theorem dX6_comesPair_71 : decode cX6_comesPair 71 = .ok (.getfield 58, 3) := by decide +kernel
theorem dX6_comesPair_74 : decode cX6_comesPair 74 = .ok (.imul, 1) := by decide +kernel
theorem dX6_comesPair_75 : decode cX6_comesPair 75 = .ok (.iload_n 2, 1) := by decide +kernel
theorem dX6_comesPair_76 : decode cX6_comesPair 76 = .ok (.iadd, 1) := by decide +kernel
theorem dX6_comesPair_77 : decode cX6_comesPair 77 = .ok (.iconst 0, 1) := by decide +kernel
theorem dX6_comesPair_78 : decode cX6_comesPair 78 = .ok (.iastore, 1) := by decide +kernel
theorem dX6_comesPair_79 : decode cX6_comesPair 79 = .ok (.iinc 2 1, 3) := by decide +kernel
theorem dX6_comesPair_82 : decode cX6_comesPair 82 = .ok (.goto (-70), 3) := by decide +kernel
theorem dX6_comesPair_85 : decode cX6_comesPair 85 = .ok (.aload_n 0, 1) := by decide +kernel
theorem dX6_comesPair_86 : decode cX6_comesPair 86 = .ok (.getfield 25, 3) := by decide +kernel
theorem dX6_comesPair_89 : decode cX6_comesPair 89 = .ok (.aload_n 0, 1) := by decide +kernel
theorem dX6_comesPair_90 : decode cX6_comesPair 90 = .ok (.getfield 58, 3) := by decide +kernel
theorem dX6_comesPair_93 : decode cX6_comesPair 93 = .ok (.iconst 0, 1) := by decide +kernel
theorem dX6_comesPair_94 : decode cX6_comesPair 94 = .ok (.iastore, 1) := by decide +kernel
theorem dX6_comesPair_95 : decode cX6_comesPair 95 = .ok (.aload_n 0, 1) := by decide +kernel
theorem dX6_comesPair_96 : decode cX6_comesPair 96 = .ok (.getfield 28, 3) := by decide +kernel
theorem dX6_comesPair_99 : decode cX6_comesPair 99 = .ok (.aload_n 0, 1) := by decide +kernel
theorem dX6_comesPair_100 : decode cX6_comesPair 100 = .ok (.getfield 58, 3) := by decide +kernel
theorem dX6_comesPair_103 : decode cX6_comesPair 103 = .ok (.iconst 0, 1) := by decide +kernel
theorem dX6_comesPair_104 : decode cX6_comesPair 104 = .ok (.iastore, 1) := by decide +kernel
theorem dX6_comesPair_105 : decode cX6_comesPair 105 = .ok (.aload_n 0, 1) := by decide +kernel
theorem dX6_comesPair_106 : decode cX6_comesPair 106 = .ok (.dup, 1) := by decide +kernel
theorem dX6_comesPair_107 : decode cX6_comesPair 107 = .ok (.getfield 58, 3) := by decide +kernel
theorem dX6_comesPair_110 : decode cX6_comesPair 110 = .ok (.iconst 1, 1) := by decide +kernel
theorem dX6_comesPair_111 : decode cX6_comesPair 111 = .ok (.iadd, 1) := by decide +kernel
theorem dX6_comesPair_112 : decode cX6_comesPair 112 = .ok (.putfield 58, 3) := by decide +kernel
theorem dX6_comesPair_115 : decode cX6_comesPair 115 = .ok (.iconst 1, 1) := by decide +kernel
theorem dX6_comesPair_116 : decode cX6_comesPair 116 = .ok (.ireturn, 1) := by decide +kernel
def rmX6_comesPair : Room := { frames := 0, cells := 0, slots := 0, locals := 0 }
abbrev wsX6_comesPair : List Cond := .code yX6_comesPair cX6_comesPair 3 (some .boolean) :: gw_tbl
def kX6_comesPair_85 : pProg := (85, 1, a_aload 0) :: (86, 3, a_getf 0 4 5) :: (89, 1, a_aload 0) :: (90, 3, a_getf 0 4 7) :: (93, 1, a_iconst 0) :: (94, 1, a_iast 6) :: (95, 1, a_aload 0) :: (96, 3, a_getf 0 4 6) :: (99, 1, a_aload 0) :: (100, 3, a_getf 0 4 7) :: (103, 1, a_iconst 0) :: (104, 1, a_iast 7) :: (105, 1, a_aload 0) :: (106, 1, a_dup) :: (107, 3, a_getf 0 4 7) :: (110, 1, a_iconst 1) :: (111, 1, a_iadd) :: (112, 3, a_putf 0 4 7 .int) :: (115, 1, a_iconst 1) :: (116, 1, a_zret) :: []
def kX6_comesPair_12 : pProg := (12, 1, a_iload 2) :: (13, 1, a_iconst 2) :: (14, 3, a_icmp_ge 85) :: (17, 1, a_aload 0) :: (18, 3, a_getf 0 4 2) :: (21, 1, a_iconst 2) :: (22, 1, a_aload 0) :: (23, 3, a_getf 0 4 7) :: (26, 1, a_imul) :: (27, 1, a_iload 2) :: (28, 1, a_iadd) :: (29, 1, a_aload 0) :: (30, 3, a_getf 0 4 12) :: (33, 1, a_iload 1) :: (34, 1, a_iconst 2) :: (35, 1, a_iload 2) :: (36, 1, a_imul) :: (37, 1, a_iadd) :: (38, 1, a_iald 11) :: (39, 1, a_iast 3) :: (40, 1, a_aload 0) :: (41, 3, a_getf 0 4 3) :: (44, 1, a_iconst 2) :: (45, 1, a_aload 0) :: (46, 3, a_getf 0 4 7) :: (49, 1, a_imul) :: (50, 1, a_iload 2) :: (51, 1, a_iadd) :: (52, 1, a_aload 0) :: (53, 3, a_getf 0 4 12) :: (56, 1, a_iload 1) :: (57, 1, a_iconst 2) :: (58, 1, a_iload 2) :: (59, 1, a_imul) :: (60, 1, a_iadd) :: (61, 1, a_iconst 1) :: (62, 1, a_iadd) :: (63, 1, a_iald 11) :: (64, 1, a_iast 4) :: (65, 1, a_aload 0) :: (66, 3, a_getf 0 4 4) :: (69, 1, a_iconst 2) :: (70, 1, a_aload 0) :: (71, 3, a_getf 0 4 7) :: (74, 1, a_imul) :: (75, 1, a_iload 2) :: (76, 1, a_iadd) :: (77, 1, a_iconst 0) :: (78, 1, a_iast 5) :: (79, 3, a_iinc 2 1) :: (82, 3, a_goto 12) :: []
def kX6_comesPair_10 : pProg := (10, 1, a_iconst 0) :: (11, 1, a_istore 2) :: (12, 0, a_fall 12) :: []
def kX6_comesPair_0 : pProg := (0, 1, a_aload 0) :: (1, 3, a_getf 0 4 7) :: (4, 1, a_iconst 4) :: (5, 3, a_icmp_ne 10) :: (8, 1, a_iconst 0) :: (9, 1, a_zret) :: []
set_option maxRecDepth 100000 in
theorem sX6_comesPair_85 (l : Launch) : AllS (pSnd l rmX6_comesPair yX6_comesPair.cls cX6_comesPair wsX6_comesPair 3 (some .boolean)) 85 kX6_comesPair_85 :=
  alls _ (s_aload_n rfl dX6_comesPair_85) <|
  alls _ (s_getf (C := RX6) (T := TX6) (N := 29) rfl (in_c inX6) (by decide) (List.mem_cons_of_mem _ wd_752) rfl dX6_comesPair_86) <|
  alls _ (s_aload_n rfl dX6_comesPair_89) <|
  alls _ (s_getf (C := RX6) (T := TX6) (N := 29) rfl (in_c inX6) (by decide) (List.mem_cons_of_mem _ wd_754) rfl dX6_comesPair_90) <|
  alls _ (s_iconst dX6_comesPair_93) <|
  alls _ (s_iast dX6_comesPair_94) <|
  alls _ (s_aload_n rfl dX6_comesPair_95) <|
  alls _ (s_getf (C := RX6) (T := TX6) (N := 29) rfl (in_c inX6) (by decide) (List.mem_cons_of_mem _ wd_753) rfl dX6_comesPair_96) <|
  alls _ (s_aload_n rfl dX6_comesPair_99) <|
  alls _ (s_getf (C := RX6) (T := TX6) (N := 29) rfl (in_c inX6) (by decide) (List.mem_cons_of_mem _ wd_754) rfl dX6_comesPair_100) <|
  alls _ (s_iconst dX6_comesPair_103) <|
  alls _ (s_iast dX6_comesPair_104) <|
  alls _ (s_aload_n rfl dX6_comesPair_105) <|
  alls _ (s_dup dX6_comesPair_106) <|
  alls _ (s_getf (C := RX6) (T := TX6) (N := 29) rfl (in_c inX6) (by decide) (List.mem_cons_of_mem _ wd_754) rfl dX6_comesPair_107) <|
  alls _ (s_iconst dX6_comesPair_110) <|
  alls _ (s_iadd dX6_comesPair_111) <|
  alls _ (s_putf (C := RX6) (T := TX6) (N := 29) tyX6 rfl (in_c inX6) tyX6_ok nmX6 (by decide) (List.mem_cons_of_mem _ wd_754) rfl rfl (tyX6_ok 7 (by decide)) dX6_comesPair_112) <|
  alls _ (s_iconst dX6_comesPair_115) <|
  alls _ (s_zret dX6_comesPair_116) <|
  alls_nil _
set_option maxRecDepth 100000 in
theorem sX6_comesPair_12 (l : Launch) : AllS (pSnd l rmX6_comesPair yX6_comesPair.cls cX6_comesPair wsX6_comesPair 3 (some .boolean)) 12 kX6_comesPair_12 :=
  alls _ (s_iload_n rfl dX6_comesPair_12) <|
  alls _ (s_iconst dX6_comesPair_13) <|
  alls _ (s_icmp_ge (by decide) dX6_comesPair_14) <|
  alls _ (s_aload_n rfl dX6_comesPair_17) <|
  alls _ (s_getf (C := RX6) (T := TX6) (N := 29) rfl (in_c inX6) (by decide) (List.mem_cons_of_mem _ wd_749) rfl dX6_comesPair_18) <|
  alls _ (s_iconst dX6_comesPair_21) <|
  alls _ (s_aload_n rfl dX6_comesPair_22) <|
  alls _ (s_getf (C := RX6) (T := TX6) (N := 29) rfl (in_c inX6) (by decide) (List.mem_cons_of_mem _ wd_754) rfl dX6_comesPair_23) <|
  alls _ (s_imul dX6_comesPair_26) <|
  alls _ (s_iload_n rfl dX6_comesPair_27) <|
  alls _ (s_iadd dX6_comesPair_28) <|
  alls _ (s_aload_n rfl dX6_comesPair_29) <|
  alls _ (s_getf (C := RX6) (T := TX6) (N := 29) rfl (in_c inX6) (by decide) (List.mem_cons_of_mem _ wd_759) rfl dX6_comesPair_30) <|
  alls _ (s_iload_n rfl dX6_comesPair_33) <|
  alls _ (s_iconst dX6_comesPair_34) <|
  alls _ (s_iload_n rfl dX6_comesPair_35) <|
  alls _ (s_imul dX6_comesPair_36) <|
  alls _ (s_iadd dX6_comesPair_37) <|
  alls _ (s_iald dX6_comesPair_38) <|
  alls _ (s_iast dX6_comesPair_39) <|
  alls _ (s_aload_n rfl dX6_comesPair_40) <|
  alls _ (s_getf (C := RX6) (T := TX6) (N := 29) rfl (in_c inX6) (by decide) (List.mem_cons_of_mem _ wd_750) rfl dX6_comesPair_41) <|
  alls _ (s_iconst dX6_comesPair_44) <|
  alls _ (s_aload_n rfl dX6_comesPair_45) <|
  alls _ (s_getf (C := RX6) (T := TX6) (N := 29) rfl (in_c inX6) (by decide) (List.mem_cons_of_mem _ wd_754) rfl dX6_comesPair_46) <|
  alls _ (s_imul dX6_comesPair_49) <|
  alls _ (s_iload_n rfl dX6_comesPair_50) <|
  alls _ (s_iadd dX6_comesPair_51) <|
  alls _ (s_aload_n rfl dX6_comesPair_52) <|
  alls _ (s_getf (C := RX6) (T := TX6) (N := 29) rfl (in_c inX6) (by decide) (List.mem_cons_of_mem _ wd_759) rfl dX6_comesPair_53) <|
  alls _ (s_iload_n rfl dX6_comesPair_56) <|
  alls _ (s_iconst dX6_comesPair_57) <|
  alls _ (s_iload_n rfl dX6_comesPair_58) <|
  alls _ (s_imul dX6_comesPair_59) <|
  alls _ (s_iadd dX6_comesPair_60) <|
  alls _ (s_iconst dX6_comesPair_61) <|
  alls _ (s_iadd dX6_comesPair_62) <|
  alls _ (s_iald dX6_comesPair_63) <|
  alls _ (s_iast dX6_comesPair_64) <|
  alls _ (s_aload_n rfl dX6_comesPair_65) <|
  alls _ (s_getf (C := RX6) (T := TX6) (N := 29) rfl (in_c inX6) (by decide) (List.mem_cons_of_mem _ wd_751) rfl dX6_comesPair_66) <|
  alls _ (s_iconst dX6_comesPair_69) <|
  alls _ (s_aload_n rfl dX6_comesPair_70) <|
  alls _ (s_getf (C := RX6) (T := TX6) (N := 29) rfl (in_c inX6) (by decide) (List.mem_cons_of_mem _ wd_754) rfl dX6_comesPair_71) <|
  alls _ (s_imul dX6_comesPair_74) <|
  alls _ (s_iload_n rfl dX6_comesPair_75) <|
  alls _ (s_iadd dX6_comesPair_76) <|
  alls _ (s_iconst dX6_comesPair_77) <|
  alls _ (s_iast dX6_comesPair_78) <|
  alls _ (s_iinc dX6_comesPair_79) <|
  alls _ (s_goto (by decide) dX6_comesPair_82) <|
  alls_nil _
set_option maxRecDepth 100000 in
theorem sX6_comesPair_10 (l : Launch) : AllS (pSnd l rmX6_comesPair yX6_comesPair.cls cX6_comesPair wsX6_comesPair 3 (some .boolean)) 10 kX6_comesPair_10 :=
  alls _ (s_iconst dX6_comesPair_10) <|
  alls _ (s_istore_n rfl dX6_comesPair_11) <|
  alls _ s_fall (alls_nil _)
set_option maxRecDepth 100000 in
theorem sX6_comesPair_0 (l : Launch) : AllS (pSnd l rmX6_comesPair yX6_comesPair.cls cX6_comesPair wsX6_comesPair 3 (some .boolean)) 0 kX6_comesPair_0 :=
  alls _ (s_aload_n rfl dX6_comesPair_0) <|
  alls _ (s_getf (C := RX6) (T := TX6) (N := 29) rfl (in_c inX6) (by decide) (List.mem_cons_of_mem _ wd_754) rfl dX6_comesPair_1) <|
  alls _ (s_iconst dX6_comesPair_4) <|
  alls _ (s_icmp_ne (by decide) dX6_comesPair_5) <|
  alls _ (s_iconst dX6_comesPair_8) <|
  alls _ (s_zret dX6_comesPair_9) <|
  alls_nil _
def KX6_comesPair : List (Nat × pProg) := [(0, kX6_comesPair_0), (10, kX6_comesPair_10), (12, kX6_comesPair_12), (85, kX6_comesPair_85)]
theorem bX6_comesPair_0 : blkOf KX6_comesPair 0 = some kX6_comesPair_0 := rfl
theorem bX6_comesPair_10 : blkOf KX6_comesPair 10 = some kX6_comesPair_10 := rfl
theorem bX6_comesPair_12 : blkOf KX6_comesPair 12 = some kX6_comesPair_12 := rfl
theorem bX6_comesPair_85 : blkOf KX6_comesPair 85 = some kX6_comesPair_85 := rfl
def tX6_comesPair : pT := pM KX6_comesPair 3
theorem ct_X6_comesPair (l : Launch) : pCtr l yX6_comesPair wsX6_comesPair rmX6_comesPair 2 tX6_comesPair := ctr_of (by decide +kernel) rfl (List.forall_mem_cons.mpr ⟨sX6_comesPair_0 l, List.forall_mem_cons.mpr ⟨sX6_comesPair_10 l, List.forall_mem_cons.mpr ⟨sX6_comesPair_12 l, List.forall_mem_cons.mpr ⟨sX6_comesPair_85 l, fun _ h => absurd h List.not_mem_nil⟩⟩⟩⟩)
theorem dX6_isCell_0 : decode cX6_isCell 0 = .ok (.iload_n 0, 1) := by decide +kernel
theorem dX6_isCell_1 : decode cX6_isCell 1 = .ok (.ifCond .lt 13, 3) := by decide +kernel
theorem dX6_isCell_4 : decode cX6_isCell 4 = .ok (.iload_n 0, 1) := by decide +kernel
theorem dX6_isCell_5 : decode cX6_isCell 5 = .ok (.bipush 20, 2) := by decide +kernel
theorem dX6_isCell_7 : decode cX6_isCell 7 = .ok (.if_icmp .ge 7, 3) := by decide +kernel
theorem dX6_isCell_10 : decode cX6_isCell 10 = .ok (.iconst 1, 1) := by decide +kernel
theorem dX6_isCell_11 : decode cX6_isCell 11 = .ok (.goto 4, 3) := by decide +kernel
theorem dX6_isCell_14 : decode cX6_isCell 14 = .ok (.iconst 0, 1) := by decide +kernel
theorem dX6_isCell_15 : decode cX6_isCell 15 = .ok (.ireturn, 1) := by decide +kernel
def rmX6_isCell : Room := { frames := 0, cells := 0, slots := 0, locals := 0 }
abbrev wsX6_isCell : List Cond := .code yX6_isCell cX6_isCell 1 (some .boolean) :: gw_tbl
def kX6_isCell_15 : pProg := (15, 1, a_zret) :: []
def kX6_isCell_14 : pProg := (14, 1, a_iconst 0) :: (15, 0, a_fall 15) :: []
def kX6_isCell_0 : pProg := (0, 1, a_iload 0) :: (1, 3, a_if_lt 14) :: (4, 1, a_iload 0) :: (5, 2, a_iconst 20) :: (7, 3, a_icmp_ge 14) :: (10, 1, a_iconst 1) :: (11, 3, a_goto 15) :: []
set_option maxRecDepth 100000 in
theorem sX6_isCell_15 (l : Launch) : AllS (pSnd l rmX6_isCell yX6_isCell.cls cX6_isCell wsX6_isCell 1 (some .boolean)) 15 kX6_isCell_15 :=
  alls _ (s_zret dX6_isCell_15) <|
  alls_nil _
set_option maxRecDepth 100000 in
theorem sX6_isCell_14 (l : Launch) : AllS (pSnd l rmX6_isCell yX6_isCell.cls cX6_isCell wsX6_isCell 1 (some .boolean)) 14 kX6_isCell_14 :=
  alls _ (s_iconst dX6_isCell_14) <|
  alls _ s_fall (alls_nil _)
set_option maxRecDepth 100000 in
theorem sX6_isCell_0 (l : Launch) : AllS (pSnd l rmX6_isCell yX6_isCell.cls cX6_isCell wsX6_isCell 1 (some .boolean)) 0 kX6_isCell_0 :=
  alls _ (s_iload_n rfl dX6_isCell_0) <|
  alls _ (s_if_lt (by decide) dX6_isCell_1) <|
  alls _ (s_iload_n rfl dX6_isCell_4) <|
  alls _ (s_bipush (by decide) dX6_isCell_5) <|
  alls _ (s_icmp_ge (by decide) dX6_isCell_7) <|
  alls _ (s_iconst dX6_isCell_10) <|
  alls _ (s_goto (by decide) dX6_isCell_11) <|
  alls_nil _
def KX6_isCell : List (Nat × pProg) := [(0, kX6_isCell_0), (14, kX6_isCell_14), (15, kX6_isCell_15)]
theorem bX6_isCell_0 : blkOf KX6_isCell 0 = some kX6_isCell_0 := rfl
theorem bX6_isCell_14 : blkOf KX6_isCell 14 = some kX6_isCell_14 := rfl
theorem bX6_isCell_15 : blkOf KX6_isCell 15 = some kX6_isCell_15 := rfl
def tX6_isCell : pT := pM KX6_isCell 1
theorem ct_X6_isCell (l : Launch) : pCtr l yX6_isCell wsX6_isCell rmX6_isCell 1 tX6_isCell := ctr_of (by decide +kernel) rfl (List.forall_mem_cons.mpr ⟨sX6_isCell_0 l, List.forall_mem_cons.mpr ⟨sX6_isCell_14 l, List.forall_mem_cons.mpr ⟨sX6_isCell_15 l, fun _ h => absurd h List.not_mem_nil⟩⟩⟩)
theorem dX6_comesBeams_0 : decode cX6_comesBeams 0 = .ok (.iload_n 1, 1) := by decide +kernel
theorem dX6_comesBeams_1 : decode cX6_comesBeams 1 = .ok (.invokestatic 103, 3) := by decide +kernel
theorem dX6_comesBeams_4 : decode cX6_comesBeams 4 = .ok (.ifCond .eq 8, 3) := by decide +kernel
theorem dX6_comesBeams_7 : decode cX6_comesBeams 7 = .ok (.iload_n 2, 1) := by decide +kernel
theorem dX6_comesBeams_8 : decode cX6_comesBeams 8 = .ok (.iconst 3, 1) := by decide +kernel
theorem dX6_comesBeams_9 : decode cX6_comesBeams 9 = .ok (.if_icmp .le 5, 3) := by decide +kernel
theorem dX6_comesBeams_12 : decode cX6_comesBeams 12 = .ok (.iconst 0, 1) := by decide +kernel
theorem dX6_comesBeams_13 : decode cX6_comesBeams 13 = .ok (.ireturn, 1) := by decide +kernel
theorem dX6_comesBeams_14 : decode cX6_comesBeams 14 = .ok (.aload_n 0, 1) := by decide +kernel
theorem dX6_comesBeams_15 : decode cX6_comesBeams 15 = .ok (.getfield 13, 3) := by decide +kernel
theorem dX6_comesBeams_18 : decode cX6_comesBeams 18 = .ok (.iload_n 1, 1) := by decide +kernel
theorem dX6_comesBeams_19 : decode cX6_comesBeams 19 = .ok (.iload_n 2, 1) := by decide +kernel
theorem dX6_comesBeams_20 : decode cX6_comesBeams 20 = .ok (.iastore, 1) := by decide +kernel
theorem dX6_comesBeams_21 : decode cX6_comesBeams 21 = .ok (.iconst 1, 1) := by decide +kernel
theorem dX6_comesBeams_22 : decode cX6_comesBeams 22 = .ok (.ireturn, 1) := by decide +kernel
def rmX6_comesBeams : Room := { frames := 1, cells := 0, slots := 0, locals := 20 }
abbrev wsX6_comesBeams : List Cond := .code yX6_comesBeams cX6_comesBeams 3 (some .boolean) :: gw_tbl
def kX6_comesBeams_14 : pProg := (14, 1, a_aload 0) :: (15, 3, a_getf 0 4 1) :: (18, 1, a_iload 1) :: (19, 1, a_iload 2) :: (20, 1, a_iast 2) :: (21, 1, a_iconst 1) :: (22, 1, a_zret) :: []
def kX6_comesBeams_12 : pProg := (12, 1, a_iconst 0) :: (13, 1, a_zret) :: []
def kX6_comesBeams_0 : pProg := (0, 1, a_iload 1) :: (1, 3, a_calls 1 [] tX6_isCell) :: (4, 3, a_if_eq 12) :: (7, 1, a_iload 2) :: (8, 1, a_iconst 3) :: (9, 3, a_icmp_le 14) :: (12, 0, a_fall 12) :: []
set_option maxRecDepth 100000 in
theorem sX6_comesBeams_14 (l : Launch) : AllS (pSnd l rmX6_comesBeams yX6_comesBeams.cls cX6_comesBeams wsX6_comesBeams 3 (some .boolean)) 14 kX6_comesBeams_14 :=
  alls _ (s_aload_n rfl dX6_comesBeams_14) <|
  alls _ (s_getf (C := RX6) (T := TX6) (N := 29) rfl (in_c inX6) (by decide) (List.mem_cons_of_mem _ wd_748) rfl dX6_comesBeams_15) <|
  alls _ (s_iload_n rfl dX6_comesBeams_18) <|
  alls _ (s_iload_n rfl dX6_comesBeams_19) <|
  alls _ (s_iast dX6_comesBeams_20) <|
  alls _ (s_iconst dX6_comesBeams_21) <|
  alls _ (s_zret dX6_comesBeams_22) <|
  alls_nil _
set_option maxRecDepth 100000 in
theorem sX6_comesBeams_12 (l : Launch) : AllS (pSnd l rmX6_comesBeams yX6_comesBeams.cls cX6_comesBeams wsX6_comesBeams 3 (some .boolean)) 12 kX6_comesBeams_12 :=
  alls _ (s_iconst dX6_comesBeams_12) <|
  alls _ (s_zret dX6_comesBeams_13) <|
  alls_nil _
set_option maxRecDepth 100000 in
theorem sX6_comesBeams_0 (l : Launch) : AllS (pSnd l rmX6_comesBeams yX6_comesBeams.cls cX6_comesBeams wsX6_comesBeams 3 (some .boolean)) 0 kX6_comesBeams_0 :=
  alls _ (s_iload_n rfl dX6_comesBeams_0) <|
  alls _ (s_calls (ct_X6_isCell l) rfl rfl (gdS wd_898) (List.mem_cons_of_mem _ wd_896) (List.mem_cons_of_mem _ wd_897) (List.mem_cons_of_mem _ wd_65) rfl rfl (by decide +kernel) ⟨Nat.le_of_ble_eq_true rfl, Nat.le_of_ble_eq_true rfl⟩ dX6_comesBeams_1) <|
  alls _ (s_if_eq (by decide) dX6_comesBeams_4) <|
  alls _ (s_iload_n rfl dX6_comesBeams_7) <|
  alls _ (s_iconst dX6_comesBeams_8) <|
  alls _ (s_icmp_le (by decide) dX6_comesBeams_9) <|
  alls _ s_fall (alls_nil _)
def KX6_comesBeams : List (Nat × pProg) := [(0, kX6_comesBeams_0), (12, kX6_comesBeams_12), (14, kX6_comesBeams_14)]
theorem bX6_comesBeams_0 : blkOf KX6_comesBeams 0 = some kX6_comesBeams_0 := rfl
theorem bX6_comesBeams_12 : blkOf KX6_comesBeams 12 = some kX6_comesBeams_12 := rfl
theorem bX6_comesBeams_14 : blkOf KX6_comesBeams 14 = some kX6_comesBeams_14 := rfl
def tX6_comesBeams : pT := pM KX6_comesBeams 3
theorem ct_X6_comesBeams (l : Launch) : pCtr l yX6_comesBeams wsX6_comesBeams rmX6_comesBeams 3 tX6_comesBeams := ctr_of (by decide +kernel) rfl (List.forall_mem_cons.mpr ⟨sX6_comesBeams_0 l, List.forall_mem_cons.mpr ⟨sX6_comesBeams_12 l, List.forall_mem_cons.mpr ⟨sX6_comesBeams_14 l, fun _ h => absurd h List.not_mem_nil⟩⟩⟩)
theorem dX6_isPair_0 : decode cX6_isPair 0 = .ok (.iload_n 1, 1) := by decide +kernel
theorem dX6_isPair_1 : decode cX6_isPair 1 = .ok (.ifCond .lt 15, 3) := by decide +kernel
theorem dX6_isPair_4 : decode cX6_isPair 4 = .ok (.iload_n 1, 1) := by decide +kernel
theorem dX6_isPair_5 : decode cX6_isPair 5 = .ok (.aload_n 0, 1) := by decide +kernel
theorem dX6_isPair_6 : decode cX6_isPair 6 = .ok (.getfield 58, 3) := by decide +kernel
theorem dX6_isPair_9 : decode cX6_isPair 9 = .ok (.if_icmp .ge 7, 3) := by decide +kernel
theorem dX6_isPair_12 : decode cX6_isPair 12 = .ok (.iconst 1, 1) := by decide +kernel
theorem dX6_isPair_13 : decode cX6_isPair 13 = .ok (.goto 4, 3) := by decide +kernel
theorem dX6_isPair_16 : decode cX6_isPair 16 = .ok (.iconst 0, 1) := by decide +kernel
theorem dX6_isPair_17 : decode cX6_isPair 17 = .ok (.ireturn, 1) := by decide +kernel
def rmX6_isPair : Room := { frames := 0, cells := 0, slots := 0, locals := 0 }
abbrev wsX6_isPair : List Cond := .code yX6_isPair cX6_isPair 2 (some .boolean) :: gw_tbl
def kX6_isPair_17 : pProg := (17, 1, a_zret) :: []
def kX6_isPair_16 : pProg := (16, 1, a_iconst 0) :: (17, 0, a_fall 17) :: []
def kX6_isPair_0 : pProg := (0, 1, a_iload 1) :: (1, 3, a_if_lt 16) :: (4, 1, a_iload 1) :: (5, 1, a_aload 0) :: (6, 3, a_getf 0 4 7) :: (9, 3, a_icmp_ge 16) :: (12, 1, a_iconst 1) :: (13, 3, a_goto 17) :: []
set_option maxRecDepth 100000 in
theorem sX6_isPair_17 (l : Launch) : AllS (pSnd l rmX6_isPair yX6_isPair.cls cX6_isPair wsX6_isPair 2 (some .boolean)) 17 kX6_isPair_17 :=
  alls _ (s_zret dX6_isPair_17) <|
  alls_nil _
set_option maxRecDepth 100000 in
theorem sX6_isPair_16 (l : Launch) : AllS (pSnd l rmX6_isPair yX6_isPair.cls cX6_isPair wsX6_isPair 2 (some .boolean)) 16 kX6_isPair_16 :=
  alls _ (s_iconst dX6_isPair_16) <|
  alls _ s_fall (alls_nil _)
set_option maxRecDepth 100000 in
theorem sX6_isPair_0 (l : Launch) : AllS (pSnd l rmX6_isPair yX6_isPair.cls cX6_isPair wsX6_isPair 2 (some .boolean)) 0 kX6_isPair_0 :=
  alls _ (s_iload_n rfl dX6_isPair_0) <|
  alls _ (s_if_lt (by decide) dX6_isPair_1) <|
  alls _ (s_iload_n rfl dX6_isPair_4) <|
  alls _ (s_aload_n rfl dX6_isPair_5) <|
  alls _ (s_getf (C := RX6) (T := TX6) (N := 29) rfl (in_c inX6) (by decide) (List.mem_cons_of_mem _ wd_754) rfl dX6_isPair_6) <|
  alls _ (s_icmp_ge (by decide) dX6_isPair_9) <|
  alls _ (s_iconst dX6_isPair_12) <|
  alls _ (s_goto (by decide) dX6_isPair_13) <|
  alls_nil _
def KX6_isPair : List (Nat × pProg) := [(0, kX6_isPair_0), (16, kX6_isPair_16), (17, kX6_isPair_17)]
theorem bX6_isPair_0 : blkOf KX6_isPair 0 = some kX6_isPair_0 := rfl
theorem bX6_isPair_16 : blkOf KX6_isPair 16 = some kX6_isPair_16 := rfl
theorem bX6_isPair_17 : blkOf KX6_isPair 17 = some kX6_isPair_17 := rfl
def tX6_isPair : pT := pM KX6_isPair 2
theorem ct_X6_isPair (l : Launch) : pCtr l yX6_isPair wsX6_isPair rmX6_isPair 2 tX6_isPair := ctr_of (by decide +kernel) rfl (List.forall_mem_cons.mpr ⟨sX6_isPair_0 l, List.forall_mem_cons.mpr ⟨sX6_isPair_16 l, List.forall_mem_cons.mpr ⟨sX6_isPair_17 l, fun _ h => absurd h List.not_mem_nil⟩⟩⟩)
theorem dX6_comesOf_0 : decode cX6_comesOf 0 = .ok (.aload_n 0, 1) := by decide +kernel
theorem dX6_comesOf_1 : decode cX6_comesOf 1 = .ok (.iload_n 2, 1) := by decide +kernel
theorem dX6_comesOf_2 : decode cX6_comesOf 2 = .ok (.invokevirtual 106, 3) := by decide +kernel
theorem dX6_comesOf_5 : decode cX6_comesOf 5 = .ok (.ifCond .eq 16, 3) := by decide +kernel
theorem dX6_comesOf_8 : decode cX6_comesOf 8 = .ok (.iload_n 1, 1) := by decide +kernel
theorem dX6_comesOf_9 : decode cX6_comesOf 9 = .ok (.bipush 97, 2) := by decide +kernel
theorem dX6_comesOf_11 : decode cX6_comesOf 11 = .ok (.if_icmp .ne 12, 3) := by decide +kernel
theorem dX6_comesOf_14 : decode cX6_comesOf 14 = .ok (.iload_n 3, 1) := by decide +kernel
theorem dX6_comesOf_15 : decode cX6_comesOf 15 = .ok (.invokestatic 103, 3) := by decide +kernel
theorem dX6_comesOf_18 : decode cX6_comesOf 18 = .ok (.ifCond .ne 5, 3) := by decide +kernel
theorem dX6_comesOf_21 : decode cX6_comesOf 21 = .ok (.iconst 0, 1) := by decide +kernel
theorem dX6_comesOf_22 : decode cX6_comesOf 22 = .ok (.ireturn, 1) := by decide +kernel
theorem dX6_comesOf_23 : decode cX6_comesOf 23 = .ok (.iload_n 1, 1) := by decide +kernel
theorem dX6_comesOf_24 : decode cX6_comesOf 24 = .ok (.bipush 97, 2) := by decide +kernel
theorem dX6_comesOf_26 : decode cX6_comesOf 26 = .ok (.if_icmp .ne 13, 3) := by decide +kernel
theorem dX6_comesOf_29 : decode cX6_comesOf 29 = .ok (.aload_n 0, 1) := by decide +kernel
theorem dX6_comesOf_30 : decode cX6_comesOf 30 = .ok (.getfield 25, 3) := by decide +kernel
theorem dX6_comesOf_33 : decode cX6_comesOf 33 = .ok (.iload_n 2, 1) := by decide +kernel
theorem dX6_comesOf_34 : decode cX6_comesOf 34 = .ok (.iload_n 3, 1) := by decide +kernel
theorem dX6_comesOf_35 : decode cX6_comesOf 35 = .ok (.iastore, 1) := by decide +kernel
theorem dX6_comesOf_36 : decode cX6_comesOf 36 = .ok (.goto 20, 3) := by decide +kernel
theorem dX6_comesOf_39 : decode cX6_comesOf 39 = .ok (.aload_n 0, 1) := by decide +kernel
theorem dX6_comesOf_40 : decode cX6_comesOf 40 = .ok (.getfield 28, 3) := by decide +kernel
theorem dX6_comesOf_43 : decode cX6_comesOf 43 = .ok (.iload_n 2, 1) := by decide +kernel
theorem dX6_comesOf_44 : decode cX6_comesOf 44 = .ok (.aload_n 0, 1) := by decide +kernel
theorem dX6_comesOf_45 : decode cX6_comesOf 45 = .ok (.getfield 28, 3) := by decide +kernel
theorem dX6_comesOf_48 : decode cX6_comesOf 48 = .ok (.iload_n 2, 1) := by decide +kernel
theorem dX6_comesOf_49 : decode cX6_comesOf 49 = .ok (.iaload, 1) := by decide +kernel
theorem dX6_comesOf_50 : decode cX6_comesOf 50 = .ok (.iload_n 3, 1) := by decide +kernel
theorem dX6_comesOf_51 : decode cX6_comesOf 51 = .ok (.iadd, 1) := by decide +kernel
theorem dX6_comesOf_52 : decode cX6_comesOf 52 = .ok (.invokestatic 109, 3) := by decide +kernel
theorem dX6_comesOf_55 : decode cX6_comesOf 55 = .ok (.iastore, 1) := by decide +kernel
theorem dX6_comesOf_56 : decode cX6_comesOf 56 = .ok (.iconst 1, 1) := by decide +kernel
theorem dX6_comesOf_57 : decode cX6_comesOf 57 = .ok (.ireturn, 1) := by decide +kernel
def rmX6_comesOf : Room := { frames := 1, cells := 0, slots := 0, locals := 21 }
abbrev wsX6_comesOf : List Cond := .code yX6_comesOf cX6_comesOf 4 (some .boolean) :: gw_tbl
def kX6_comesOf_56 : pProg := (56, 1, a_iconst 1) :: (57, 1, a_zret) :: []
def kX6_comesOf_39 : pProg := (39, 1, a_aload 0) :: (40, 3, a_getf 0 4 6) :: (43, 1, a_iload 2) :: (44, 1, a_aload 0) :: (45, 3, a_getf 0 4 6) :: (48, 1, a_iload 2) :: (49, 1, a_iald 7) :: (50, 1, a_iload 3) :: (51, 1, a_iadd) :: (52, 3, a_calls 1 [] tX6_held) :: (55, 1, a_iast 7) :: (56, 0, a_fall 56) :: []
def kX6_comesOf_23 : pProg := (23, 1, a_iload 1) :: (24, 2, a_iconst 97) :: (26, 3, a_icmp_ne 39) :: (29, 1, a_aload 0) :: (30, 3, a_getf 0 4 5) :: (33, 1, a_iload 2) :: (34, 1, a_iload 3) :: (35, 1, a_iast 6) :: (36, 3, a_goto 56) :: []
def kX6_comesOf_21 : pProg := (21, 1, a_iconst 0) :: (22, 1, a_zret) :: []
def kX6_comesOf_0 : pProg := (0, 1, a_aload 0) :: (1, 1, a_iload 2) :: (2, 3, a_callv 2 4 [0, 1, 2, 3, 4, 5, 6, 7, 8, 9, 10, 11, 12, 13, 14, 15, 16] tX6_isPair) :: (5, 3, a_if_eq 21) :: (8, 1, a_iload 1) :: (9, 2, a_iconst 97) :: (11, 3, a_icmp_ne 23) :: (14, 1, a_iload 3) :: (15, 3, a_calls 1 [] tX6_isCell) :: (18, 3, a_if_ne 23) :: (21, 0, a_fall 21) :: []
set_option maxRecDepth 100000 in
theorem sX6_comesOf_56 (l : Launch) : AllS (pSnd l rmX6_comesOf yX6_comesOf.cls cX6_comesOf wsX6_comesOf 4 (some .boolean)) 56 kX6_comesOf_56 :=
  alls _ (s_iconst dX6_comesOf_56) <|
  alls _ (s_zret dX6_comesOf_57) <|
  alls_nil _
set_option maxRecDepth 100000 in
theorem sX6_comesOf_39 (l : Launch) : AllS (pSnd l rmX6_comesOf yX6_comesOf.cls cX6_comesOf wsX6_comesOf 4 (some .boolean)) 39 kX6_comesOf_39 :=
  alls _ (s_aload_n rfl dX6_comesOf_39) <|
  alls _ (s_getf (C := RX6) (T := TX6) (N := 29) rfl (in_c inX6) (by decide) (List.mem_cons_of_mem _ wd_753) rfl dX6_comesOf_40) <|
  alls _ (s_iload_n rfl dX6_comesOf_43) <|
  alls _ (s_aload_n rfl dX6_comesOf_44) <|
  alls _ (s_getf (C := RX6) (T := TX6) (N := 29) rfl (in_c inX6) (by decide) (List.mem_cons_of_mem _ wd_753) rfl dX6_comesOf_45) <|
  alls _ (s_iload_n rfl dX6_comesOf_48) <|
  alls _ (s_iald dX6_comesOf_49) <|
  alls _ (s_iload_n rfl dX6_comesOf_50) <|
  alls _ (s_iadd dX6_comesOf_51) <|
  alls _ (s_calls (ct_X6_held l) rfl rfl (gdS wd_913) (List.mem_cons_of_mem _ wd_911) (List.mem_cons_of_mem _ wd_912) (List.mem_cons_of_mem _ wd_65) rfl rfl (by decide +kernel) ⟨Nat.le_of_ble_eq_true rfl, Nat.le_of_ble_eq_true rfl⟩ dX6_comesOf_52) <|
  alls _ (s_iast dX6_comesOf_55) <|
  alls _ s_fall (alls_nil _)
set_option maxRecDepth 100000 in
theorem sX6_comesOf_23 (l : Launch) : AllS (pSnd l rmX6_comesOf yX6_comesOf.cls cX6_comesOf wsX6_comesOf 4 (some .boolean)) 23 kX6_comesOf_23 :=
  alls _ (s_iload_n rfl dX6_comesOf_23) <|
  alls _ (s_bipush (by decide) dX6_comesOf_24) <|
  alls _ (s_icmp_ne (by decide) dX6_comesOf_26) <|
  alls _ (s_aload_n rfl dX6_comesOf_29) <|
  alls _ (s_getf (C := RX6) (T := TX6) (N := 29) rfl (in_c inX6) (by decide) (List.mem_cons_of_mem _ wd_752) rfl dX6_comesOf_30) <|
  alls _ (s_iload_n rfl dX6_comesOf_33) <|
  alls _ (s_iload_n rfl dX6_comesOf_34) <|
  alls _ (s_iast dX6_comesOf_35) <|
  alls _ (s_goto (by decide) dX6_comesOf_36) <|
  alls_nil _
set_option maxRecDepth 100000 in
theorem sX6_comesOf_21 (l : Launch) : AllS (pSnd l rmX6_comesOf yX6_comesOf.cls cX6_comesOf wsX6_comesOf 4 (some .boolean)) 21 kX6_comesOf_21 :=
  alls _ (s_iconst dX6_comesOf_21) <|
  alls _ (s_zret dX6_comesOf_22) <|
  alls_nil _
set_option maxRecDepth 100000 in
theorem sX6_comesOf_0 (l : Launch) : AllS (pSnd l rmX6_comesOf yX6_comesOf.cls cX6_comesOf wsX6_comesOf 4 (some .boolean)) 0 kX6_comesOf_0 :=
  alls _ (s_aload_n rfl dX6_comesOf_0) <|
  alls _ (s_iload_n rfl dX6_comesOf_1) <|
  alls _ (s_callv (ct_X6_isPair l) rfl rfl rfl (gdV wd_907 wd_909 wd_24 wd_65 wd_910) rfl rfl (by decide +kernel) ⟨Nat.le_of_ble_eq_true rfl, Nat.le_of_ble_eq_true rfl⟩ dX6_comesOf_2) <|
  alls _ (s_if_eq (by decide) dX6_comesOf_5) <|
  alls _ (s_iload_n rfl dX6_comesOf_8) <|
  alls _ (s_bipush (by decide) dX6_comesOf_9) <|
  alls _ (s_icmp_ne (by decide) dX6_comesOf_11) <|
  alls _ (s_iload_n rfl dX6_comesOf_14) <|
  alls _ (s_calls (ct_X6_isCell l) rfl rfl (gdS wd_898) (List.mem_cons_of_mem _ wd_896) (List.mem_cons_of_mem _ wd_897) (List.mem_cons_of_mem _ wd_65) rfl rfl (by decide +kernel) ⟨Nat.le_of_ble_eq_true rfl, Nat.le_of_ble_eq_true rfl⟩ dX6_comesOf_15) <|
  alls _ (s_if_ne (by decide) dX6_comesOf_18) <|
  alls _ s_fall (alls_nil _)
def KX6_comesOf : List (Nat × pProg) := [(0, kX6_comesOf_0), (21, kX6_comesOf_21), (23, kX6_comesOf_23), (39, kX6_comesOf_39), (56, kX6_comesOf_56)]
theorem bX6_comesOf_0 : blkOf KX6_comesOf 0 = some kX6_comesOf_0 := rfl
theorem bX6_comesOf_21 : blkOf KX6_comesOf 21 = some kX6_comesOf_21 := rfl
theorem bX6_comesOf_23 : blkOf KX6_comesOf 23 = some kX6_comesOf_23 := rfl
theorem bX6_comesOf_39 : blkOf KX6_comesOf 39 = some kX6_comesOf_39 := rfl
theorem bX6_comesOf_56 : blkOf KX6_comesOf 56 = some kX6_comesOf_56 := rfl
def tX6_comesOf : pT := pM KX6_comesOf 4
theorem ct_X6_comesOf (l : Launch) : pCtr l yX6_comesOf wsX6_comesOf rmX6_comesOf 4 tX6_comesOf := ctr_of (by decide +kernel) rfl (List.forall_mem_cons.mpr ⟨sX6_comesOf_0 l, List.forall_mem_cons.mpr ⟨sX6_comesOf_21 l, List.forall_mem_cons.mpr ⟨sX6_comesOf_23 l, List.forall_mem_cons.mpr ⟨sX6_comesOf_39 l, List.forall_mem_cons.mpr ⟨sX6_comesOf_56 l, fun _ h => absurd h List.not_mem_nil⟩⟩⟩⟩⟩)
theorem dX6_comes_0 : decode cX6_comes 0 = .ok (.iconst 4, 1) := by decide +kernel
theorem dX6_comes_1 : decode cX6_comes 1 = .ok (.iload_n 1, 1) := by decide +kernel
theorem dX6_comes_2 : decode cX6_comes 2 = .ok (.imul, 1) := by decide +kernel
theorem dX6_comes_3 : decode cX6_comes 3 = .ok (.istore_n 2, 1) := by decide +kernel
theorem dX6_comes_4 : decode cX6_comes 4 = .ok (.aload_n 0, 1) := by decide +kernel
theorem dX6_comes_5 : decode cX6_comes 5 = .ok (.getfield 34, 3) := by decide +kernel
theorem dX6_comes_8 : decode cX6_comes 8 = .ok (.iload_n 1, 1) := by decide +kernel
theorem dX6_comes_9 : decode cX6_comes 9 = .ok (.iaload, 1) := by decide +kernel
theorem dX6_comes_10 : decode cX6_comes 10 = .ok (.lookupswitch 167 #[(97, 75), (98, 50), (112, 69), (116, 75), (120, 100)], 50) := by decide +kernel
theorem dX6_comes_60 : decode cX6_comes 60 = .ok (.aload_n 0, 1) := by decide +kernel
theorem dX6_comes_61 : decode cX6_comes 61 = .ok (.aload_n 0, 1) := by decide +kernel
theorem dX6_comes_62 : decode cX6_comes 62 = .ok (.getfield 40, 3) := by decide +kernel
theorem dX6_comes_65 : decode cX6_comes 65 = .ok (.iload_n 2, 1) := by decide +kernel
theorem dX6_comes_66 : decode cX6_comes 66 = .ok (.iaload, 1) := by decide +kernel
theorem dX6_comes_67 : decode cX6_comes 67 = .ok (.aload_n 0, 1) := by decide +kernel
theorem dX6_comes_68 : decode cX6_comes 68 = .ok (.getfield 40, 3) := by decide +kernel
theorem dX6_comes_71 : decode cX6_comes 71 = .ok (.iload_n 2, 1) := by decide +kernel
theorem dX6_comes_72 : decode cX6_comes 72 = .ok (.iconst 1, 1) := by decide +kernel
theorem dX6_comes_73 : decode cX6_comes 73 = .ok (.iadd, 1) := by decide +kernel
theorem dX6_comes_74 : decode cX6_comes 74 = .ok (.iaload, 1) := by decide +kernel
theorem dX6_comes_75 : decode cX6_comes 75 = .ok (.invokevirtual 119, 3) := by decide +kernel
theorem dX6_comes_78 : decode cX6_comes 78 = .ok (.ireturn, 1) := by decide +kernel
theorem dX6_comes_79 : decode cX6_comes 79 = .ok (.aload_n 0, 1) := by decide +kernel
theorem dX6_comes_80 : decode cX6_comes 80 = .ok (.iload_n 2, 1) := by decide +kernel
theorem dX6_comes_81 : decode cX6_comes 81 = .ok (.invokevirtual 122, 3) := by decide +kernel
theorem dX6_comes_84 : decode cX6_comes 84 = .ok (.ireturn, 1) := by decide +kernel
theorem dX6_comes_85 : decode cX6_comes 85 = .ok (.aload_n 0, 1) := by decide +kernel
theorem dX6_comes_86 : decode cX6_comes 86 = .ok (.aload_n 0, 1) := by decide +kernel
theorem dX6_comes_87 : decode cX6_comes 87 = .ok (.getfield 34, 3) := by decide +kernel
theorem dX6_comes_90 : decode cX6_comes 90 = .ok (.iload_n 1, 1) := by decide +kernel
theorem dX6_comes_91 : decode cX6_comes 91 = .ok (.iaload, 1) := by decide +kernel
theorem dX6_comes_92 : decode cX6_comes 92 = .ok (.aload_n 0, 1) := by decide +kernel
theorem dX6_comes_93 : decode cX6_comes 93 = .ok (.getfield 40, 3) := by decide +kernel
theorem dX6_comes_96 : decode cX6_comes 96 = .ok (.iload_n 2, 1) := by decide +kernel
theorem dX6_comes_97 : decode cX6_comes 97 = .ok (.iaload, 1) := by decide +kernel
theorem dX6_comes_98 : decode cX6_comes 98 = .ok (.aload_n 0, 1) := by decide +kernel
theorem dX6_comes_99 : decode cX6_comes 99 = .ok (.getfield 40, 3) := by decide +kernel
theorem dX6_comes_102 : decode cX6_comes 102 = .ok (.iload_n 2, 1) := by decide +kernel
theorem dX6_comes_103 : decode cX6_comes 103 = .ok (.iconst 1, 1) := by decide +kernel
theorem dX6_comes_104 : decode cX6_comes 104 = .ok (.iadd, 1) := by decide +kernel
theorem dX6_comes_105 : decode cX6_comes 105 = .ok (.iaload, 1) := by decide +kernel
theorem dX6_comes_106 : decode cX6_comes 106 = .ok (.invokevirtual 125, 3) := by decide +kernel
theorem dX6_comes_109 : decode cX6_comes 109 = .ok (.ireturn, 1) := by decide +kernel
theorem dX6_comes_110 : decode cX6_comes 110 = .ok (.aload_n 0, 1) := by decide +kernel
theorem dX6_comes_111 : decode cX6_comes 111 = .ok (.aload_n 0, 1) := by decide +kernel
theorem dX6_comes_112 : decode cX6_comes 112 = .ok (.getfield 40, 3) := by decide +kernel
theorem dX6_comes_115 : decode cX6_comes 115 = .ok (.iload_n 2, 1) := by decide +kernel
theorem dX6_comes_116 : decode cX6_comes 116 = .ok (.iaload, 1) := by decide +kernel
theorem dX6_comes_117 : decode cX6_comes 117 = .ok (.invokevirtual 128, 3) := by decide +kernel
theorem dX6_comes_120 : decode cX6_comes 120 = .ok (.ifCond .eq 35, 3) := by decide +kernel
theorem dX6_comes_123 : decode cX6_comes 123 = .ok (.aload_n 0, 1) := by decide +kernel
theorem dX6_comes_124 : decode cX6_comes 124 = .ok (.aload_n 0, 1) := by decide +kernel
theorem dX6_comes_125 : decode cX6_comes 125 = .ok (.getfield 40, 3) := by decide +kernel
theorem dX6_comes_128 : decode cX6_comes 128 = .ok (.iload_n 2, 1) := by decide +kernel
theorem dX6_comes_129 : decode cX6_comes 129 = .ok (.iconst 1, 1) := by decide +kernel
theorem dX6_comes_130 : decode cX6_comes 130 = .ok (.iadd, 1) := by decide +kernel
theorem dX6_comes_131 : decode cX6_comes 131 = .ok (.iaload, 1) := by decide +kernel
theorem dX6_comes_132 : decode cX6_comes 132 = .ok (.invokevirtual 128, 3) := by decide +kernel
theorem dX6_comes_135 : decode cX6_comes 135 = .ok (.ifCond .eq 20, 3) := by decide +kernel
theorem dX6_comes_138 : decode cX6_comes 138 = .ok (.aload_n 0, 1) := by decide +kernel
theorem dX6_comes_139 : decode cX6_comes 139 = .ok (.getfield 40, 3) := by decide +kernel
theorem dX6_comes_142 : decode cX6_comes 142 = .ok (.iload_n 2, 1) := by decide +kernel
theorem dX6_comes_143 : decode cX6_comes 143 = .ok (.iaload, 1) := by decide +kernel
theorem dX6_comes_144 : decode cX6_comes 144 = .ok (.aload_n 0, 1) := by decide +kernel
theorem dX6_comes_145 : decode cX6_comes 145 = .ok (.getfield 40, 3) := by decide +kernel
theorem dX6_comes_148 : decode cX6_comes 148 = .ok (.iload_n 2, 1) := by decide +kernel
theorem dX6_comes_149 : decode cX6_comes 149 = .ok (.iconst 1, 1) := by decide +kernel
theorem dX6_comes_150 : decode cX6_comes 150 = .ok (.iadd, 1) := by decide +kernel
theorem dX6_comes_151 : decode cX6_comes 151 = .ok (.iaload, 1) := by decide +kernel
theorem dX6_comes_152 : decode cX6_comes 152 = .ok (.if_icmp .ne 5, 3) := by decide +kernel
theorem dX6_comes_155 : decode cX6_comes 155 = .ok (.iconst 0, 1) := by decide +kernel
theorem dX6_comes_156 : decode cX6_comes 156 = .ok (.ireturn, 1) := by decide +kernel
theorem dX6_comes_157 : decode cX6_comes 157 = .ok (.aload_n 0, 1) := by decide +kernel
theorem dX6_comes_158 : decode cX6_comes 158 = .ok (.aload_n 0, 1) := by decide +kernel
theorem dX6_comes_159 : decode cX6_comes 159 = .ok (.getfield 40, 3) := by decide +kernel
theorem dX6_comes_162 : decode cX6_comes 162 = .ok (.iload_n 2, 1) := by decide +kernel
theorem dX6_comes_163 : decode cX6_comes 163 = .ok (.iaload, 1) := by decide +kernel
theorem dX6_comes_164 : decode cX6_comes 164 = .ok (.aload_n 0, 1) := by decide +kernel
theorem dX6_comes_165 : decode cX6_comes 165 = .ok (.getfield 40, 3) := by decide +kernel
theorem dX6_comes_168 : decode cX6_comes 168 = .ok (.iload_n 2, 1) := by decide +kernel
theorem dX6_comes_169 : decode cX6_comes 169 = .ok (.iconst 1, 1) := by decide +kernel
theorem dX6_comes_170 : decode cX6_comes 170 = .ok (.iadd, 1) := by decide +kernel
theorem dX6_comes_171 : decode cX6_comes 171 = .ok (.iaload, 1) := by decide +kernel
theorem dX6_comes_172 : decode cX6_comes 172 = .ok (.invokevirtual 131, 3) := by decide +kernel
theorem dX6_comes_175 : decode cX6_comes 175 = .ok (.iconst 1, 1) := by decide +kernel
theorem dX6_comes_176 : decode cX6_comes 176 = .ok (.ireturn, 1) := by decide +kernel
theorem dX6_comes_177 : decode cX6_comes 177 = .ok (.aload_n 0, 1) := by decide +kernel
theorem dX6_comes_178 : decode cX6_comes 178 = .ok (.aload_n 0, 1) := by decide +kernel
theorem dX6_comes_179 : decode cX6_comes 179 = .ok (.getfield 40, 3) := by decide +kernel
theorem dX6_comes_182 : decode cX6_comes 182 = .ok (.iload_n 2, 1) := by decide +kernel
theorem dX6_comes_183 : decode cX6_comes 183 = .ok (.iaload, 1) := by decide +kernel
theorem dX6_comes_184 : decode cX6_comes 184 = .ok (.invokevirtual 135, 3) := by decide +kernel
theorem dX6_comes_187 : decode cX6_comes 187 = .ok (.ireturn, 1) := by decide +kernel
def rmX6_comes : Room := { frames := 7, cells := 0, slots := 0, locals := 154 }
abbrev wsX6_comes : List Cond := .code yX6_comes cX6_comes 3 (some .boolean) :: gw_tbl
def kX6_comes_177 : pProg := (177, 1, a_aload 0) :: (178, 1, a_aload 0) :: (179, 3, a_getf 0 4 12) :: (182, 1, a_iload 2) :: (183, 1, a_iald 11) :: (184, 3, a_callv 2 4 [0, 1, 2, 3, 4, 5, 6, 7, 8, 9, 10, 11, 12, 13, 14, 15, 16] tX6_comesMinutes) :: (187, 1, a_zret) :: []
def kX6_comes_157 : pProg := (157, 1, a_aload 0) :: (158, 1, a_aload 0) :: (159, 3, a_getf 0 4 12) :: (162, 1, a_iload 2) :: (163, 1, a_iald 11) :: (164, 1, a_aload 0) :: (165, 3, a_getf 0 4 12) :: (168, 1, a_iload 2) :: (169, 1, a_iconst 1) :: (170, 1, a_iadd) :: (171, 1, a_iald 11) :: (172, 3, a_callv 3 4 [0, 1, 2, 3, 4, 5, 6, 7, 8, 9, 10, 11, 12, 13, 14, 15, 16] tX6_changesTwo) :: (175, 1, a_iconst 1) :: (176, 1, a_zret) :: []
def kX6_comes_155 : pProg := (155, 1, a_iconst 0) :: (156, 1, a_zret) :: []
def kX6_comes_110 : pProg := (110, 1, a_aload 0) :: (111, 1, a_aload 0) :: (112, 3, a_getf 0 4 12) :: (115, 1, a_iload 2) :: (116, 1, a_iald 11) :: (117, 3, a_callv 2 4 [0, 1, 2, 3, 4, 5, 6, 7, 8, 9, 10, 11, 12, 13, 14, 15, 16] tX6_isMiner) :: (120, 3, a_if_eq 155) :: (123, 1, a_aload 0) :: (124, 1, a_aload 0) :: (125, 3, a_getf 0 4 12) :: (128, 1, a_iload 2) :: (129, 1, a_iconst 1) :: (130, 1, a_iadd) :: (131, 1, a_iald 11) :: (132, 3, a_callv 2 4 [0, 1, 2, 3, 4, 5, 6, 7, 8, 9, 10, 11, 12, 13, 14, 15, 16] tX6_isMiner) :: (135, 3, a_if_eq 155) :: (138, 1, a_aload 0) :: (139, 3, a_getf 0 4 12) :: (142, 1, a_iload 2) :: (143, 1, a_iald 11) :: (144, 1, a_aload 0) :: (145, 3, a_getf 0 4 12) :: (148, 1, a_iload 2) :: (149, 1, a_iconst 1) :: (150, 1, a_iadd) :: (151, 1, a_iald 11) :: (152, 3, a_icmp_ne 157) :: (155, 0, a_fall 155) :: []
def kX6_comes_85 : pProg := (85, 1, a_aload 0) :: (86, 1, a_aload 0) :: (87, 3, a_getf 0 4 10) :: (90, 1, a_iload 1) :: (91, 1, a_iald 9) :: (92, 1, a_aload 0) :: (93, 3, a_getf 0 4 12) :: (96, 1, a_iload 2) :: (97, 1, a_iald 11) :: (98, 1, a_aload 0) :: (99, 3, a_getf 0 4 12) :: (102, 1, a_iload 2) :: (103, 1, a_iconst 1) :: (104, 1, a_iadd) :: (105, 1, a_iald 11) :: (106, 3, a_callv 4 4 [0, 1, 2, 3, 4, 5, 6, 7, 8, 9, 10, 11, 12, 13, 14, 15, 16] tX6_comesOf) :: (109, 1, a_zret) :: []
def kX6_comes_79 : pProg := (79, 1, a_aload 0) :: (80, 1, a_iload 2) :: (81, 3, a_callv 2 4 [0, 1, 2, 3, 4, 5, 6, 7, 8, 9, 10, 11, 12, 13, 14, 15, 16] tX6_comesPair) :: (84, 1, a_zret) :: []
def kX6_comes_60 : pProg := (60, 1, a_aload 0) :: (61, 1, a_aload 0) :: (62, 3, a_getf 0 4 12) :: (65, 1, a_iload 2) :: (66, 1, a_iald 11) :: (67, 1, a_aload 0) :: (68, 3, a_getf 0 4 12) :: (71, 1, a_iload 2) :: (72, 1, a_iconst 1) :: (73, 1, a_iadd) :: (74, 1, a_iald 11) :: (75, 3, a_callv 3 4 [0, 1, 2, 3, 4, 5, 6, 7, 8, 9, 10, 11, 12, 13, 14, 15, 16] tX6_comesBeams) :: (78, 1, a_zret) :: []
def kX6_comes_0 : pProg := (0, 1, a_iconst 4) :: (1, 1, a_iload 1) :: (2, 1, a_imul) :: (3, 1, a_istore 2) :: (4, 1, a_aload 0) :: (5, 3, a_getf 0 4 10) :: (8, 1, a_iload 1) :: (9, 1, a_iald 9) :: (10, 50, a_lsw [(97, 85), (98, 60), (112, 79), (116, 85), (120, 110)] 177) :: []
set_option maxRecDepth 100000 in
theorem sX6_comes_177 (l : Launch) : AllS (pSnd l rmX6_comes yX6_comes.cls cX6_comes wsX6_comes 3 (some .boolean)) 177 kX6_comes_177 :=
  alls _ (s_aload_n rfl dX6_comes_177) <|
  alls _ (s_aload_n rfl dX6_comes_178) <|
  alls _ (s_getf (C := RX6) (T := TX6) (N := 29) rfl (in_c inX6) (by decide) (List.mem_cons_of_mem _ wd_759) rfl dX6_comes_179) <|
  alls _ (s_iload_n rfl dX6_comes_182) <|
  alls _ (s_iald dX6_comes_183) <|
  alls _ (s_callv (ct_X6_comesMinutes l) rfl rfl rfl (gdV wd_926 wd_928 wd_28 wd_65 wd_929) rfl rfl (by decide +kernel) ⟨Nat.le_of_ble_eq_true rfl, Nat.le_of_ble_eq_true rfl⟩ dX6_comes_184) <|
  alls _ (s_zret dX6_comes_187) <|
  alls_nil _
set_option maxRecDepth 100000 in
theorem sX6_comes_157 (l : Launch) : AllS (pSnd l rmX6_comes yX6_comes.cls cX6_comes wsX6_comes 3 (some .boolean)) 157 kX6_comes_157 :=
  alls _ (s_aload_n rfl dX6_comes_157) <|
  alls _ (s_aload_n rfl dX6_comes_158) <|
  alls _ (s_getf (C := RX6) (T := TX6) (N := 29) rfl (in_c inX6) (by decide) (List.mem_cons_of_mem _ wd_759) rfl dX6_comes_159) <|
  alls _ (s_iload_n rfl dX6_comes_162) <|
  alls _ (s_iald dX6_comes_163) <|
  alls _ (s_aload_n rfl dX6_comes_164) <|
  alls _ (s_getf (C := RX6) (T := TX6) (N := 29) rfl (in_c inX6) (by decide) (List.mem_cons_of_mem _ wd_759) rfl dX6_comes_165) <|
  alls _ (s_iload_n rfl dX6_comes_168) <|
  alls _ (s_iconst dX6_comes_169) <|
  alls _ (s_iadd dX6_comes_170) <|
  alls _ (s_iald dX6_comes_171) <|
  alls _ (s_callv (ct_X6_changesTwo l) rfl rfl rfl (gdV wd_918 wd_920 wd_26 wd_65 wd_921) rfl rfl (by decide +kernel) ⟨Nat.le_of_ble_eq_true rfl, Nat.le_of_ble_eq_true rfl⟩ dX6_comes_172) <|
  alls _ (s_iconst dX6_comes_175) <|
  alls _ (s_zret dX6_comes_176) <|
  alls_nil _
set_option maxRecDepth 100000 in
theorem sX6_comes_155 (l : Launch) : AllS (pSnd l rmX6_comes yX6_comes.cls cX6_comes wsX6_comes 3 (some .boolean)) 155 kX6_comes_155 :=
  alls _ (s_iconst dX6_comes_155) <|
  alls _ (s_zret dX6_comes_156) <|
  alls_nil _
set_option maxRecDepth 100000 in
theorem sX6_comes_110 (l : Launch) : AllS (pSnd l rmX6_comes yX6_comes.cls cX6_comes wsX6_comes 3 (some .boolean)) 110 kX6_comes_110 :=
  alls _ (s_aload_n rfl dX6_comes_110) <|
  alls _ (s_aload_n rfl dX6_comes_111) <|
  alls _ (s_getf (C := RX6) (T := TX6) (N := 29) rfl (in_c inX6) (by decide) (List.mem_cons_of_mem _ wd_759) rfl dX6_comes_112) <|
  alls _ (s_iload_n rfl dX6_comes_115) <|
  alls _ (s_iald dX6_comes_116) <|
  alls _ (s_callv (ct_X6_isMiner l) rfl rfl rfl (gdV wd_914 wd_916 wd_25 wd_65 wd_917) rfl rfl (by decide +kernel) ⟨Nat.le_of_ble_eq_true rfl, Nat.le_of_ble_eq_true rfl⟩ dX6_comes_117) <|
  alls _ (s_if_eq (by decide) dX6_comes_120) <|
  alls _ (s_aload_n rfl dX6_comes_123) <|
  alls _ (s_aload_n rfl dX6_comes_124) <|
  alls _ (s_getf (C := RX6) (T := TX6) (N := 29) rfl (in_c inX6) (by decide) (List.mem_cons_of_mem _ wd_759) rfl dX6_comes_125) <|
  alls _ (s_iload_n rfl dX6_comes_128) <|
  alls _ (s_iconst dX6_comes_129) <|
  alls _ (s_iadd dX6_comes_130) <|
  alls _ (s_iald dX6_comes_131) <|
  alls _ (s_callv (ct_X6_isMiner l) rfl rfl rfl (gdV wd_914 wd_916 wd_25 wd_65 wd_917) rfl rfl (by decide +kernel) ⟨Nat.le_of_ble_eq_true rfl, Nat.le_of_ble_eq_true rfl⟩ dX6_comes_132) <|
  alls _ (s_if_eq (by decide) dX6_comes_135) <|
  alls _ (s_aload_n rfl dX6_comes_138) <|
  alls _ (s_getf (C := RX6) (T := TX6) (N := 29) rfl (in_c inX6) (by decide) (List.mem_cons_of_mem _ wd_759) rfl dX6_comes_139) <|
  alls _ (s_iload_n rfl dX6_comes_142) <|
  alls _ (s_iald dX6_comes_143) <|
  alls _ (s_aload_n rfl dX6_comes_144) <|
  alls _ (s_getf (C := RX6) (T := TX6) (N := 29) rfl (in_c inX6) (by decide) (List.mem_cons_of_mem _ wd_759) rfl dX6_comes_145) <|
  alls _ (s_iload_n rfl dX6_comes_148) <|
  alls _ (s_iconst dX6_comes_149) <|
  alls _ (s_iadd dX6_comes_150) <|
  alls _ (s_iald dX6_comes_151) <|
  alls _ (s_icmp_ne (by decide) dX6_comes_152) <|
  alls _ s_fall (alls_nil _)
set_option maxRecDepth 100000 in
theorem sX6_comes_85 (l : Launch) : AllS (pSnd l rmX6_comes yX6_comes.cls cX6_comes wsX6_comes 3 (some .boolean)) 85 kX6_comes_85 :=
  alls _ (s_aload_n rfl dX6_comes_85) <|
  alls _ (s_aload_n rfl dX6_comes_86) <|
  alls _ (s_getf (C := RX6) (T := TX6) (N := 29) rfl (in_c inX6) (by decide) (List.mem_cons_of_mem _ wd_757) rfl dX6_comes_87) <|
  alls _ (s_iload_n rfl dX6_comes_90) <|
  alls _ (s_iald dX6_comes_91) <|
  alls _ (s_aload_n rfl dX6_comes_92) <|
  alls _ (s_getf (C := RX6) (T := TX6) (N := 29) rfl (in_c inX6) (by decide) (List.mem_cons_of_mem _ wd_759) rfl dX6_comes_93) <|
  alls _ (s_iload_n rfl dX6_comes_96) <|
  alls _ (s_iald dX6_comes_97) <|
  alls _ (s_aload_n rfl dX6_comes_98) <|
  alls _ (s_getf (C := RX6) (T := TX6) (N := 29) rfl (in_c inX6) (by decide) (List.mem_cons_of_mem _ wd_759) rfl dX6_comes_99) <|
  alls _ (s_iload_n rfl dX6_comes_102) <|
  alls _ (s_iconst dX6_comes_103) <|
  alls _ (s_iadd dX6_comes_104) <|
  alls _ (s_iald dX6_comes_105) <|
  alls _ (s_callv (ct_X6_comesOf l) rfl rfl rfl (gdV wd_903 wd_905 wd_23 wd_65 wd_906) rfl rfl (by decide +kernel) ⟨Nat.le_of_ble_eq_true rfl, Nat.le_of_ble_eq_true rfl⟩ dX6_comes_106) <|
  alls _ (s_zret dX6_comes_109) <|
  alls_nil _
set_option maxRecDepth 100000 in
theorem sX6_comes_79 (l : Launch) : AllS (pSnd l rmX6_comes yX6_comes.cls cX6_comes wsX6_comes 3 (some .boolean)) 79 kX6_comes_79 :=
  alls _ (s_aload_n rfl dX6_comes_79) <|
  alls _ (s_iload_n rfl dX6_comes_80) <|
  alls _ (s_callv (ct_X6_comesPair l) rfl rfl rfl (gdV wd_899 wd_901 wd_22 wd_65 wd_902) rfl rfl (by decide +kernel) ⟨Nat.le_of_ble_eq_true rfl, Nat.le_of_ble_eq_true rfl⟩ dX6_comes_81) <|
  alls _ (s_zret dX6_comes_84) <|
  alls_nil _
set_option maxRecDepth 100000 in
theorem sX6_comes_60 (l : Launch) : AllS (pSnd l rmX6_comes yX6_comes.cls cX6_comes wsX6_comes 3 (some .boolean)) 60 kX6_comes_60 :=
  alls _ (s_aload_n rfl dX6_comes_60) <|
  alls _ (s_aload_n rfl dX6_comes_61) <|
  alls _ (s_getf (C := RX6) (T := TX6) (N := 29) rfl (in_c inX6) (by decide) (List.mem_cons_of_mem _ wd_759) rfl dX6_comes_62) <|
  alls _ (s_iload_n rfl dX6_comes_65) <|
  alls _ (s_iald dX6_comes_66) <|
  alls _ (s_aload_n rfl dX6_comes_67) <|
  alls _ (s_getf (C := RX6) (T := TX6) (N := 29) rfl (in_c inX6) (by decide) (List.mem_cons_of_mem _ wd_759) rfl dX6_comes_68) <|
  alls _ (s_iload_n rfl dX6_comes_71) <|
  alls _ (s_iconst dX6_comes_72) <|
  alls _ (s_iadd dX6_comes_73) <|
  alls _ (s_iald dX6_comes_74) <|
  alls _ (s_callv (ct_X6_comesBeams l) rfl rfl rfl (gdV wd_892 wd_894 wd_21 wd_65 wd_895) rfl rfl (by decide +kernel) ⟨Nat.le_of_ble_eq_true rfl, Nat.le_of_ble_eq_true rfl⟩ dX6_comes_75) <|
  alls _ (s_zret dX6_comes_78) <|
  alls_nil _
set_option maxRecDepth 100000 in
theorem sX6_comes_0 (l : Launch) : AllS (pSnd l rmX6_comes yX6_comes.cls cX6_comes wsX6_comes 3 (some .boolean)) 0 kX6_comes_0 :=
  alls _ (s_iconst dX6_comes_0) <|
  alls _ (s_iload_n rfl dX6_comes_1) <|
  alls _ (s_imul dX6_comes_2) <|
  alls _ (s_istore_n rfl dX6_comes_3) <|
  alls _ (s_aload_n rfl dX6_comes_4) <|
  alls _ (s_getf (C := RX6) (T := TX6) (N := 29) rfl (in_c inX6) (by decide) (List.mem_cons_of_mem _ wd_757) rfl dX6_comes_5) <|
  alls _ (s_iload_n rfl dX6_comes_8) <|
  alls _ (s_iald dX6_comes_9) <|
  alls _ (s_lsw (by decide) (by decide) (by decide) dX6_comes_10) <|
  alls_nil _
def KX6_comes : List (Nat × pProg) := [(0, kX6_comes_0), (60, kX6_comes_60), (79, kX6_comes_79), (85, kX6_comes_85), (110, kX6_comes_110), (155, kX6_comes_155), (157, kX6_comes_157), (177, kX6_comes_177)]
theorem bX6_comes_0 : blkOf KX6_comes 0 = some kX6_comes_0 := rfl
theorem bX6_comes_60 : blkOf KX6_comes 60 = some kX6_comes_60 := rfl
theorem bX6_comes_79 : blkOf KX6_comes 79 = some kX6_comes_79 := rfl
theorem bX6_comes_85 : blkOf KX6_comes 85 = some kX6_comes_85 := rfl
theorem bX6_comes_110 : blkOf KX6_comes 110 = some kX6_comes_110 := rfl
theorem bX6_comes_155 : blkOf KX6_comes 155 = some kX6_comes_155 := rfl
theorem bX6_comes_157 : blkOf KX6_comes 157 = some kX6_comes_157 := rfl
theorem bX6_comes_177 : blkOf KX6_comes 177 = some kX6_comes_177 := rfl
def tX6_comes : pT := pM KX6_comes 3
theorem ct_X6_comes (l : Launch) : pCtr l yX6_comes wsX6_comes rmX6_comes 2 tX6_comes := ctr_of (by decide +kernel) rfl (List.forall_mem_cons.mpr ⟨sX6_comes_0 l, List.forall_mem_cons.mpr ⟨sX6_comes_60 l, List.forall_mem_cons.mpr ⟨sX6_comes_79 l, List.forall_mem_cons.mpr ⟨sX6_comes_85 l, List.forall_mem_cons.mpr ⟨sX6_comes_110 l, List.forall_mem_cons.mpr ⟨sX6_comes_155 l, List.forall_mem_cons.mpr ⟨sX6_comes_157 l, List.forall_mem_cons.mpr ⟨sX6_comes_177 l, fun _ h => absurd h List.not_mem_nil⟩⟩⟩⟩⟩⟩⟩⟩)
