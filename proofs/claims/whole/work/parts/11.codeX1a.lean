theorem dX2_isFull_0 : decode cX2_isFull 0 = .ok (.aload_n 0, 1) := by decide +kernel
theorem dX2_isFull_1 : decode cX2_isFull 1 = .ok (.getfield 19, 3) := by decide +kernel
theorem dX2_isFull_4 : decode cX2_isFull 4 = .ok (.aload_n 0, 1) := by decide +kernel
theorem dX2_isFull_5 : decode cX2_isFull 5 = .ok (.getfield 13, 3) := by decide +kernel
theorem dX2_isFull_8 : decode cX2_isFull 8 = .ok (.arraylength, 1) := by decide +kernel
theorem dX2_isFull_9 : decode cX2_isFull 9 = .ok (.if_icmp .lt 7, 3) := by decide +kernel
theorem dX2_isFull_12 : decode cX2_isFull 12 = .ok (.iconst 1, 1) := by decide +kernel
theorem dX2_isFull_13 : decode cX2_isFull 13 = .ok (.goto 4, 3) := by decide +kernel
theorem dX2_isFull_16 : decode cX2_isFull 16 = .ok (.iconst 0, 1) := by decide +kernel
theorem dX2_isFull_17 : decode cX2_isFull 17 = .ok (.ireturn, 1) := by decide +kernel
def rmX2_isFull : Room := { frames := 0, cells := 0, slots := 0, locals := 0 }
abbrev wsX2_isFull : List Cond := .code yX2_isFull cX2_isFull 1 (some .boolean) :: gw_tbl
def kX2_isFull_17 : pProg := (17, 1, a_zret) :: []
def kX2_isFull_16 : pProg := (16, 1, a_iconst 0) :: (17, 0, a_fall 17) :: []
def kX2_isFull_0 : pProg := (0, 1, a_aload 0) :: (1, 3, a_getf 0 1 1) :: (4, 1, a_aload 0) :: (5, 3, a_getf 0 1 0) :: (8, 1, a_alen 1) :: (9, 3, a_icmp_lt 16) :: (12, 1, a_iconst 1) :: (13, 3, a_goto 17) :: []
set_option maxRecDepth 100000 in
theorem sX2_isFull_17 (l : Launch) : AllS (pSnd l rmX2_isFull yX2_isFull.cls cX2_isFull wsX2_isFull 1 (some .boolean)) 17 kX2_isFull_17 :=
  alls _ (s_zret dX2_isFull_17) <|
  alls_nil _
set_option maxRecDepth 100000 in
theorem sX2_isFull_16 (l : Launch) : AllS (pSnd l rmX2_isFull yX2_isFull.cls cX2_isFull wsX2_isFull 1 (some .boolean)) 16 kX2_isFull_16 :=
  alls _ (s_iconst dX2_isFull_16) <|
  alls _ s_fall (alls_nil _)
set_option maxRecDepth 100000 in
theorem sX2_isFull_0 (l : Launch) : AllS (pSnd l rmX2_isFull yX2_isFull.cls cX2_isFull wsX2_isFull 1 (some .boolean)) 0 kX2_isFull_0 :=
  alls _ (s_aload_n rfl dX2_isFull_0) <|
  alls _ (s_getf (C := RX2) (T := TX2) (N := 2) rfl (in_c inX2) (by decide) (List.mem_cons_of_mem _ wd_137) rfl dX2_isFull_1) <|
  alls _ (s_aload_n rfl dX2_isFull_4) <|
  alls _ (s_getf (C := RX2) (T := TX2) (N := 2) rfl (in_c inX2) (by decide) (List.mem_cons_of_mem _ wd_136) rfl dX2_isFull_5) <|
  alls _ (s_alen dX2_isFull_8) <|
  alls _ (s_icmp_lt (by decide) dX2_isFull_9) <|
  alls _ (s_iconst dX2_isFull_12) <|
  alls _ (s_goto (by decide) dX2_isFull_13) <|
  alls_nil _
def KX2_isFull : List (Nat × pProg) := [(0, kX2_isFull_0), (16, kX2_isFull_16), (17, kX2_isFull_17)]
theorem bX2_isFull_0 : blkOf KX2_isFull 0 = some kX2_isFull_0 := rfl
theorem bX2_isFull_16 : blkOf KX2_isFull 16 = some kX2_isFull_16 := rfl
theorem bX2_isFull_17 : blkOf KX2_isFull 17 = some kX2_isFull_17 := rfl
def tX2_isFull : pT := pM KX2_isFull 1
theorem ct_X2_isFull (l : Launch) : pCtr l yX2_isFull wsX2_isFull rmX2_isFull 1 tX2_isFull := ctr_of (by decide +kernel) rfl (List.forall_mem_cons.mpr ⟨sX2_isFull_0 l, List.forall_mem_cons.mpr ⟨sX2_isFull_16 l, List.forall_mem_cons.mpr ⟨sX2_isFull_17 l, fun _ h => absurd h List.not_mem_nil⟩⟩⟩)
theorem dX2_add_0 : decode cX2_add 0 = .ok (.aload_n 0, 1) := by decide +kernel
theorem dX2_add_1 : decode cX2_add 1 = .ok (.getfield 19, 3) := by decide +kernel
theorem dX2_add_4 : decode cX2_add 4 = .ok (.ifCond .lt 35, 3) := by decide +kernel
theorem dX2_add_7 : decode cX2_add 7 = .ok (.aload_n 0, 1) := by decide +kernel
theorem dX2_add_8 : decode cX2_add 8 = .ok (.getfield 19, 3) := by decide +kernel
theorem dX2_add_11 : decode cX2_add 11 = .ok (.aload_n 0, 1) := by decide +kernel
theorem dX2_add_12 : decode cX2_add 12 = .ok (.getfield 13, 3) := by decide +kernel
theorem dX2_add_15 : decode cX2_add 15 = .ok (.arraylength, 1) := by decide +kernel
theorem dX2_add_16 : decode cX2_add 16 = .ok (.if_icmp .ge 23, 3) := by decide +kernel
theorem dX2_add_19 : decode cX2_add 19 = .ok (.aload_n 0, 1) := by decide +kernel
theorem dX2_add_20 : decode cX2_add 20 = .ok (.getfield 13, 3) := by decide +kernel
theorem dX2_add_23 : decode cX2_add 23 = .ok (.aload_n 0, 1) := by decide +kernel
theorem dX2_add_24 : decode cX2_add 24 = .ok (.getfield 19, 3) := by decide +kernel
theorem dX2_add_27 : decode cX2_add 27 = .ok (.iload_n 1, 1) := by decide +kernel
theorem dX2_add_28 : decode cX2_add 28 = .ok (.iastore, 1) := by decide +kernel
theorem dX2_add_29 : decode cX2_add 29 = .ok (.aload_n 0, 1) := by decide +kernel
theorem dX2_add_30 : decode cX2_add 30 = .ok (.dup, 1) := by decide +kernel
theorem dX2_add_31 : decode cX2_add 31 = .ok (.getfield 19, 3) := by decide +kernel
theorem dX2_add_34 : decode cX2_add 34 = .ok (.iconst 1, 1) := by decide +kernel
theorem dX2_add_35 : decode cX2_add 35 = .ok (.iadd, 1) := by decide +kernel
theorem dX2_add_36 : decode cX2_add 36 = .ok (.putfield 19, 3) := by decide +kernel
theorem dX2_add_39 : decode cX2_add 39 = .ok (.aload_n 0, 1) := by decide +kernel
theorem dX2_add_40 : decode cX2_add 40 = .ok (.getfield 19, 3) := by decide +kernel
theorem dX2_add_43 : decode cX2_add 43 = .ok (.ireturn, 1) := by decide +kernel
def rmX2_add : Room := { frames := 0, cells := 0, slots := 0, locals := 0 }
abbrev wsX2_add : List Cond := .code yX2_add cX2_add 2 (some .int) :: gw_tbl
def kX2_add_39 : pProg := (39, 1, a_aload 0) :: (40, 3, a_getf 0 1 1) :: (43, 1, a_iret) :: []
def kX2_add_0 : pProg := (0, 1, a_aload 0) :: (1, 3, a_getf 0 1 1) :: (4, 3, a_if_lt 39) :: (7, 1, a_aload 0) :: (8, 3, a_getf 0 1 1) :: (11, 1, a_aload 0) :: (12, 3, a_getf 0 1 0) :: (15, 1, a_alen 1) :: (16, 3, a_icmp_ge 39) :: (19, 1, a_aload 0) :: (20, 3, a_getf 0 1 0) :: (23, 1, a_aload 0) :: (24, 3, a_getf 0 1 1) :: (27, 1, a_iload 1) :: (28, 1, a_iast 1) :: (29, 1, a_aload 0) :: (30, 1, a_dup) :: (31, 3, a_getf 0 1 1) :: (34, 1, a_iconst 1) :: (35, 1, a_iadd) :: (36, 3, a_putf 0 1 1 .int) :: (39, 0, a_fall 39) :: []
set_option maxRecDepth 100000 in
theorem sX2_add_39 (l : Launch) : AllS (pSnd l rmX2_add yX2_add.cls cX2_add wsX2_add 2 (some .int)) 39 kX2_add_39 :=
  alls _ (s_aload_n rfl dX2_add_39) <|
  alls _ (s_getf (C := RX2) (T := TX2) (N := 2) rfl (in_c inX2) (by decide) (List.mem_cons_of_mem _ wd_137) rfl dX2_add_40) <|
  alls _ (s_iret dX2_add_43) <|
  alls_nil _
set_option maxRecDepth 100000 in
theorem sX2_add_0 (l : Launch) : AllS (pSnd l rmX2_add yX2_add.cls cX2_add wsX2_add 2 (some .int)) 0 kX2_add_0 :=
  alls _ (s_aload_n rfl dX2_add_0) <|
  alls _ (s_getf (C := RX2) (T := TX2) (N := 2) rfl (in_c inX2) (by decide) (List.mem_cons_of_mem _ wd_137) rfl dX2_add_1) <|
  alls _ (s_if_lt (by decide) dX2_add_4) <|
  alls _ (s_aload_n rfl dX2_add_7) <|
  alls _ (s_getf (C := RX2) (T := TX2) (N := 2) rfl (in_c inX2) (by decide) (List.mem_cons_of_mem _ wd_137) rfl dX2_add_8) <|
  alls _ (s_aload_n rfl dX2_add_11) <|
  alls _ (s_getf (C := RX2) (T := TX2) (N := 2) rfl (in_c inX2) (by decide) (List.mem_cons_of_mem _ wd_136) rfl dX2_add_12) <|
  alls _ (s_alen dX2_add_15) <|
  alls _ (s_icmp_ge (by decide) dX2_add_16) <|
  alls _ (s_aload_n rfl dX2_add_19) <|
  alls _ (s_getf (C := RX2) (T := TX2) (N := 2) rfl (in_c inX2) (by decide) (List.mem_cons_of_mem _ wd_136) rfl dX2_add_20) <|
  alls _ (s_aload_n rfl dX2_add_23) <|
  alls _ (s_getf (C := RX2) (T := TX2) (N := 2) rfl (in_c inX2) (by decide) (List.mem_cons_of_mem _ wd_137) rfl dX2_add_24) <|
  alls _ (s_iload_n rfl dX2_add_27) <|
  alls _ (s_iast dX2_add_28) <|
  alls _ (s_aload_n rfl dX2_add_29) <|
  alls _ (s_dup dX2_add_30) <|
  alls _ (s_getf (C := RX2) (T := TX2) (N := 2) rfl (in_c inX2) (by decide) (List.mem_cons_of_mem _ wd_137) rfl dX2_add_31) <|
  alls _ (s_iconst dX2_add_34) <|
  alls _ (s_iadd dX2_add_35) <|
  alls _ (s_putf (C := RX2) (T := TX2) (N := 2) tyX2 rfl (in_c inX2) tyX2_ok nmX2 (by decide) (List.mem_cons_of_mem _ wd_137) rfl rfl (tyX2_ok 1 (by decide)) dX2_add_36) <|
  alls _ s_fall (alls_nil _)
def KX2_add : List (Nat × pProg) := [(0, kX2_add_0), (39, kX2_add_39)]
theorem bX2_add_0 : blkOf KX2_add 0 = some kX2_add_0 := rfl
theorem bX2_add_39 : blkOf KX2_add 39 = some kX2_add_39 := rfl
def tX2_add : pT := pM KX2_add 2
theorem ct_X2_add (l : Launch) : pCtr l yX2_add wsX2_add rmX2_add 2 tX2_add := ctr_of (by decide +kernel) rfl (List.forall_mem_cons.mpr ⟨sX2_add_0 l, List.forall_mem_cons.mpr ⟨sX2_add_39 l, fun _ h => absurd h List.not_mem_nil⟩⟩)
theorem dX2_size_0 : decode cX2_size 0 = .ok (.aload_n 0, 1) := by decide +kernel
theorem dX2_size_1 : decode cX2_size 1 = .ok (.getfield 19, 3) := by decide +kernel
theorem dX2_size_4 : decode cX2_size 4 = .ok (.ireturn, 1) := by decide +kernel
def rmX2_size : Room := { frames := 0, cells := 0, slots := 0, locals := 0 }
abbrev wsX2_size : List Cond := .code yX2_size cX2_size 1 (some .int) :: gw_tbl
def kX2_size_0 : pProg := (0, 1, a_aload 0) :: (1, 3, a_getf 0 1 1) :: (4, 1, a_iret) :: []
set_option maxRecDepth 100000 in
theorem sX2_size_0 (l : Launch) : AllS (pSnd l rmX2_size yX2_size.cls cX2_size wsX2_size 1 (some .int)) 0 kX2_size_0 :=
  alls _ (s_aload_n rfl dX2_size_0) <|
  alls _ (s_getf (C := RX2) (T := TX2) (N := 2) rfl (in_c inX2) (by decide) (List.mem_cons_of_mem _ wd_137) rfl dX2_size_1) <|
  alls _ (s_iret dX2_size_4) <|
  alls_nil _
def KX2_size : List (Nat × pProg) := [(0, kX2_size_0)]
theorem bX2_size_0 : blkOf KX2_size 0 = some kX2_size_0 := rfl
def tX2_size : pT := pM KX2_size 1
theorem ct_X2_size (l : Launch) : pCtr l yX2_size wsX2_size rmX2_size 1 tX2_size := ctr_of (by decide +kernel) rfl (List.forall_mem_cons.mpr ⟨sX2_size_0 l, fun _ h => absurd h List.not_mem_nil⟩)
theorem dX2_at_0 : decode cX2_at 0 = .ok (.iload_n 1, 1) := by decide +kernel
theorem dX2_at_1 : decode cX2_at 1 = .ok (.ifCond .lt 29, 3) := by decide +kernel
theorem dX2_at_4 : decode cX2_at 4 = .ok (.iload_n 1, 1) := by decide +kernel
theorem dX2_at_5 : decode cX2_at 5 = .ok (.aload_n 0, 1) := by decide +kernel
theorem dX2_at_6 : decode cX2_at 6 = .ok (.getfield 19, 3) := by decide +kernel
theorem dX2_at_9 : decode cX2_at 9 = .ok (.if_icmp .ge 21, 3) := by decide +kernel
theorem dX2_at_12 : decode cX2_at 12 = .ok (.iload_n 1, 1) := by decide +kernel
theorem dX2_at_13 : decode cX2_at 13 = .ok (.aload_n 0, 1) := by decide +kernel
theorem dX2_at_14 : decode cX2_at 14 = .ok (.getfield 13, 3) := by decide +kernel
theorem dX2_at_17 : decode cX2_at 17 = .ok (.arraylength, 1) := by decide +kernel
theorem dX2_at_18 : decode cX2_at 18 = .ok (.if_icmp .ge 12, 3) := by decide +kernel
theorem dX2_at_21 : decode cX2_at 21 = .ok (.aload_n 0, 1) := by decide +kernel
theorem dX2_at_22 : decode cX2_at 22 = .ok (.getfield 13, 3) := by decide +kernel
theorem dX2_at_25 : decode cX2_at 25 = .ok (.iload_n 1, 1) := by decide +kernel
theorem dX2_at_26 : decode cX2_at 26 = .ok (.iaload, 1) := by decide +kernel
theorem dX2_at_27 : decode cX2_at 27 = .ok (.goto 4, 3) := by decide +kernel
theorem dX2_at_30 : decode cX2_at 30 = .ok (.iconst (-1), 1) := by decide +kernel
theorem dX2_at_31 : decode cX2_at 31 = .ok (.ireturn, 1) := by decide +kernel
def rmX2_at : Room := { frames := 0, cells := 0, slots := 0, locals := 0 }
abbrev wsX2_at : List Cond := .code yX2_at cX2_at 2 (some .int) :: gw_tbl
def kX2_at_31 : pProg := (31, 1, a_iret) :: []
def kX2_at_30 : pProg := (30, 1, a_iconst (-1)) :: (31, 0, a_fall 31) :: []
def kX2_at_0 : pProg := (0, 1, a_iload 1) :: (1, 3, a_if_lt 30) :: (4, 1, a_iload 1) :: (5, 1, a_aload 0) :: (6, 3, a_getf 0 1 1) :: (9, 3, a_icmp_ge 30) :: (12, 1, a_iload 1) :: (13, 1, a_aload 0) :: (14, 3, a_getf 0 1 0) :: (17, 1, a_alen 1) :: (18, 3, a_icmp_ge 30) :: (21, 1, a_aload 0) :: (22, 3, a_getf 0 1 0) :: (25, 1, a_iload 1) :: (26, 1, a_iald 1) :: (27, 3, a_goto 31) :: []
set_option maxRecDepth 100000 in
theorem sX2_at_31 (l : Launch) : AllS (pSnd l rmX2_at yX2_at.cls cX2_at wsX2_at 2 (some .int)) 31 kX2_at_31 :=
  alls _ (s_iret dX2_at_31) <|
  alls_nil _
set_option maxRecDepth 100000 in
theorem sX2_at_30 (l : Launch) : AllS (pSnd l rmX2_at yX2_at.cls cX2_at wsX2_at 2 (some .int)) 30 kX2_at_30 :=
  alls _ (s_iconst dX2_at_30) <|
  alls _ s_fall (alls_nil _)
set_option maxRecDepth 100000 in
theorem sX2_at_0 (l : Launch) : AllS (pSnd l rmX2_at yX2_at.cls cX2_at wsX2_at 2 (some .int)) 0 kX2_at_0 :=
  alls _ (s_iload_n rfl dX2_at_0) <|
  alls _ (s_if_lt (by decide) dX2_at_1) <|
  alls _ (s_iload_n rfl dX2_at_4) <|
  alls _ (s_aload_n rfl dX2_at_5) <|
  alls _ (s_getf (C := RX2) (T := TX2) (N := 2) rfl (in_c inX2) (by decide) (List.mem_cons_of_mem _ wd_137) rfl dX2_at_6) <|
  alls _ (s_icmp_ge (by decide) dX2_at_9) <|
  alls _ (s_iload_n rfl dX2_at_12) <|
  alls _ (s_aload_n rfl dX2_at_13) <|
  alls _ (s_getf (C := RX2) (T := TX2) (N := 2) rfl (in_c inX2) (by decide) (List.mem_cons_of_mem _ wd_136) rfl dX2_at_14) <|
  alls _ (s_alen dX2_at_17) <|
  alls _ (s_icmp_ge (by decide) dX2_at_18) <|
  alls _ (s_aload_n rfl dX2_at_21) <|
  alls _ (s_getf (C := RX2) (T := TX2) (N := 2) rfl (in_c inX2) (by decide) (List.mem_cons_of_mem _ wd_136) rfl dX2_at_22) <|
  alls _ (s_iload_n rfl dX2_at_25) <|
  alls _ (s_iald dX2_at_26) <|
  alls _ (s_goto (by decide) dX2_at_27) <|
  alls_nil _
def KX2_at : List (Nat × pProg) := [(0, kX2_at_0), (30, kX2_at_30), (31, kX2_at_31)]
theorem bX2_at_0 : blkOf KX2_at 0 = some kX2_at_0 := rfl
theorem bX2_at_30 : blkOf KX2_at 30 = some kX2_at_30 := rfl
theorem bX2_at_31 : blkOf KX2_at 31 = some kX2_at_31 := rfl
def tX2_at : pT := pM KX2_at 2
theorem ct_X2_at (l : Launch) : pCtr l yX2_at wsX2_at rmX2_at 2 tX2_at := ctr_of (by decide +kernel) rfl (List.forall_mem_cons.mpr ⟨sX2_at_0 l, List.forall_mem_cons.mpr ⟨sX2_at_30 l, List.forall_mem_cons.mpr ⟨sX2_at_31 l, fun _ h => absurd h List.not_mem_nil⟩⟩⟩)
theorem dX1_ofLetter_0 : decode cX1_ofLetter 0 = .ok (.iload_n 0, 1) := by decide +kernel
theorem dX1_ofLetter_1 : decode cX1_ofLetter 1 = .ok (.tableswitch 95 100 116 #[89, 95, 91, 95, 95, 95, 95, 95, 95, 83, 95, 93, 95, 95, 95, 85, 87], 83) := by decide +kernel
theorem dX1_ofLetter_84 : decode cX1_ofLetter 84 = .ok (.iconst 0, 1) := by decide +kernel
theorem dX1_ofLetter_85 : decode cX1_ofLetter 85 = .ok (.ireturn, 1) := by decide +kernel
theorem dX1_ofLetter_86 : decode cX1_ofLetter 86 = .ok (.iconst 1, 1) := by decide +kernel
theorem dX1_ofLetter_87 : decode cX1_ofLetter 87 = .ok (.ireturn, 1) := by decide +kernel
theorem dX1_ofLetter_88 : decode cX1_ofLetter 88 = .ok (.iconst 2, 1) := by decide +kernel
theorem dX1_ofLetter_89 : decode cX1_ofLetter 89 = .ok (.ireturn, 1) := by decide +kernel
theorem dX1_ofLetter_90 : decode cX1_ofLetter 90 = .ok (.iconst 3, 1) := by decide +kernel
theorem dX1_ofLetter_91 : decode cX1_ofLetter 91 = .ok (.ireturn, 1) := by decide +kernel
theorem dX1_ofLetter_92 : decode cX1_ofLetter 92 = .ok (.iconst 4, 1) := by decide +kernel
theorem dX1_ofLetter_93 : decode cX1_ofLetter 93 = .ok (.ireturn, 1) := by decide +kernel
theorem dX1_ofLetter_94 : decode cX1_ofLetter 94 = .ok (.iconst 5, 1) := by decide +kernel
theorem dX1_ofLetter_95 : decode cX1_ofLetter 95 = .ok (.ireturn, 1) := by decide +kernel
theorem dX1_ofLetter_96 : decode cX1_ofLetter 96 = .ok (.iconst (-1), 1) := by decide +kernel
theorem dX1_ofLetter_97 : decode cX1_ofLetter 97 = .ok (.ireturn, 1) := by decide +kernel
def rmX1_ofLetter : Room := { frames := 0, cells := 0, slots := 0, locals := 0 }
abbrev wsX1_ofLetter : List Cond := .code yX1_ofLetter cX1_ofLetter 1 (some .int) :: gw_tbl
def kX1_ofLetter_96 : pProg := (96, 1, a_iconst (-1)) :: (97, 1, a_iret) :: []
def kX1_ofLetter_94 : pProg := (94, 1, a_iconst 5) :: (95, 1, a_iret) :: []
def kX1_ofLetter_92 : pProg := (92, 1, a_iconst 4) :: (93, 1, a_iret) :: []
def kX1_ofLetter_90 : pProg := (90, 1, a_iconst 3) :: (91, 1, a_iret) :: []
def kX1_ofLetter_88 : pProg := (88, 1, a_iconst 2) :: (89, 1, a_iret) :: []
def kX1_ofLetter_86 : pProg := (86, 1, a_iconst 1) :: (87, 1, a_iret) :: []
def kX1_ofLetter_84 : pProg := (84, 1, a_iconst 0) :: (85, 1, a_iret) :: []
def kX1_ofLetter_0 : pProg := (0, 1, a_iload 0) :: (1, 83, a_lsw [(100, 90), (101, 96), (102, 92), (103, 96), (104, 96), (105, 96), (106, 96), (107, 96), (108, 96), (109, 84), (110, 96), (111, 94), (112, 96), (113, 96), (114, 96), (115, 86), (116, 88)] 96) :: []
set_option maxRecDepth 100000 in
theorem sX1_ofLetter_96 (l : Launch) : AllS (pSnd l rmX1_ofLetter yX1_ofLetter.cls cX1_ofLetter wsX1_ofLetter 1 (some .int)) 96 kX1_ofLetter_96 :=
  alls _ (s_iconst dX1_ofLetter_96) <|
  alls _ (s_iret dX1_ofLetter_97) <|
  alls_nil _
set_option maxRecDepth 100000 in
theorem sX1_ofLetter_94 (l : Launch) : AllS (pSnd l rmX1_ofLetter yX1_ofLetter.cls cX1_ofLetter wsX1_ofLetter 1 (some .int)) 94 kX1_ofLetter_94 :=
  alls _ (s_iconst dX1_ofLetter_94) <|
  alls _ (s_iret dX1_ofLetter_95) <|
  alls_nil _
set_option maxRecDepth 100000 in
theorem sX1_ofLetter_92 (l : Launch) : AllS (pSnd l rmX1_ofLetter yX1_ofLetter.cls cX1_ofLetter wsX1_ofLetter 1 (some .int)) 92 kX1_ofLetter_92 :=
  alls _ (s_iconst dX1_ofLetter_92) <|
  alls _ (s_iret dX1_ofLetter_93) <|
  alls_nil _
set_option maxRecDepth 100000 in
theorem sX1_ofLetter_90 (l : Launch) : AllS (pSnd l rmX1_ofLetter yX1_ofLetter.cls cX1_ofLetter wsX1_ofLetter 1 (some .int)) 90 kX1_ofLetter_90 :=
  alls _ (s_iconst dX1_ofLetter_90) <|
  alls _ (s_iret dX1_ofLetter_91) <|
  alls_nil _
set_option maxRecDepth 100000 in
theorem sX1_ofLetter_88 (l : Launch) : AllS (pSnd l rmX1_ofLetter yX1_ofLetter.cls cX1_ofLetter wsX1_ofLetter 1 (some .int)) 88 kX1_ofLetter_88 :=
  alls _ (s_iconst dX1_ofLetter_88) <|
  alls _ (s_iret dX1_ofLetter_89) <|
  alls_nil _
set_option maxRecDepth 100000 in
theorem sX1_ofLetter_86 (l : Launch) : AllS (pSnd l rmX1_ofLetter yX1_ofLetter.cls cX1_ofLetter wsX1_ofLetter 1 (some .int)) 86 kX1_ofLetter_86 :=
  alls _ (s_iconst dX1_ofLetter_86) <|
  alls _ (s_iret dX1_ofLetter_87) <|
  alls_nil _
set_option maxRecDepth 100000 in
theorem sX1_ofLetter_84 (l : Launch) : AllS (pSnd l rmX1_ofLetter yX1_ofLetter.cls cX1_ofLetter wsX1_ofLetter 1 (some .int)) 84 kX1_ofLetter_84 :=
  alls _ (s_iconst dX1_ofLetter_84) <|
  alls _ (s_iret dX1_ofLetter_85) <|
  alls_nil _
set_option maxRecDepth 100000 in
theorem sX1_ofLetter_0 (l : Launch) : AllS (pSnd l rmX1_ofLetter yX1_ofLetter.cls cX1_ofLetter wsX1_ofLetter 1 (some .int)) 0 kX1_ofLetter_0 :=
  alls _ (s_iload_n rfl dX1_ofLetter_0) <|
  alls _ (s_tsw (by decide) (by decide) (by decide) (by decide) dX1_ofLetter_1) <|
  alls_nil _
def KX1_ofLetter : List (Nat × pProg) := [(0, kX1_ofLetter_0), (84, kX1_ofLetter_84), (86, kX1_ofLetter_86), (88, kX1_ofLetter_88), (90, kX1_ofLetter_90), (92, kX1_ofLetter_92), (94, kX1_ofLetter_94), (96, kX1_ofLetter_96)]
theorem bX1_ofLetter_0 : blkOf KX1_ofLetter 0 = some kX1_ofLetter_0 := rfl
theorem bX1_ofLetter_84 : blkOf KX1_ofLetter 84 = some kX1_ofLetter_84 := rfl
theorem bX1_ofLetter_86 : blkOf KX1_ofLetter 86 = some kX1_ofLetter_86 := rfl
theorem bX1_ofLetter_88 : blkOf KX1_ofLetter 88 = some kX1_ofLetter_88 := rfl
theorem bX1_ofLetter_90 : blkOf KX1_ofLetter 90 = some kX1_ofLetter_90 := rfl
theorem bX1_ofLetter_92 : blkOf KX1_ofLetter 92 = some kX1_ofLetter_92 := rfl
theorem bX1_ofLetter_94 : blkOf KX1_ofLetter 94 = some kX1_ofLetter_94 := rfl
theorem bX1_ofLetter_96 : blkOf KX1_ofLetter 96 = some kX1_ofLetter_96 := rfl
def tX1_ofLetter : pT := pM KX1_ofLetter 1
theorem ct_X1_ofLetter (l : Launch) : pCtr l yX1_ofLetter wsX1_ofLetter rmX1_ofLetter 1 tX1_ofLetter := ctr_of (by decide +kernel) rfl (List.forall_mem_cons.mpr ⟨sX1_ofLetter_0 l, List.forall_mem_cons.mpr ⟨sX1_ofLetter_84 l, List.forall_mem_cons.mpr ⟨sX1_ofLetter_86 l, List.forall_mem_cons.mpr ⟨sX1_ofLetter_88 l, List.forall_mem_cons.mpr ⟨sX1_ofLetter_90 l, List.forall_mem_cons.mpr ⟨sX1_ofLetter_92 l, List.forall_mem_cons.mpr ⟨sX1_ofLetter_94 l, List.forall_mem_cons.mpr ⟨sX1_ofLetter_96 l, fun _ h => absurd h List.not_mem_nil⟩⟩⟩⟩⟩⟩⟩⟩)
theorem dX1_wants_0 : decode cX1_wants 0 = .ok (.iload_n 0, 1) := by decide +kernel
theorem dX1_wants_1 : decode cX1_wants 1 = .ok (.tableswitch 103 0 5 #[39, 49, 63, 103, 65, 78], 39) := by decide +kernel
theorem dX1_wants_40 : decode cX1_wants 40 = .ok (.iload_n 2, 1) := by decide +kernel
theorem dX1_wants_41 : decode cX1_wants 41 = .ok (.ifCond .le 7, 3) := by decide +kernel
theorem dX1_wants_44 : decode cX1_wants 44 = .ok (.iconst 1, 1) := by decide +kernel
theorem dX1_wants_45 : decode cX1_wants 45 = .ok (.goto 4, 3) := by decide +kernel
theorem dX1_wants_48 : decode cX1_wants 48 = .ok (.iconst 0, 1) := by decide +kernel
theorem dX1_wants_49 : decode cX1_wants 49 = .ok (.ireturn, 1) := by decide +kernel
theorem dX1_wants_50 : decode cX1_wants 50 = .ok (.iload_n 2, 1) := by decide +kernel
theorem dX1_wants_51 : decode cX1_wants 51 = .ok (.ifCond .le 11, 3) := by decide +kernel
theorem dX1_wants_54 : decode cX1_wants 54 = .ok (.iload_n 3, 1) := by decide +kernel
theorem dX1_wants_55 : decode cX1_wants 55 = .ok (.ifCond .ne 7, 3) := by decide +kernel
theorem dX1_wants_58 : decode cX1_wants 58 = .ok (.iconst 1, 1) := by decide +kernel
theorem dX1_wants_59 : decode cX1_wants 59 = .ok (.goto 4, 3) := by decide +kernel
theorem dX1_wants_62 : decode cX1_wants 62 = .ok (.iconst 0, 1) := by decide +kernel
theorem dX1_wants_63 : decode cX1_wants 63 = .ok (.ireturn, 1) := by decide +kernel
theorem dX1_wants_64 : decode cX1_wants 64 = .ok (.iconst 1, 1) := by decide +kernel
theorem dX1_wants_65 : decode cX1_wants 65 = .ok (.ireturn, 1) := by decide +kernel
theorem dX1_wants_66 : decode cX1_wants 66 = .ok (.iload 4, 2) := by decide +kernel
theorem dX1_wants_68 : decode cX1_wants 68 = .ok (.iconst 2, 1) := by decide +kernel
theorem dX1_wants_69 : decode cX1_wants 69 = .ok (.irem, 1) := by decide +kernel
theorem dX1_wants_70 : decode cX1_wants 70 = .ok (.ifCond .ne 7, 3) := by decide +kernel
theorem dX1_wants_73 : decode cX1_wants 73 = .ok (.iconst 1, 1) := by decide +kernel
theorem dX1_wants_74 : decode cX1_wants 74 = .ok (.goto 4, 3) := by decide +kernel
theorem dX1_wants_77 : decode cX1_wants 77 = .ok (.iconst 0, 1) := by decide +kernel
theorem dX1_wants_78 : decode cX1_wants 78 = .ok (.ireturn, 1) := by decide +kernel
theorem dX1_wants_79 : decode cX1_wants 79 = .ok (.iload_n 1, 1) := by decide +kernel
theorem dX1_wants_80 : decode cX1_wants 80 = .ok (.iconst 3, 1) := by decide +kernel
theorem dX1_wants_81 : decode cX1_wants 81 = .ok (.iadd, 1) := by decide +kernel
theorem dX1_wants_82 : decode cX1_wants 82 = .ok (.istore 5, 2) := by decide +kernel
theorem dX1_wants_84 : decode cX1_wants 84 = .ok (.iload 5, 2) := by decide +kernel
theorem dX1_wants_86 : decode cX1_wants 86 = .ok (.iconst 1, 1) := by decide +kernel
theorem dX1_wants_87 : decode cX1_wants 87 = .ok (.if_icmp .lt 11, 3) := by decide +kernel
theorem dX1_wants_90 : decode cX1_wants 90 = .ok (.iload 4, 2) := by decide +kernel
theorem dX1_wants_92 : decode cX1_wants 92 = .ok (.iload 5, 2) := by decide +kernel
theorem dX1_wants_94 : decode cX1_wants 94 = .ok (.irem, 1) := by decide +kernel
theorem dX1_wants_95 : decode cX1_wants 95 = .ok (.ifCond .eq 7, 3) := by decide +kernel
theorem dX1_wants_98 : decode cX1_wants 98 = .ok (.iconst 1, 1) := by decide +kernel
theorem dX1_wants_99 : decode cX1_wants 99 = .ok (.goto 4, 3) := by decide +kernel
theorem dX1_wants_102 : decode cX1_wants 102 = .ok (.iconst 0, 1) := by decide +kernel
theorem dX1_wants_103 : decode cX1_wants 103 = .ok (.ireturn, 1) := by decide +kernel
theorem dX1_wants_104 : decode cX1_wants 104 = .ok (.iconst 0, 1) := by decide +kernel
theorem dX1_wants_105 : decode cX1_wants 105 = .ok (.ireturn, 1) := by decide +kernel
def rmX1_wants : Room := { frames := 0, cells := 0, slots := 0, locals := 0 }
abbrev wsX1_wants : List Cond := .code yX1_wants cX1_wants 6 (some .boolean) :: gw_tbl
def kX1_wants_104 : pProg := (104, 1, a_iconst 0) :: (105, 1, a_zret) :: []
def kX1_wants_103 : pProg := (103, 1, a_zret) :: []
def kX1_wants_102 : pProg := (102, 1, a_iconst 0) :: (103, 0, a_fall 103) :: []
def kX1_wants_98 : pProg := (98, 1, a_iconst 1) :: (99, 3, a_goto 103) :: []
def kX1_wants_79 : pProg := (79, 1, a_iload 1) :: (80, 1, a_iconst 3) :: (81, 1, a_iadd) :: (82, 2, a_istore 5) :: (84, 2, a_iload 5) :: (86, 1, a_iconst 1) :: (87, 3, a_icmp_lt 98) :: (90, 2, a_iload 4) :: (92, 2, a_iload 5) :: (94, 1, a_irem) :: (95, 3, a_if_eq 102) :: (98, 0, a_fall 98) :: []
def kX1_wants_78 : pProg := (78, 1, a_zret) :: []
def kX1_wants_77 : pProg := (77, 1, a_iconst 0) :: (78, 0, a_fall 78) :: []
def kX1_wants_66 : pProg := (66, 2, a_iload 4) :: (68, 1, a_iconst 2) :: (69, 1, a_irem) :: (70, 3, a_if_ne 77) :: (73, 1, a_iconst 1) :: (74, 3, a_goto 78) :: []
def kX1_wants_64 : pProg := (64, 1, a_iconst 1) :: (65, 1, a_zret) :: []
def kX1_wants_63 : pProg := (63, 1, a_zret) :: []
def kX1_wants_62 : pProg := (62, 1, a_iconst 0) :: (63, 0, a_fall 63) :: []
def kX1_wants_50 : pProg := (50, 1, a_iload 2) :: (51, 3, a_if_le 62) :: (54, 1, a_iload 3) :: (55, 3, a_if_ne 62) :: (58, 1, a_iconst 1) :: (59, 3, a_goto 63) :: []
def kX1_wants_49 : pProg := (49, 1, a_zret) :: []
def kX1_wants_48 : pProg := (48, 1, a_iconst 0) :: (49, 0, a_fall 49) :: []
def kX1_wants_40 : pProg := (40, 1, a_iload 2) :: (41, 3, a_if_le 48) :: (44, 1, a_iconst 1) :: (45, 3, a_goto 49) :: []
def kX1_wants_0 : pProg := (0, 1, a_iload 0) :: (1, 39, a_lsw [(0, 40), (1, 50), (2, 64), (3, 104), (4, 66), (5, 79)] 104) :: []
set_option maxRecDepth 100000 in
theorem sX1_wants_104 (l : Launch) : AllS (pSnd l rmX1_wants yX1_wants.cls cX1_wants wsX1_wants 6 (some .boolean)) 104 kX1_wants_104 :=
  alls _ (s_iconst dX1_wants_104) <|
  alls _ (s_zret dX1_wants_105) <|
  alls_nil _
set_option maxRecDepth 100000 in
theorem sX1_wants_103 (l : Launch) : AllS (pSnd l rmX1_wants yX1_wants.cls cX1_wants wsX1_wants 6 (some .boolean)) 103 kX1_wants_103 :=
  alls _ (s_zret dX1_wants_103) <|
  alls_nil _
set_option maxRecDepth 100000 in
theorem sX1_wants_102 (l : Launch) : AllS (pSnd l rmX1_wants yX1_wants.cls cX1_wants wsX1_wants 6 (some .boolean)) 102 kX1_wants_102 :=
  alls _ (s_iconst dX1_wants_102) <|
  alls _ s_fall (alls_nil _)
set_option maxRecDepth 100000 in
theorem sX1_wants_98 (l : Launch) : AllS (pSnd l rmX1_wants yX1_wants.cls cX1_wants wsX1_wants 6 (some .boolean)) 98 kX1_wants_98 :=
  alls _ (s_iconst dX1_wants_98) <|
  alls _ (s_goto (by decide) dX1_wants_99) <|
  alls_nil _
set_option maxRecDepth 100000 in
theorem sX1_wants_79 (l : Launch) : AllS (pSnd l rmX1_wants yX1_wants.cls cX1_wants wsX1_wants 6 (some .boolean)) 79 kX1_wants_79 :=
  alls _ (s_iload_n rfl dX1_wants_79) <|
  alls _ (s_iconst dX1_wants_80) <|
  alls _ (s_iadd dX1_wants_81) <|
  alls _ (s_istore dX1_wants_82) <|
  alls _ (s_iload dX1_wants_84) <|
  alls _ (s_iconst dX1_wants_86) <|
  alls _ (s_icmp_lt (by decide) dX1_wants_87) <|
  alls _ (s_iload dX1_wants_90) <|
  alls _ (s_iload dX1_wants_92) <|
  alls _ (s_irem dX1_wants_94) <|
  alls _ (s_if_eq (by decide) dX1_wants_95) <|
  alls _ s_fall (alls_nil _)
set_option maxRecDepth 100000 in
theorem sX1_wants_78 (l : Launch) : AllS (pSnd l rmX1_wants yX1_wants.cls cX1_wants wsX1_wants 6 (some .boolean)) 78 kX1_wants_78 :=
  alls _ (s_zret dX1_wants_78) <|
  alls_nil _
set_option maxRecDepth 100000 in
theorem sX1_wants_77 (l : Launch) : AllS (pSnd l rmX1_wants yX1_wants.cls cX1_wants wsX1_wants 6 (some .boolean)) 77 kX1_wants_77 :=
  alls _ (s_iconst dX1_wants_77) <|
  alls _ s_fall (alls_nil _)
set_option maxRecDepth 100000 in
theorem sX1_wants_66 (l : Launch) : AllS (pSnd l rmX1_wants yX1_wants.cls cX1_wants wsX1_wants 6 (some .boolean)) 66 kX1_wants_66 :=
  alls _ (s_iload dX1_wants_66) <|
  alls _ (s_iconst dX1_wants_68) <|
  alls _ (s_irem dX1_wants_69) <|
  alls _ (s_if_ne (by decide) dX1_wants_70) <|
  alls _ (s_iconst dX1_wants_73) <|
  alls _ (s_goto (by decide) dX1_wants_74) <|
  alls_nil _
set_option maxRecDepth 100000 in
theorem sX1_wants_64 (l : Launch) : AllS (pSnd l rmX1_wants yX1_wants.cls cX1_wants wsX1_wants 6 (some .boolean)) 64 kX1_wants_64 :=
  alls _ (s_iconst dX1_wants_64) <|
  alls _ (s_zret dX1_wants_65) <|
  alls_nil _
set_option maxRecDepth 100000 in
theorem sX1_wants_63 (l : Launch) : AllS (pSnd l rmX1_wants yX1_wants.cls cX1_wants wsX1_wants 6 (some .boolean)) 63 kX1_wants_63 :=
  alls _ (s_zret dX1_wants_63) <|
  alls_nil _
set_option maxRecDepth 100000 in
theorem sX1_wants_62 (l : Launch) : AllS (pSnd l rmX1_wants yX1_wants.cls cX1_wants wsX1_wants 6 (some .boolean)) 62 kX1_wants_62 :=
  alls _ (s_iconst dX1_wants_62) <|
  alls _ s_fall (alls_nil _)
set_option maxRecDepth 100000 in
theorem sX1_wants_50 (l : Launch) : AllS (pSnd l rmX1_wants yX1_wants.cls cX1_wants wsX1_wants 6 (some .boolean)) 50 kX1_wants_50 :=
  alls _ (s_iload_n rfl dX1_wants_50) <|
  alls _ (s_if_le (by decide) dX1_wants_51) <|
  alls _ (s_iload_n rfl dX1_wants_54) <|
  alls _ (s_if_ne (by decide) dX1_wants_55) <|
  alls _ (s_iconst dX1_wants_58) <|
  alls _ (s_goto (by decide) dX1_wants_59) <|
  alls_nil _
set_option maxRecDepth 100000 in
theorem sX1_wants_49 (l : Launch) : AllS (pSnd l rmX1_wants yX1_wants.cls cX1_wants wsX1_wants 6 (some .boolean)) 49 kX1_wants_49 :=
  alls _ (s_zret dX1_wants_49) <|
  alls_nil _
set_option maxRecDepth 100000 in
theorem sX1_wants_48 (l : Launch) : AllS (pSnd l rmX1_wants yX1_wants.cls cX1_wants wsX1_wants 6 (some .boolean)) 48 kX1_wants_48 :=
  alls _ (s_iconst dX1_wants_48) <|
  alls _ s_fall (alls_nil _)
set_option maxRecDepth 100000 in
theorem sX1_wants_40 (l : Launch) : AllS (pSnd l rmX1_wants yX1_wants.cls cX1_wants wsX1_wants 6 (some .boolean)) 40 kX1_wants_40 :=
  alls _ (s_iload_n rfl dX1_wants_40) <|
  alls _ (s_if_le (by decide) dX1_wants_41) <|
  alls _ (s_iconst dX1_wants_44) <|
  alls _ (s_goto (by decide) dX1_wants_45) <|
  alls_nil _
set_option maxRecDepth 100000 in
theorem sX1_wants_0 (l : Launch) : AllS (pSnd l rmX1_wants yX1_wants.cls cX1_wants wsX1_wants 6 (some .boolean)) 0 kX1_wants_0 :=
  alls _ (s_iload_n rfl dX1_wants_0) <|
  alls _ (s_tsw (by decide) (by decide) (by decide) (by decide) dX1_wants_1) <|
  alls_nil _
def KX1_wants : List (Nat × pProg) := [(0, kX1_wants_0), (40, kX1_wants_40), (48, kX1_wants_48), (49, kX1_wants_49), (50, kX1_wants_50), (62, kX1_wants_62), (63, kX1_wants_63), (64, kX1_wants_64), (66, kX1_wants_66), (77, kX1_wants_77), (78, kX1_wants_78), (79, kX1_wants_79), (98, kX1_wants_98), (102, kX1_wants_102), (103, kX1_wants_103), (104, kX1_wants_104)]
theorem bX1_wants_0 : blkOf KX1_wants 0 = some kX1_wants_0 := rfl
theorem bX1_wants_40 : blkOf KX1_wants 40 = some kX1_wants_40 := rfl
theorem bX1_wants_48 : blkOf KX1_wants 48 = some kX1_wants_48 := rfl
theorem bX1_wants_49 : blkOf KX1_wants 49 = some kX1_wants_49 := rfl
theorem bX1_wants_50 : blkOf KX1_wants 50 = some kX1_wants_50 := rfl
theorem bX1_wants_62 : blkOf KX1_wants 62 = some kX1_wants_62 := rfl
theorem bX1_wants_63 : blkOf KX1_wants 63 = some kX1_wants_63 := rfl
theorem bX1_wants_64 : blkOf KX1_wants 64 = some kX1_wants_64 := rfl
theorem bX1_wants_66 : blkOf KX1_wants 66 = some kX1_wants_66 := rfl
theorem bX1_wants_77 : blkOf KX1_wants 77 = some kX1_wants_77 := rfl
theorem bX1_wants_78 : blkOf KX1_wants 78 = some kX1_wants_78 := rfl
theorem bX1_wants_79 : blkOf KX1_wants 79 = some kX1_wants_79 := rfl
theorem bX1_wants_98 : blkOf KX1_wants 98 = some kX1_wants_98 := rfl
theorem bX1_wants_102 : blkOf KX1_wants 102 = some kX1_wants_102 := rfl
theorem bX1_wants_103 : blkOf KX1_wants 103 = some kX1_wants_103 := rfl
theorem bX1_wants_104 : blkOf KX1_wants 104 = some kX1_wants_104 := rfl
def tX1_wants : pT := pM KX1_wants 6
theorem ct_X1_wants (l : Launch) : pCtr l yX1_wants wsX1_wants rmX1_wants 5 tX1_wants := ctr_of (by decide +kernel) rfl (List.forall_mem_cons.mpr ⟨sX1_wants_0 l, List.forall_mem_cons.mpr ⟨sX1_wants_40 l, List.forall_mem_cons.mpr ⟨sX1_wants_48 l, List.forall_mem_cons.mpr ⟨sX1_wants_49 l, List.forall_mem_cons.mpr ⟨sX1_wants_50 l, List.forall_mem_cons.mpr ⟨sX1_wants_62 l, List.forall_mem_cons.mpr ⟨sX1_wants_63 l, List.forall_mem_cons.mpr ⟨sX1_wants_64 l, List.forall_mem_cons.mpr ⟨sX1_wants_66 l, List.forall_mem_cons.mpr ⟨sX1_wants_77 l, List.forall_mem_cons.mpr ⟨sX1_wants_78 l, List.forall_mem_cons.mpr ⟨sX1_wants_79 l, List.forall_mem_cons.mpr ⟨sX1_wants_98 l, List.forall_mem_cons.mpr ⟨sX1_wants_102 l, List.forall_mem_cons.mpr ⟨sX1_wants_103 l, List.forall_mem_cons.mpr ⟨sX1_wants_104 l, fun _ h => absurd h List.not_mem_nil⟩⟩⟩⟩⟩⟩⟩⟩⟩⟩⟩⟩⟩⟩⟩⟩)
theorem dX1_goes_0 : decode cX1_goes 0 = .ok (.iload_n 0, 1) := by decide +kernel
theorem dX1_goes_1 : decode cX1_goes 1 = .ok (.tableswitch 31 2 4 #[27, 29, 27], 27) := by decide +kernel
theorem dX1_goes_28 : decode cX1_goes 28 = .ok (.iconst 1, 1) := by decide +kernel
theorem dX1_goes_29 : decode cX1_goes 29 = .ok (.ireturn, 1) := by decide +kernel
theorem dX1_goes_30 : decode cX1_goes 30 = .ok (.iconst 3, 1) := by decide +kernel
theorem dX1_goes_31 : decode cX1_goes 31 = .ok (.ireturn, 1) := by decide +kernel
theorem dX1_goes_32 : decode cX1_goes 32 = .ok (.iconst 2, 1) := by decide +kernel
theorem dX1_goes_33 : decode cX1_goes 33 = .ok (.ireturn, 1) := by decide +kernel
def rmX1_goes : Room := { frames := 0, cells := 0, slots := 0, locals := 0 }
abbrev wsX1_goes : List Cond := .code yX1_goes cX1_goes 1 (some .int) :: gw_tbl
def kX1_goes_32 : pProg := (32, 1, a_iconst 2) :: (33, 1, a_iret) :: []
def kX1_goes_30 : pProg := (30, 1, a_iconst 3) :: (31, 1, a_iret) :: []
def kX1_goes_28 : pProg := (28, 1, a_iconst 1) :: (29, 1, a_iret) :: []
def kX1_goes_0 : pProg := (0, 1, a_iload 0) :: (1, 27, a_lsw [(2, 28), (3, 30), (4, 28)] 32) :: []
set_option maxRecDepth 100000 in
theorem sX1_goes_32 (l : Launch) : AllS (pSnd l rmX1_goes yX1_goes.cls cX1_goes wsX1_goes 1 (some .int)) 32 kX1_goes_32 :=
  alls _ (s_iconst dX1_goes_32) <|
  alls _ (s_iret dX1_goes_33) <|
  alls_nil _
set_option maxRecDepth 100000 in
theorem sX1_goes_30 (l : Launch) : AllS (pSnd l rmX1_goes yX1_goes.cls cX1_goes wsX1_goes 1 (some .int)) 30 kX1_goes_30 :=
  alls _ (s_iconst dX1_goes_30) <|
  alls _ (s_iret dX1_goes_31) <|
  alls_nil _
set_option maxRecDepth 100000 in
theorem sX1_goes_28 (l : Launch) : AllS (pSnd l rmX1_goes yX1_goes.cls cX1_goes wsX1_goes 1 (some .int)) 28 kX1_goes_28 :=
  alls _ (s_iconst dX1_goes_28) <|
  alls _ (s_iret dX1_goes_29) <|
  alls_nil _
set_option maxRecDepth 100000 in
theorem sX1_goes_0 (l : Launch) : AllS (pSnd l rmX1_goes yX1_goes.cls cX1_goes wsX1_goes 1 (some .int)) 0 kX1_goes_0 :=
  alls _ (s_iload_n rfl dX1_goes_0) <|
  alls _ (s_tsw (by decide) (by decide) (by decide) (by decide) dX1_goes_1) <|
  alls_nil _
def KX1_goes : List (Nat × pProg) := [(0, kX1_goes_0), (28, kX1_goes_28), (30, kX1_goes_30), (32, kX1_goes_32)]
theorem bX1_goes_0 : blkOf KX1_goes 0 = some kX1_goes_0 := rfl
theorem bX1_goes_28 : blkOf KX1_goes 28 = some kX1_goes_28 := rfl
theorem bX1_goes_30 : blkOf KX1_goes 30 = some kX1_goes_30 := rfl
theorem bX1_goes_32 : blkOf KX1_goes 32 = some kX1_goes_32 := rfl
def tX1_goes : pT := pM KX1_goes 1
theorem ct_X1_goes (l : Launch) : pCtr l yX1_goes wsX1_goes rmX1_goes 1 tX1_goes := ctr_of (by decide +kernel) rfl (List.forall_mem_cons.mpr ⟨sX1_goes_0 l, List.forall_mem_cons.mpr ⟨sX1_goes_28 l, List.forall_mem_cons.mpr ⟨sX1_goes_30 l, List.forall_mem_cons.mpr ⟨sX1_goes_32 l, fun _ h => absurd h List.not_mem_nil⟩⟩⟩⟩)
theorem dX2_forget_0 : decode cX2_forget 0 = .ok (.aload_n 0, 1) := by decide +kernel
theorem dX2_forget_1 : decode cX2_forget 1 = .ok (.iconst 0, 1) := by decide +kernel
theorem dX2_forget_2 : decode cX2_forget 2 = .ok (.putfield 19, 3) := by decide +kernel
theorem dX2_forget_5 : decode cX2_forget 5 = .ok (.return_, 1) := by decide +kernel
def rmX2_forget : Room := { frames := 0, cells := 0, slots := 0, locals := 0 }
abbrev wsX2_forget : List Cond := .code yX2_forget cX2_forget 1 none :: gw_tbl
def kX2_forget_0 : pProg := (0, 1, a_aload 0) :: (1, 1, a_iconst 0) :: (2, 3, a_putf 0 1 1 .int) :: (5, 1, a_vret) :: []
set_option maxRecDepth 100000 in
theorem sX2_forget_0 (l : Launch) : AllS (pSnd l rmX2_forget yX2_forget.cls cX2_forget wsX2_forget 1 none) 0 kX2_forget_0 :=
  alls _ (s_aload_n rfl dX2_forget_0) <|
  alls _ (s_iconst dX2_forget_1) <|
  alls _ (s_putf (C := RX2) (T := TX2) (N := 2) tyX2 rfl (in_c inX2) tyX2_ok nmX2 (by decide) (List.mem_cons_of_mem _ wd_137) rfl rfl (tyX2_ok 1 (by decide)) dX2_forget_2) <|
  alls _ (s_vret dX2_forget_5) <|
  alls_nil _
def KX2_forget : List (Nat × pProg) := [(0, kX2_forget_0)]
theorem bX2_forget_0 : blkOf KX2_forget 0 = some kX2_forget_0 := rfl
def tX2_forget : pT := pM KX2_forget 1
theorem ct_X2_forget (l : Launch) : pCtr l yX2_forget wsX2_forget rmX2_forget 1 tX2_forget := ctr_of (by decide +kernel) rfl (List.forall_mem_cons.mpr ⟨sX2_forget_0 l, fun _ h => absurd h List.not_mem_nil⟩)
theorem dX5_power_0 : decode cX5_power 0 = .ok (.lconst 1, 1) := by decide +kernel
theorem dX5_power_1 : decode cX5_power 1 = .ok (.lstore_n 3, 1) := by decide +kernel
theorem dX5_power_2 : decode cX5_power 2 = .ok (.iconst 0, 1) := by decide +kernel
theorem dX5_power_3 : decode cX5_power 3 = .ok (.istore 5, 2) := by decide +kernel
theorem dX5_power_5 : decode cX5_power 5 = .ok (.iload 5, 2) := by decide +kernel
theorem dX5_power_7 : decode cX5_power 7 = .ok (.iload_n 2, 1) := by decide +kernel
theorem dX5_power_8 : decode cX5_power 8 = .ok (.if_icmp .ge 13, 3) := by decide +kernel
theorem dX5_power_11 : decode cX5_power 11 = .ok (.lload_n 3, 1) := by decide +kernel
theorem dX5_power_12 : decode cX5_power 12 = .ok (.lload_n 0, 1) := by decide +kernel
theorem dX5_power_13 : decode cX5_power 13 = .ok (.lmul, 1) := by decide +kernel
theorem dX5_power_14 : decode cX5_power 14 = .ok (.lstore_n 3, 1) := by decide +kernel
theorem dX5_power_15 : decode cX5_power 15 = .ok (.iinc 5 1, 3) := by decide +kernel
theorem dX5_power_18 : decode cX5_power 18 = .ok (.goto (-13), 3) := by decide +kernel
theorem dX5_power_21 : decode cX5_power 21 = .ok (.lload_n 3, 1) := by decide +kernel
theorem dX5_power_22 : decode cX5_power 22 = .ok (.lreturn, 1) := by decide +kernel
def rmX5_power : Room := { frames := 0, cells := 0, slots := 0, locals := 0 }
abbrev wsX5_power : List Cond := .code yX5_power cX5_power 6 (some .long) :: gw_tbl
def kX5_power_21 : pProg := (21, 1, a_lload 3) :: (22, 1, a_lret) :: []
def kX5_power_5 : pProg := (5, 2, a_iload 5) :: (7, 1, a_iload 2) :: (8, 3, a_icmp_ge 21) :: (11, 1, a_lload 3) :: (12, 1, a_lload 0) :: (13, 1, a_lmul) :: (14, 1, a_lstore 3) :: (15, 3, a_iinc 5 1) :: (18, 3, a_goto 5) :: []
def kX5_power_0 : pProg := (0, 1, a_lconst 1) :: (1, 1, a_lstore 3) :: (2, 1, a_iconst 0) :: (3, 2, a_istore 5) :: (5, 0, a_fall 5) :: []
set_option maxRecDepth 100000 in
theorem sX5_power_21 (l : Launch) : AllS (pSnd l rmX5_power yX5_power.cls cX5_power wsX5_power 6 (some .long)) 21 kX5_power_21 :=
  alls _ (s_lload_n rfl dX5_power_21) <|
  alls _ (s_lret dX5_power_22) <|
  alls_nil _
set_option maxRecDepth 100000 in
theorem sX5_power_5 (l : Launch) : AllS (pSnd l rmX5_power yX5_power.cls cX5_power wsX5_power 6 (some .long)) 5 kX5_power_5 :=
  alls _ (s_iload dX5_power_5) <|
  alls _ (s_iload_n rfl dX5_power_7) <|
  alls _ (s_icmp_ge (by decide) dX5_power_8) <|
  alls _ (s_lload_n rfl dX5_power_11) <|
  alls _ (s_lload_n rfl dX5_power_12) <|
  alls _ (s_lmul dX5_power_13) <|
  alls _ (s_lstore_n rfl dX5_power_14) <|
  alls _ (s_iinc dX5_power_15) <|
  alls _ (s_goto (by decide) dX5_power_18) <|
  alls_nil _
set_option maxRecDepth 100000 in
theorem sX5_power_0 (l : Launch) : AllS (pSnd l rmX5_power yX5_power.cls cX5_power wsX5_power 6 (some .long)) 0 kX5_power_0 :=
  alls _ (s_lconst (by decide) dX5_power_0) <|
  alls _ (s_lstore_n rfl dX5_power_1) <|
  alls _ (s_iconst dX5_power_2) <|
  alls _ (s_istore dX5_power_3) <|
  alls _ s_fall (alls_nil _)
def KX5_power : List (Nat × pProg) := [(0, kX5_power_0), (5, kX5_power_5), (21, kX5_power_21)]
theorem bX5_power_0 : blkOf KX5_power 0 = some kX5_power_0 := rfl
theorem bX5_power_5 : blkOf KX5_power 5 = some kX5_power_5 := rfl
theorem bX5_power_21 : blkOf KX5_power 21 = some kX5_power_21 := rfl
def tX5_power : pT := pM KX5_power 6
theorem ct_X5_power (l : Launch) : pCtr l yX5_power wsX5_power rmX5_power 2 tX5_power := ctr_of (by decide +kernel) rfl (List.forall_mem_cons.mpr ⟨sX5_power_0 l, List.forall_mem_cons.mpr ⟨sX5_power_5 l, List.forall_mem_cons.mpr ⟨sX5_power_21 l, fun _ h => absurd h List.not_mem_nil⟩⟩⟩)
