theorem dX0_pairs_0 : decode cX0_pairs 0 = .ok (.aload_n 0, 1) := by decide +kernel
theorem dX0_pairs_1 : decode cX0_pairs 1 = .ok (.getfield 34, 3) := by decide +kernel
theorem dX0_pairs_4 : decode cX0_pairs 4 = .ok (.ireturn, 1) := by decide +kernel
def rmX0_pairs : Room := { frames := 0, cells := 0, slots := 0, locals := 0 }
abbrev wsX0_pairs : List Cond := .code yX0_pairs cX0_pairs 1 (some .int) :: gw_tbl
def kX0_pairs_0 : pProg := (0, 1, a_aload 0) :: (1, 3, a_getf 0 0 6) :: (4, 1, a_iret) :: []
set_option maxRecDepth 100000 in
theorem sX0_pairs_0 (l : Launch) : AllS (pSnd l rmX0_pairs yX0_pairs.cls cX0_pairs wsX0_pairs 1 (some .int)) 0 kX0_pairs_0 :=
  alls _ (s_aload_n rfl dX0_pairs_0) <|
  alls _ (s_getf (C := RX0) (T := TX0) (N := 8) rfl (in_c inX0) (by decide) (List.mem_cons_of_mem _ wd_89) rfl dX0_pairs_1) <|
  alls _ (s_iret dX0_pairs_4) <|
  alls_nil _
def KX0_pairs : List (Nat × pProg) := [(0, kX0_pairs_0)]
theorem bX0_pairs_0 : blkOf KX0_pairs 0 = some kX0_pairs_0 := rfl
def tX0_pairs : pT := pM KX0_pairs 1
theorem ct_X0_pairs (l : Launch) : pCtr l yX0_pairs wsX0_pairs rmX0_pairs 1 tX0_pairs := ctr_of (by decide +kernel) rfl (List.forall_mem_cons.mpr ⟨sX0_pairs_0 l, fun _ h => absurd h List.not_mem_nil⟩)
theorem dX0_minute_0 : decode cX0_minute 0 = .ok (.aload_n 0, 1) := by decide +kernel
theorem dX0_minute_1 : decode cX0_minute 1 = .ok (.getfield 38, 3) := by decide +kernel
theorem dX0_minute_4 : decode cX0_minute 4 = .ok (.ireturn, 1) := by decide +kernel
def rmX0_minute : Room := { frames := 0, cells := 0, slots := 0, locals := 0 }
abbrev wsX0_minute : List Cond := .code yX0_minute cX0_minute 1 (some .int) :: gw_tbl
def kX0_minute_0 : pProg := (0, 1, a_aload 0) :: (1, 3, a_getf 0 0 7) :: (4, 1, a_iret) :: []
set_option maxRecDepth 100000 in
theorem sX0_minute_0 (l : Launch) : AllS (pSnd l rmX0_minute yX0_minute.cls cX0_minute wsX0_minute 1 (some .int)) 0 kX0_minute_0 :=
  alls _ (s_aload_n rfl dX0_minute_0) <|
  alls _ (s_getf (C := RX0) (T := TX0) (N := 8) rfl (in_c inX0) (by decide) (List.mem_cons_of_mem _ wd_90) rfl dX0_minute_1) <|
  alls _ (s_iret dX0_minute_4) <|
  alls_nil _
def KX0_minute : List (Nat × pProg) := [(0, kX0_minute_0)]
theorem bX0_minute_0 : blkOf KX0_minute 0 = some kX0_minute_0 := rfl
def tX0_minute : pT := pM KX0_minute 1
theorem ct_X0_minute (l : Launch) : pCtr l yX0_minute wsX0_minute rmX0_minute 1 tX0_minute := ctr_of (by decide +kernel) rfl (List.forall_mem_cons.mpr ⟨sX0_minute_0 l, fun _ h => absurd h List.not_mem_nil⟩)
theorem dX0_kindOf_0 : decode cX0_kindOf 0 = .ok (.iload_n 1, 1) := by decide +kernel
theorem dX0_kindOf_1 : decode cX0_kindOf 1 = .ok (.ifCond .lt 21, 3) := by decide +kernel
theorem dX0_kindOf_4 : decode cX0_kindOf 4 = .ok (.iload_n 1, 1) := by decide +kernel
theorem dX0_kindOf_5 : decode cX0_kindOf 5 = .ok (.aload_n 0, 1) := by decide +kernel
theorem dX0_kindOf_6 : decode cX0_kindOf 6 = .ok (.getfield 21, 3) := by decide +kernel
theorem dX0_kindOf_9 : decode cX0_kindOf 9 = .ok (.arraylength, 1) := by decide +kernel
theorem dX0_kindOf_10 : decode cX0_kindOf 10 = .ok (.if_icmp .ge 12, 3) := by decide +kernel
theorem dX0_kindOf_13 : decode cX0_kindOf 13 = .ok (.aload_n 0, 1) := by decide +kernel
theorem dX0_kindOf_14 : decode cX0_kindOf 14 = .ok (.getfield 21, 3) := by decide +kernel
theorem dX0_kindOf_17 : decode cX0_kindOf 17 = .ok (.iload_n 1, 1) := by decide +kernel
theorem dX0_kindOf_18 : decode cX0_kindOf 18 = .ok (.iaload, 1) := by decide +kernel
theorem dX0_kindOf_19 : decode cX0_kindOf 19 = .ok (.goto 4, 3) := by decide +kernel
theorem dX0_kindOf_22 : decode cX0_kindOf 22 = .ok (.iconst 0, 1) := by decide +kernel
theorem dX0_kindOf_23 : decode cX0_kindOf 23 = .ok (.ireturn, 1) := by decide +kernel
def rmX0_kindOf : Room := { frames := 0, cells := 0, slots := 0, locals := 0 }
abbrev wsX0_kindOf : List Cond := .code yX0_kindOf cX0_kindOf 2 (some .int) :: gw_tbl
def kX0_kindOf_23 : pProg := (23, 1, a_iret) :: []
def kX0_kindOf_22 : pProg := (22, 1, a_iconst 0) :: (23, 0, a_fall 23) :: []
def kX0_kindOf_0 : pProg := (0, 1, a_iload 1) :: (1, 3, a_if_lt 22) :: (4, 1, a_iload 1) :: (5, 1, a_aload 0) :: (6, 3, a_getf 0 0 3) :: (9, 1, a_alen 4) :: (10, 3, a_icmp_ge 22) :: (13, 1, a_aload 0) :: (14, 3, a_getf 0 0 3) :: (17, 1, a_iload 1) :: (18, 1, a_iald 4) :: (19, 3, a_goto 23) :: []
set_option maxRecDepth 100000 in
theorem sX0_kindOf_23 (l : Launch) : AllS (pSnd l rmX0_kindOf yX0_kindOf.cls cX0_kindOf wsX0_kindOf 2 (some .int)) 23 kX0_kindOf_23 :=
  alls _ (s_iret dX0_kindOf_23) <|
  alls_nil _
set_option maxRecDepth 100000 in
theorem sX0_kindOf_22 (l : Launch) : AllS (pSnd l rmX0_kindOf yX0_kindOf.cls cX0_kindOf wsX0_kindOf 2 (some .int)) 22 kX0_kindOf_22 :=
  alls _ (s_iconst dX0_kindOf_22) <|
  alls _ s_fall (alls_nil _)
set_option maxRecDepth 100000 in
theorem sX0_kindOf_0 (l : Launch) : AllS (pSnd l rmX0_kindOf yX0_kindOf.cls cX0_kindOf wsX0_kindOf 2 (some .int)) 0 kX0_kindOf_0 :=
  alls _ (s_iload_n rfl dX0_kindOf_0) <|
  alls _ (s_if_lt (by decide) dX0_kindOf_1) <|
  alls _ (s_iload_n rfl dX0_kindOf_4) <|
  alls _ (s_aload_n rfl dX0_kindOf_5) <|
  alls _ (s_getf (C := RX0) (T := TX0) (N := 8) rfl (in_c inX0) (by decide) (List.mem_cons_of_mem _ wd_86) rfl dX0_kindOf_6) <|
  alls _ (s_alen dX0_kindOf_9) <|
  alls _ (s_icmp_ge (by decide) dX0_kindOf_10) <|
  alls _ (s_aload_n rfl dX0_kindOf_13) <|
  alls _ (s_getf (C := RX0) (T := TX0) (N := 8) rfl (in_c inX0) (by decide) (List.mem_cons_of_mem _ wd_86) rfl dX0_kindOf_14) <|
  alls _ (s_iload_n rfl dX0_kindOf_17) <|
  alls _ (s_iald dX0_kindOf_18) <|
  alls _ (s_goto (by decide) dX0_kindOf_19) <|
  alls_nil _
def KX0_kindOf : List (Nat × pProg) := [(0, kX0_kindOf_0), (22, kX0_kindOf_22), (23, kX0_kindOf_23)]
theorem bX0_kindOf_0 : blkOf KX0_kindOf 0 = some kX0_kindOf_0 := rfl
theorem bX0_kindOf_22 : blkOf KX0_kindOf 22 = some kX0_kindOf_22 := rfl
theorem bX0_kindOf_23 : blkOf KX0_kindOf 23 = some kX0_kindOf_23 := rfl
def tX0_kindOf : pT := pM KX0_kindOf 2
theorem ct_X0_kindOf (l : Launch) : pCtr l yX0_kindOf wsX0_kindOf rmX0_kindOf 2 tX0_kindOf := ctr_of (by decide +kernel) rfl (List.forall_mem_cons.mpr ⟨sX0_kindOf_0 l, List.forall_mem_cons.mpr ⟨sX0_kindOf_22 l, List.forall_mem_cons.mpr ⟨sX0_kindOf_23 l, fun _ h => absurd h List.not_mem_nil⟩⟩⟩)
theorem dX0_figureOf_0 : decode cX0_figureOf 0 = .ok (.iload_n 1, 1) := by decide +kernel
theorem dX0_figureOf_1 : decode cX0_figureOf 1 = .ok (.ifCond .lt 21, 3) := by decide +kernel
theorem dX0_figureOf_4 : decode cX0_figureOf 4 = .ok (.iload_n 1, 1) := by decide +kernel
theorem dX0_figureOf_5 : decode cX0_figureOf 5 = .ok (.aload_n 0, 1) := by decide +kernel
theorem dX0_figureOf_6 : decode cX0_figureOf 6 = .ok (.getfield 24, 3) := by decide +kernel
theorem dX0_figureOf_9 : decode cX0_figureOf 9 = .ok (.arraylength, 1) := by decide +kernel
theorem dX0_figureOf_10 : decode cX0_figureOf 10 = .ok (.if_icmp .ge 12, 3) := by decide +kernel
theorem dX0_figureOf_13 : decode cX0_figureOf 13 = .ok (.aload_n 0, 1) := by decide +kernel
theorem dX0_figureOf_14 : decode cX0_figureOf 14 = .ok (.getfield 24, 3) := by decide +kernel
theorem dX0_figureOf_17 : decode cX0_figureOf 17 = .ok (.iload_n 1, 1) := by decide +kernel
theorem dX0_figureOf_18 : decode cX0_figureOf 18 = .ok (.iaload, 1) := by decide +kernel
theorem dX0_figureOf_19 : decode cX0_figureOf 19 = .ok (.goto 4, 3) := by decide +kernel
theorem dX0_figureOf_22 : decode cX0_figureOf 22 = .ok (.iconst 0, 1) := by decide +kernel
theorem dX0_figureOf_23 : decode cX0_figureOf 23 = .ok (.ireturn, 1) := by decide +kernel
def rmX0_figureOf : Room := { frames := 0, cells := 0, slots := 0, locals := 0 }
abbrev wsX0_figureOf : List Cond := .code yX0_figureOf cX0_figureOf 2 (some .int) :: gw_tbl
def kX0_figureOf_23 : pProg := (23, 1, a_iret) :: []
def kX0_figureOf_22 : pProg := (22, 1, a_iconst 0) :: (23, 0, a_fall 23) :: []
def kX0_figureOf_0 : pProg := (0, 1, a_iload 1) :: (1, 3, a_if_lt 22) :: (4, 1, a_iload 1) :: (5, 1, a_aload 0) :: (6, 3, a_getf 0 0 4) :: (9, 1, a_alen 5) :: (10, 3, a_icmp_ge 22) :: (13, 1, a_aload 0) :: (14, 3, a_getf 0 0 4) :: (17, 1, a_iload 1) :: (18, 1, a_iald 5) :: (19, 3, a_goto 23) :: []
set_option maxRecDepth 100000 in
theorem sX0_figureOf_23 (l : Launch) : AllS (pSnd l rmX0_figureOf yX0_figureOf.cls cX0_figureOf wsX0_figureOf 2 (some .int)) 23 kX0_figureOf_23 :=
  alls _ (s_iret dX0_figureOf_23) <|
  alls_nil _
set_option maxRecDepth 100000 in
theorem sX0_figureOf_22 (l : Launch) : AllS (pSnd l rmX0_figureOf yX0_figureOf.cls cX0_figureOf wsX0_figureOf 2 (some .int)) 22 kX0_figureOf_22 :=
  alls _ (s_iconst dX0_figureOf_22) <|
  alls _ s_fall (alls_nil _)
set_option maxRecDepth 100000 in
theorem sX0_figureOf_0 (l : Launch) : AllS (pSnd l rmX0_figureOf yX0_figureOf.cls cX0_figureOf wsX0_figureOf 2 (some .int)) 0 kX0_figureOf_0 :=
  alls _ (s_iload_n rfl dX0_figureOf_0) <|
  alls _ (s_if_lt (by decide) dX0_figureOf_1) <|
  alls _ (s_iload_n rfl dX0_figureOf_4) <|
  alls _ (s_aload_n rfl dX0_figureOf_5) <|
  alls _ (s_getf (C := RX0) (T := TX0) (N := 8) rfl (in_c inX0) (by decide) (List.mem_cons_of_mem _ wd_87) rfl dX0_figureOf_6) <|
  alls _ (s_alen dX0_figureOf_9) <|
  alls _ (s_icmp_ge (by decide) dX0_figureOf_10) <|
  alls _ (s_aload_n rfl dX0_figureOf_13) <|
  alls _ (s_getf (C := RX0) (T := TX0) (N := 8) rfl (in_c inX0) (by decide) (List.mem_cons_of_mem _ wd_87) rfl dX0_figureOf_14) <|
  alls _ (s_iload_n rfl dX0_figureOf_17) <|
  alls _ (s_iald dX0_figureOf_18) <|
  alls _ (s_goto (by decide) dX0_figureOf_19) <|
  alls_nil _
def KX0_figureOf : List (Nat × pProg) := [(0, kX0_figureOf_0), (22, kX0_figureOf_22), (23, kX0_figureOf_23)]
theorem bX0_figureOf_0 : blkOf KX0_figureOf 0 = some kX0_figureOf_0 := rfl
theorem bX0_figureOf_22 : blkOf KX0_figureOf 22 = some kX0_figureOf_22 := rfl
theorem bX0_figureOf_23 : blkOf KX0_figureOf 23 = some kX0_figureOf_23 := rfl
def tX0_figureOf : pT := pM KX0_figureOf 2
theorem ct_X0_figureOf (l : Launch) : pCtr l yX0_figureOf wsX0_figureOf rmX0_figureOf 2 tX0_figureOf := ctr_of (by decide +kernel) rfl (List.forall_mem_cons.mpr ⟨sX0_figureOf_0 l, List.forall_mem_cons.mpr ⟨sX0_figureOf_22 l, List.forall_mem_cons.mpr ⟨sX0_figureOf_23 l, fun _ h => absurd h List.not_mem_nil⟩⟩⟩)
theorem dX0_bruisesOf_0 : decode cX0_bruisesOf 0 = .ok (.iload_n 1, 1) := by decide +kernel
theorem dX0_bruisesOf_1 : decode cX0_bruisesOf 1 = .ok (.ifCond .lt 21, 3) := by decide +kernel
theorem dX0_bruisesOf_4 : decode cX0_bruisesOf 4 = .ok (.iload_n 1, 1) := by decide +kernel
theorem dX0_bruisesOf_5 : decode cX0_bruisesOf 5 = .ok (.aload_n 0, 1) := by decide +kernel
theorem dX0_bruisesOf_6 : decode cX0_bruisesOf 6 = .ok (.getfield 27, 3) := by decide +kernel
theorem dX0_bruisesOf_9 : decode cX0_bruisesOf 9 = .ok (.arraylength, 1) := by decide +kernel
theorem dX0_bruisesOf_10 : decode cX0_bruisesOf 10 = .ok (.if_icmp .ge 12, 3) := by decide +kernel
theorem dX0_bruisesOf_13 : decode cX0_bruisesOf 13 = .ok (.aload_n 0, 1) := by decide +kernel
theorem dX0_bruisesOf_14 : decode cX0_bruisesOf 14 = .ok (.getfield 27, 3) := by decide +kernel
theorem dX0_bruisesOf_17 : decode cX0_bruisesOf 17 = .ok (.iload_n 1, 1) := by decide +kernel
theorem dX0_bruisesOf_18 : decode cX0_bruisesOf 18 = .ok (.iaload, 1) := by decide +kernel
theorem dX0_bruisesOf_19 : decode cX0_bruisesOf 19 = .ok (.goto 4, 3) := by decide +kernel
theorem dX0_bruisesOf_22 : decode cX0_bruisesOf 22 = .ok (.iconst 0, 1) := by decide +kernel
theorem dX0_bruisesOf_23 : decode cX0_bruisesOf 23 = .ok (.ireturn, 1) := by decide +kernel
def rmX0_bruisesOf : Room := { frames := 0, cells := 0, slots := 0, locals := 0 }
abbrev wsX0_bruisesOf : List Cond := .code yX0_bruisesOf cX0_bruisesOf 2 (some .int) :: gw_tbl
def kX0_bruisesOf_23 : pProg := (23, 1, a_iret) :: []
def kX0_bruisesOf_22 : pProg := (22, 1, a_iconst 0) :: (23, 0, a_fall 23) :: []
def kX0_bruisesOf_0 : pProg := (0, 1, a_iload 1) :: (1, 3, a_if_lt 22) :: (4, 1, a_iload 1) :: (5, 1, a_aload 0) :: (6, 3, a_getf 0 0 5) :: (9, 1, a_alen 6) :: (10, 3, a_icmp_ge 22) :: (13, 1, a_aload 0) :: (14, 3, a_getf 0 0 5) :: (17, 1, a_iload 1) :: (18, 1, a_iald 6) :: (19, 3, a_goto 23) :: []
set_option maxRecDepth 100000 in
theorem sX0_bruisesOf_23 (l : Launch) : AllS (pSnd l rmX0_bruisesOf yX0_bruisesOf.cls cX0_bruisesOf wsX0_bruisesOf 2 (some .int)) 23 kX0_bruisesOf_23 :=
  alls _ (s_iret dX0_bruisesOf_23) <|
  alls_nil _
set_option maxRecDepth 100000 in
theorem sX0_bruisesOf_22 (l : Launch) : AllS (pSnd l rmX0_bruisesOf yX0_bruisesOf.cls cX0_bruisesOf wsX0_bruisesOf 2 (some .int)) 22 kX0_bruisesOf_22 :=
  alls _ (s_iconst dX0_bruisesOf_22) <|
  alls _ s_fall (alls_nil _)
set_option maxRecDepth 100000 in
theorem sX0_bruisesOf_0 (l : Launch) : AllS (pSnd l rmX0_bruisesOf yX0_bruisesOf.cls cX0_bruisesOf wsX0_bruisesOf 2 (some .int)) 0 kX0_bruisesOf_0 :=
  alls _ (s_iload_n rfl dX0_bruisesOf_0) <|
  alls _ (s_if_lt (by decide) dX0_bruisesOf_1) <|
  alls _ (s_iload_n rfl dX0_bruisesOf_4) <|
  alls _ (s_aload_n rfl dX0_bruisesOf_5) <|
  alls _ (s_getf (C := RX0) (T := TX0) (N := 8) rfl (in_c inX0) (by decide) (List.mem_cons_of_mem _ wd_88) rfl dX0_bruisesOf_6) <|
  alls _ (s_alen dX0_bruisesOf_9) <|
  alls _ (s_icmp_ge (by decide) dX0_bruisesOf_10) <|
  alls _ (s_aload_n rfl dX0_bruisesOf_13) <|
  alls _ (s_getf (C := RX0) (T := TX0) (N := 8) rfl (in_c inX0) (by decide) (List.mem_cons_of_mem _ wd_88) rfl dX0_bruisesOf_14) <|
  alls _ (s_iload_n rfl dX0_bruisesOf_17) <|
  alls _ (s_iald dX0_bruisesOf_18) <|
  alls _ (s_goto (by decide) dX0_bruisesOf_19) <|
  alls_nil _
def KX0_bruisesOf : List (Nat × pProg) := [(0, kX0_bruisesOf_0), (22, kX0_bruisesOf_22), (23, kX0_bruisesOf_23)]
theorem bX0_bruisesOf_0 : blkOf KX0_bruisesOf 0 = some kX0_bruisesOf_0 := rfl
theorem bX0_bruisesOf_22 : blkOf KX0_bruisesOf 22 = some kX0_bruisesOf_22 := rfl
theorem bX0_bruisesOf_23 : blkOf KX0_bruisesOf 23 = some kX0_bruisesOf_23 := rfl
def tX0_bruisesOf : pT := pM KX0_bruisesOf 2
theorem ct_X0_bruisesOf (l : Launch) : pCtr l yX0_bruisesOf wsX0_bruisesOf rmX0_bruisesOf 2 tX0_bruisesOf := ctr_of (by decide +kernel) rfl (List.forall_mem_cons.mpr ⟨sX0_bruisesOf_0 l, List.forall_mem_cons.mpr ⟨sX0_bruisesOf_22 l, List.forall_mem_cons.mpr ⟨sX0_bruisesOf_23 l, fun _ h => absurd h List.not_mem_nil⟩⟩⟩)
theorem dX0_setKind_0 : decode cX0_setKind 0 = .ok (.iload_n 1, 1) := by decide +kernel
theorem dX0_setKind_1 : decode cX0_setKind 1 = .ok (.ifCond .lt 19, 3) := by decide +kernel
theorem dX0_setKind_4 : decode cX0_setKind 4 = .ok (.iload_n 1, 1) := by decide +kernel
theorem dX0_setKind_5 : decode cX0_setKind 5 = .ok (.aload_n 0, 1) := by decide +kernel
theorem dX0_setKind_6 : decode cX0_setKind 6 = .ok (.getfield 21, 3) := by decide +kernel
theorem dX0_setKind_9 : decode cX0_setKind 9 = .ok (.arraylength, 1) := by decide +kernel
theorem dX0_setKind_10 : decode cX0_setKind 10 = .ok (.if_icmp .ge 10, 3) := by decide +kernel
theorem dX0_setKind_13 : decode cX0_setKind 13 = .ok (.aload_n 0, 1) := by decide +kernel
theorem dX0_setKind_14 : decode cX0_setKind 14 = .ok (.getfield 21, 3) := by decide +kernel
theorem dX0_setKind_17 : decode cX0_setKind 17 = .ok (.iload_n 1, 1) := by decide +kernel
theorem dX0_setKind_18 : decode cX0_setKind 18 = .ok (.iload_n 2, 1) := by decide +kernel
theorem dX0_setKind_19 : decode cX0_setKind 19 = .ok (.iastore, 1) := by decide +kernel
theorem dX0_setKind_20 : decode cX0_setKind 20 = .ok (.return_, 1) := by decide +kernel
def rmX0_setKind : Room := { frames := 0, cells := 0, slots := 0, locals := 0 }
abbrev wsX0_setKind : List Cond := .code yX0_setKind cX0_setKind 3 none :: gw_tbl
def kX0_setKind_20 : pProg := (20, 1, a_vret) :: []
def kX0_setKind_0 : pProg := (0, 1, a_iload 1) :: (1, 3, a_if_lt 20) :: (4, 1, a_iload 1) :: (5, 1, a_aload 0) :: (6, 3, a_getf 0 0 3) :: (9, 1, a_alen 4) :: (10, 3, a_icmp_ge 20) :: (13, 1, a_aload 0) :: (14, 3, a_getf 0 0 3) :: (17, 1, a_iload 1) :: (18, 1, a_iload 2) :: (19, 1, a_iast 4) :: (20, 0, a_fall 20) :: []
set_option maxRecDepth 100000 in
theorem sX0_setKind_20 (l : Launch) : AllS (pSnd l rmX0_setKind yX0_setKind.cls cX0_setKind wsX0_setKind 3 none) 20 kX0_setKind_20 :=
  alls _ (s_vret dX0_setKind_20) <|
  alls_nil _
set_option maxRecDepth 100000 in
theorem sX0_setKind_0 (l : Launch) : AllS (pSnd l rmX0_setKind yX0_setKind.cls cX0_setKind wsX0_setKind 3 none) 0 kX0_setKind_0 :=
  alls _ (s_iload_n rfl dX0_setKind_0) <|
  alls _ (s_if_lt (by decide) dX0_setKind_1) <|
  alls _ (s_iload_n rfl dX0_setKind_4) <|
  alls _ (s_aload_n rfl dX0_setKind_5) <|
  alls _ (s_getf (C := RX0) (T := TX0) (N := 8) rfl (in_c inX0) (by decide) (List.mem_cons_of_mem _ wd_86) rfl dX0_setKind_6) <|
  alls _ (s_alen dX0_setKind_9) <|
  alls _ (s_icmp_ge (by decide) dX0_setKind_10) <|
  alls _ (s_aload_n rfl dX0_setKind_13) <|
  alls _ (s_getf (C := RX0) (T := TX0) (N := 8) rfl (in_c inX0) (by decide) (List.mem_cons_of_mem _ wd_86) rfl dX0_setKind_14) <|
  alls _ (s_iload_n rfl dX0_setKind_17) <|
  alls _ (s_iload_n rfl dX0_setKind_18) <|
  alls _ (s_iast dX0_setKind_19) <|
  alls _ s_fall (alls_nil _)
def KX0_setKind : List (Nat × pProg) := [(0, kX0_setKind_0), (20, kX0_setKind_20)]
theorem bX0_setKind_0 : blkOf KX0_setKind 0 = some kX0_setKind_0 := rfl
theorem bX0_setKind_20 : blkOf KX0_setKind 20 = some kX0_setKind_20 := rfl
def tX0_setKind : pT := pM KX0_setKind 3
theorem ct_X0_setKind (l : Launch) : pCtr l yX0_setKind wsX0_setKind rmX0_setKind 3 tX0_setKind := ctr_of (by decide +kernel) rfl (List.forall_mem_cons.mpr ⟨sX0_setKind_0 l, List.forall_mem_cons.mpr ⟨sX0_setKind_20 l, fun _ h => absurd h List.not_mem_nil⟩⟩)
theorem dX0_setFigure_0 : decode cX0_setFigure 0 = .ok (.iload_n 1, 1) := by decide +kernel
theorem dX0_setFigure_1 : decode cX0_setFigure 1 = .ok (.ifCond .lt 19, 3) := by decide +kernel
theorem dX0_setFigure_4 : decode cX0_setFigure 4 = .ok (.iload_n 1, 1) := by decide +kernel
theorem dX0_setFigure_5 : decode cX0_setFigure 5 = .ok (.aload_n 0, 1) := by decide +kernel
theorem dX0_setFigure_6 : decode cX0_setFigure 6 = .ok (.getfield 24, 3) := by decide +kernel
theorem dX0_setFigure_9 : decode cX0_setFigure 9 = .ok (.arraylength, 1) := by decide +kernel
theorem dX0_setFigure_10 : decode cX0_setFigure 10 = .ok (.if_icmp .ge 10, 3) := by decide +kernel
theorem dX0_setFigure_13 : decode cX0_setFigure 13 = .ok (.aload_n 0, 1) := by decide +kernel
theorem dX0_setFigure_14 : decode cX0_setFigure 14 = .ok (.getfield 24, 3) := by decide +kernel
theorem dX0_setFigure_17 : decode cX0_setFigure 17 = .ok (.iload_n 1, 1) := by decide +kernel
theorem dX0_setFigure_18 : decode cX0_setFigure 18 = .ok (.iload_n 2, 1) := by decide +kernel
theorem dX0_setFigure_19 : decode cX0_setFigure 19 = .ok (.iastore, 1) := by decide +kernel
theorem dX0_setFigure_20 : decode cX0_setFigure 20 = .ok (.return_, 1) := by decide +kernel
def rmX0_setFigure : Room := { frames := 0, cells := 0, slots := 0, locals := 0 }
abbrev wsX0_setFigure : List Cond := .code yX0_setFigure cX0_setFigure 3 none :: gw_tbl
def kX0_setFigure_20 : pProg := (20, 1, a_vret) :: []
def kX0_setFigure_0 : pProg := (0, 1, a_iload 1) :: (1, 3, a_if_lt 20) :: (4, 1, a_iload 1) :: (5, 1, a_aload 0) :: (6, 3, a_getf 0 0 4) :: (9, 1, a_alen 5) :: (10, 3, a_icmp_ge 20) :: (13, 1, a_aload 0) :: (14, 3, a_getf 0 0 4) :: (17, 1, a_iload 1) :: (18, 1, a_iload 2) :: (19, 1, a_iast 5) :: (20, 0, a_fall 20) :: []
set_option maxRecDepth 100000 in
theorem sX0_setFigure_20 (l : Launch) : AllS (pSnd l rmX0_setFigure yX0_setFigure.cls cX0_setFigure wsX0_setFigure 3 none) 20 kX0_setFigure_20 :=
  alls _ (s_vret dX0_setFigure_20) <|
  alls_nil _
set_option maxRecDepth 100000 in
theorem sX0_setFigure_0 (l : Launch) : AllS (pSnd l rmX0_setFigure yX0_setFigure.cls cX0_setFigure wsX0_setFigure 3 none) 0 kX0_setFigure_0 :=
  alls _ (s_iload_n rfl dX0_setFigure_0) <|
  alls _ (s_if_lt (by decide) dX0_setFigure_1) <|
  alls _ (s_iload_n rfl dX0_setFigure_4) <|
  alls _ (s_aload_n rfl dX0_setFigure_5) <|
  alls _ (s_getf (C := RX0) (T := TX0) (N := 8) rfl (in_c inX0) (by decide) (List.mem_cons_of_mem _ wd_87) rfl dX0_setFigure_6) <|
  alls _ (s_alen dX0_setFigure_9) <|
  alls _ (s_icmp_ge (by decide) dX0_setFigure_10) <|
  alls _ (s_aload_n rfl dX0_setFigure_13) <|
  alls _ (s_getf (C := RX0) (T := TX0) (N := 8) rfl (in_c inX0) (by decide) (List.mem_cons_of_mem _ wd_87) rfl dX0_setFigure_14) <|
  alls _ (s_iload_n rfl dX0_setFigure_17) <|
  alls _ (s_iload_n rfl dX0_setFigure_18) <|
  alls _ (s_iast dX0_setFigure_19) <|
  alls _ s_fall (alls_nil _)
def KX0_setFigure : List (Nat × pProg) := [(0, kX0_setFigure_0), (20, kX0_setFigure_20)]
theorem bX0_setFigure_0 : blkOf KX0_setFigure 0 = some kX0_setFigure_0 := rfl
theorem bX0_setFigure_20 : blkOf KX0_setFigure 20 = some kX0_setFigure_20 := rfl
def tX0_setFigure : pT := pM KX0_setFigure 3
theorem ct_X0_setFigure (l : Launch) : pCtr l yX0_setFigure wsX0_setFigure rmX0_setFigure 3 tX0_setFigure := ctr_of (by decide +kernel) rfl (List.forall_mem_cons.mpr ⟨sX0_setFigure_0 l, List.forall_mem_cons.mpr ⟨sX0_setFigure_20 l, fun _ h => absurd h List.not_mem_nil⟩⟩)
theorem dX0_setBruises_0 : decode cX0_setBruises 0 = .ok (.iload_n 1, 1) := by decide +kernel
theorem dX0_setBruises_1 : decode cX0_setBruises 1 = .ok (.ifCond .lt 24, 3) := by decide +kernel
theorem dX0_setBruises_4 : decode cX0_setBruises 4 = .ok (.iload_n 1, 1) := by decide +kernel
theorem dX0_setBruises_5 : decode cX0_setBruises 5 = .ok (.aload_n 0, 1) := by decide +kernel
theorem dX0_setBruises_6 : decode cX0_setBruises 6 = .ok (.getfield 27, 3) := by decide +kernel
theorem dX0_setBruises_9 : decode cX0_setBruises 9 = .ok (.arraylength, 1) := by decide +kernel
theorem dX0_setBruises_10 : decode cX0_setBruises 10 = .ok (.if_icmp .ge 15, 3) := by decide +kernel
theorem dX0_setBruises_13 : decode cX0_setBruises 13 = .ok (.aload_n 0, 1) := by decide +kernel
theorem dX0_setBruises_14 : decode cX0_setBruises 14 = .ok (.getfield 27, 3) := by decide +kernel
theorem dX0_setBruises_17 : decode cX0_setBruises 17 = .ok (.iload_n 1, 1) := by decide +kernel
theorem dX0_setBruises_18 : decode cX0_setBruises 18 = .ok (.bipush 99, 2) := by decide +kernel
theorem dX0_setBruises_20 : decode cX0_setBruises 20 = .ok (.iload_n 2, 1) := by decide +kernel
theorem dX0_setBruises_21 : decode cX0_setBruises 21 = .ok (.invokestatic 41, 3) := by decide +kernel
theorem dX0_setBruises_24 : decode cX0_setBruises 24 = .ok (.iastore, 1) := by decide +kernel
theorem dX0_setBruises_25 : decode cX0_setBruises 25 = .ok (.return_, 1) := by decide +kernel
def rmX0_setBruises : Room := { frames := 1, cells := 0, slots := 0, locals := 21 }
abbrev wsX0_setBruises : List Cond := .code yX0_setBruises cX0_setBruises 3 none :: gw_tbl
def kX0_setBruises_25 : pProg := (25, 1, a_vret) :: []
def kX0_setBruises_0 : pProg := (0, 1, a_iload 1) :: (1, 3, a_if_lt 25) :: (4, 1, a_iload 1) :: (5, 1, a_aload 0) :: (6, 3, a_getf 0 0 5) :: (9, 1, a_alen 6) :: (10, 3, a_icmp_ge 25) :: (13, 1, a_aload 0) :: (14, 3, a_getf 0 0 5) :: (17, 1, a_iload 1) :: (18, 2, a_iconst 99) :: (20, 1, a_iload 2) :: (21, 3, a_mmin) :: (24, 1, a_iast 6) :: (25, 0, a_fall 25) :: []
set_option maxRecDepth 100000 in
theorem sX0_setBruises_25 (l : Launch) : AllS (pSnd l rmX0_setBruises yX0_setBruises.cls cX0_setBruises wsX0_setBruises 3 none) 25 kX0_setBruises_25 :=
  alls _ (s_vret dX0_setBruises_25) <|
  alls_nil _
set_option maxRecDepth 100000 in
theorem sX0_setBruises_0 (l : Launch) : AllS (pSnd l rmX0_setBruises yX0_setBruises.cls cX0_setBruises wsX0_setBruises 3 none) 0 kX0_setBruises_0 :=
  alls _ (s_iload_n rfl dX0_setBruises_0) <|
  alls _ (s_if_lt (by decide) dX0_setBruises_1) <|
  alls _ (s_iload_n rfl dX0_setBruises_4) <|
  alls _ (s_aload_n rfl dX0_setBruises_5) <|
  alls _ (s_getf (C := RX0) (T := TX0) (N := 8) rfl (in_c inX0) (by decide) (List.mem_cons_of_mem _ wd_88) rfl dX0_setBruises_6) <|
  alls _ (s_alen dX0_setBruises_9) <|
  alls _ (s_icmp_ge (by decide) dX0_setBruises_10) <|
  alls _ (s_aload_n rfl dX0_setBruises_13) <|
  alls _ (s_getf (C := RX0) (T := TX0) (N := 8) rfl (in_c inX0) (by decide) (List.mem_cons_of_mem _ wd_88) rfl dX0_setBruises_14) <|
  alls _ (s_iload_n rfl dX0_setBruises_17) <|
  alls _ (s_bipush (by decide) dX0_setBruises_18) <|
  alls _ (s_iload_n rfl dX0_setBruises_20) <|
  alls _ (s_mmin (List.mem_cons_of_mem _ wd_259) (List.mem_cons_of_mem _ wd_260) (List.mem_cons_of_mem _ wd_64) (List.mem_cons_of_mem _ wd_261) ⟨Nat.le_of_ble_eq_true rfl, Nat.le_of_ble_eq_true rfl⟩ dX0_setBruises_21) <|
  alls _ (s_iast dX0_setBruises_24) <|
  alls _ s_fall (alls_nil _)
def KX0_setBruises : List (Nat × pProg) := [(0, kX0_setBruises_0), (25, kX0_setBruises_25)]
theorem bX0_setBruises_0 : blkOf KX0_setBruises 0 = some kX0_setBruises_0 := rfl
theorem bX0_setBruises_25 : blkOf KX0_setBruises 25 = some kX0_setBruises_25 := rfl
def tX0_setBruises : pT := pM KX0_setBruises 3
theorem ct_X0_setBruises (l : Launch) : pCtr l yX0_setBruises wsX0_setBruises rmX0_setBruises 3 tX0_setBruises := ctr_of (by decide +kernel) rfl (List.forall_mem_cons.mpr ⟨sX0_setBruises_0 l, List.forall_mem_cons.mpr ⟨sX0_setBruises_25 l, fun _ h => absurd h List.not_mem_nil⟩⟩)
theorem dX0_changePlaces_0 : decode cX0_changePlaces 0 = .ok (.aload_n 0, 1) := by decide +kernel
theorem dX0_changePlaces_1 : decode cX0_changePlaces 1 = .ok (.iload_n 1, 1) := by decide +kernel
theorem dX0_changePlaces_2 : decode cX0_changePlaces 2 = .ok (.invokevirtual 50, 3) := by decide +kernel
theorem dX0_changePlaces_5 : decode cX0_changePlaces 5 = .ok (.istore_n 3, 1) := by decide +kernel
theorem dX0_changePlaces_6 : decode cX0_changePlaces 6 = .ok (.aload_n 0, 1) := by decide +kernel
theorem dX0_changePlaces_7 : decode cX0_changePlaces 7 = .ok (.iload_n 1, 1) := by decide +kernel
theorem dX0_changePlaces_8 : decode cX0_changePlaces 8 = .ok (.invokevirtual 54, 3) := by decide +kernel
theorem dX0_changePlaces_11 : decode cX0_changePlaces 11 = .ok (.istore 4, 2) := by decide +kernel
theorem dX0_changePlaces_13 : decode cX0_changePlaces 13 = .ok (.aload_n 0, 1) := by decide +kernel
theorem dX0_changePlaces_14 : decode cX0_changePlaces 14 = .ok (.iload_n 1, 1) := by decide +kernel
theorem dX0_changePlaces_15 : decode cX0_changePlaces 15 = .ok (.invokevirtual 57, 3) := by decide +kernel
theorem dX0_changePlaces_18 : decode cX0_changePlaces 18 = .ok (.istore 5, 2) := by decide +kernel
theorem dX0_changePlaces_20 : decode cX0_changePlaces 20 = .ok (.aload_n 0, 1) := by decide +kernel
theorem dX0_changePlaces_21 : decode cX0_changePlaces 21 = .ok (.iload_n 1, 1) := by decide +kernel
theorem dX0_changePlaces_22 : decode cX0_changePlaces 22 = .ok (.aload_n 0, 1) := by decide +kernel
theorem dX0_changePlaces_23 : decode cX0_changePlaces 23 = .ok (.iload_n 2, 1) := by decide +kernel
theorem dX0_changePlaces_24 : decode cX0_changePlaces 24 = .ok (.invokevirtual 50, 3) := by decide +kernel
theorem dX0_changePlaces_27 : decode cX0_changePlaces 27 = .ok (.invokevirtual 60, 3) := by decide +kernel
theorem dX0_changePlaces_30 : decode cX0_changePlaces 30 = .ok (.aload_n 0, 1) := by decide +kernel
theorem dX0_changePlaces_31 : decode cX0_changePlaces 31 = .ok (.iload_n 1, 1) := by decide +kernel
theorem dX0_changePlaces_32 : decode cX0_changePlaces 32 = .ok (.aload_n 0, 1) := by decide +kernel
theorem dX0_changePlaces_33 : decode cX0_changePlaces 33 = .ok (.iload_n 2, 1) := by decide +kernel
theorem dX0_changePlaces_34 : decode cX0_changePlaces 34 = .ok (.invokevirtual 54, 3) := by decide +kernel
theorem dX0_changePlaces_37 : decode cX0_changePlaces 37 = .ok (.invokevirtual 64, 3) := by decide +kernel
theorem dX0_changePlaces_40 : decode cX0_changePlaces 40 = .ok (.aload_n 0, 1) := by decide +kernel
theorem dX0_changePlaces_41 : decode cX0_changePlaces 41 = .ok (.iload_n 1, 1) := by decide +kernel
theorem dX0_changePlaces_42 : decode cX0_changePlaces 42 = .ok (.aload_n 0, 1) := by decide +kernel
theorem dX0_changePlaces_43 : decode cX0_changePlaces 43 = .ok (.iload_n 2, 1) := by decide +kernel
theorem dX0_changePlaces_44 : decode cX0_changePlaces 44 = .ok (.invokevirtual 57, 3) := by decide +kernel
theorem dX0_changePlaces_47 : decode cX0_changePlaces 47 = .ok (.invokevirtual 67, 3) := by decide +kernel
theorem dX0_changePlaces_50 : decode cX0_changePlaces 50 = .ok (.aload_n 0, 1) := by decide +kernel
theorem dX0_changePlaces_51 : decode cX0_changePlaces 51 = .ok (.iload_n 2, 1) := by decide +kernel
theorem dX0_changePlaces_52 : decode cX0_changePlaces 52 = .ok (.iload_n 3, 1) := by decide +kernel
theorem dX0_changePlaces_53 : decode cX0_changePlaces 53 = .ok (.invokevirtual 60, 3) := by decide +kernel
theorem dX0_changePlaces_56 : decode cX0_changePlaces 56 = .ok (.aload_n 0, 1) := by decide +kernel
theorem dX0_changePlaces_57 : decode cX0_changePlaces 57 = .ok (.iload_n 2, 1) := by decide +kernel
theorem dX0_changePlaces_58 : decode cX0_changePlaces 58 = .ok (.iload 4, 2) := by decide +kernel
theorem dX0_changePlaces_60 : decode cX0_changePlaces 60 = .ok (.invokevirtual 64, 3) := by decide +kernel
theorem dX0_changePlaces_63 : decode cX0_changePlaces 63 = .ok (.aload_n 0, 1) := by decide +kernel
theorem dX0_changePlaces_64 : decode cX0_changePlaces 64 = .ok (.iload_n 2, 1) := by decide +kernel
theorem dX0_changePlaces_65 : decode cX0_changePlaces 65 = .ok (.iload 5, 2) := by decide +kernel
theorem dX0_changePlaces_67 : decode cX0_changePlaces 67 = .ok (.invokevirtual 67, 3) := by decide +kernel
theorem dX0_changePlaces_70 : decode cX0_changePlaces 70 = .ok (.return_, 1) := by decide +kernel
def rmX0_changePlaces : Room := { frames := 2, cells := 0, slots := 0, locals := 43 }
abbrev wsX0_changePlaces : List Cond := .code yX0_changePlaces cX0_changePlaces 6 none :: gw_tbl
def kX0_changePlaces_0 : pProg := (0, 1, a_aload 0) :: (1, 1, a_iload 1) :: (2, 3, a_callv 2 0 [0, 1, 2, 3, 4, 5, 6] tX0_kindOf) :: (5, 1, a_istore 3) :: (6, 1, a_aload 0) :: (7, 1, a_iload 1) :: (8, 3, a_callv 2 0 [0, 1, 2, 3, 4, 5, 6] tX0_figureOf) :: (11, 2, a_istore 4) :: (13, 1, a_aload 0) :: (14, 1, a_iload 1) :: (15, 3, a_callv 2 0 [0, 1, 2, 3, 4, 5, 6] tX0_bruisesOf) :: (18, 2, a_istore 5) :: (20, 1, a_aload 0) :: (21, 1, a_iload 1) :: (22, 1, a_aload 0) :: (23, 1, a_iload 2) :: (24, 3, a_callv 2 0 [0, 1, 2, 3, 4, 5, 6] tX0_kindOf) :: (27, 3, a_callv 3 0 [0, 1, 2, 3, 4, 5, 6] tX0_setKind) :: (30, 1, a_aload 0) :: (31, 1, a_iload 1) :: (32, 1, a_aload 0) :: (33, 1, a_iload 2) :: (34, 3, a_callv 2 0 [0, 1, 2, 3, 4, 5, 6] tX0_figureOf) :: (37, 3, a_callv 3 0 [0, 1, 2, 3, 4, 5, 6] tX0_setFigure) :: (40, 1, a_aload 0) :: (41, 1, a_iload 1) :: (42, 1, a_aload 0) :: (43, 1, a_iload 2) :: (44, 3, a_callv 2 0 [0, 1, 2, 3, 4, 5, 6] tX0_bruisesOf) :: (47, 3, a_callv 3 0 [0, 1, 2, 3, 4, 5, 6] tX0_setBruises) :: (50, 1, a_aload 0) :: (51, 1, a_iload 2) :: (52, 1, a_iload 3) :: (53, 3, a_callv 3 0 [0, 1, 2, 3, 4, 5, 6] tX0_setKind) :: (56, 1, a_aload 0) :: (57, 1, a_iload 2) :: (58, 2, a_iload 4) :: (60, 3, a_callv 3 0 [0, 1, 2, 3, 4, 5, 6] tX0_setFigure) :: (63, 1, a_aload 0) :: (64, 1, a_iload 2) :: (65, 2, a_iload 5) :: (67, 3, a_callv 3 0 [0, 1, 2, 3, 4, 5, 6] tX0_setBruises) :: (70, 1, a_vret) :: []
set_option maxRecDepth 100000 in
theorem sX0_changePlaces_0 (l : Launch) : AllS (pSnd l rmX0_changePlaces yX0_changePlaces.cls cX0_changePlaces wsX0_changePlaces 6 none) 0 kX0_changePlaces_0 :=
  alls _ (s_aload_n rfl dX0_changePlaces_0) <|
  alls _ (s_iload_n rfl dX0_changePlaces_1) <|
  alls _ (s_callv (ct_X0_kindOf l) rfl rfl rfl (gdV wd_275 wd_276 wd_277 wd_61 wd_278) rfl rfl (by decide +kernel) ⟨Nat.le_of_ble_eq_true rfl, Nat.le_of_ble_eq_true rfl⟩ dX0_changePlaces_2) <|
  alls _ (s_istore_n rfl dX0_changePlaces_5) <|
  alls _ (s_aload_n rfl dX0_changePlaces_6) <|
  alls _ (s_iload_n rfl dX0_changePlaces_7) <|
  alls _ (s_callv (ct_X0_figureOf l) rfl rfl rfl (gdV wd_279 wd_280 wd_281 wd_61 wd_282) rfl rfl (by decide +kernel) ⟨Nat.le_of_ble_eq_true rfl, Nat.le_of_ble_eq_true rfl⟩ dX0_changePlaces_8) <|
  alls _ (s_istore dX0_changePlaces_11) <|
  alls _ (s_aload_n rfl dX0_changePlaces_13) <|
  alls _ (s_iload_n rfl dX0_changePlaces_14) <|
  alls _ (s_callv (ct_X0_bruisesOf l) rfl rfl rfl (gdV wd_283 wd_284 wd_285 wd_61 wd_286) rfl rfl (by decide +kernel) ⟨Nat.le_of_ble_eq_true rfl, Nat.le_of_ble_eq_true rfl⟩ dX0_changePlaces_15) <|
  alls _ (s_istore dX0_changePlaces_18) <|
  alls _ (s_aload_n rfl dX0_changePlaces_20) <|
  alls _ (s_iload_n rfl dX0_changePlaces_21) <|
  alls _ (s_aload_n rfl dX0_changePlaces_22) <|
  alls _ (s_iload_n rfl dX0_changePlaces_23) <|
  alls _ (s_callv (ct_X0_kindOf l) rfl rfl rfl (gdV wd_275 wd_276 wd_277 wd_61 wd_278) rfl rfl (by decide +kernel) ⟨Nat.le_of_ble_eq_true rfl, Nat.le_of_ble_eq_true rfl⟩ dX0_changePlaces_24) <|
  alls _ (s_callv (ct_X0_setKind l) rfl rfl rfl (gdV wd_287 wd_248 wd_249 wd_61 wd_250) rfl rfl (by decide +kernel) ⟨Nat.le_of_ble_eq_true rfl, Nat.le_of_ble_eq_true rfl⟩ dX0_changePlaces_27) <|
  alls _ (s_aload_n rfl dX0_changePlaces_30) <|
  alls _ (s_iload_n rfl dX0_changePlaces_31) <|
  alls _ (s_aload_n rfl dX0_changePlaces_32) <|
  alls _ (s_iload_n rfl dX0_changePlaces_33) <|
  alls _ (s_callv (ct_X0_figureOf l) rfl rfl rfl (gdV wd_279 wd_280 wd_281 wd_61 wd_282) rfl rfl (by decide +kernel) ⟨Nat.le_of_ble_eq_true rfl, Nat.le_of_ble_eq_true rfl⟩ dX0_changePlaces_34) <|
  alls _ (s_callv (ct_X0_setFigure l) rfl rfl rfl (gdV wd_288 wd_252 wd_253 wd_61 wd_254) rfl rfl (by decide +kernel) ⟨Nat.le_of_ble_eq_true rfl, Nat.le_of_ble_eq_true rfl⟩ dX0_changePlaces_37) <|
  alls _ (s_aload_n rfl dX0_changePlaces_40) <|
  alls _ (s_iload_n rfl dX0_changePlaces_41) <|
  alls _ (s_aload_n rfl dX0_changePlaces_42) <|
  alls _ (s_iload_n rfl dX0_changePlaces_43) <|
  alls _ (s_callv (ct_X0_bruisesOf l) rfl rfl rfl (gdV wd_283 wd_284 wd_285 wd_61 wd_286) rfl rfl (by decide +kernel) ⟨Nat.le_of_ble_eq_true rfl, Nat.le_of_ble_eq_true rfl⟩ dX0_changePlaces_44) <|
  alls _ (s_callv (ct_X0_setBruises l) rfl rfl rfl (gdV wd_289 wd_290 wd_291 wd_61 wd_292) rfl rfl (by decide +kernel) ⟨Nat.le_of_ble_eq_true rfl, Nat.le_of_ble_eq_true rfl⟩ dX0_changePlaces_47) <|
  alls _ (s_aload_n rfl dX0_changePlaces_50) <|
  alls _ (s_iload_n rfl dX0_changePlaces_51) <|
  alls _ (s_iload_n rfl dX0_changePlaces_52) <|
  alls _ (s_callv (ct_X0_setKind l) rfl rfl rfl (gdV wd_287 wd_248 wd_249 wd_61 wd_250) rfl rfl (by decide +kernel) ⟨Nat.le_of_ble_eq_true rfl, Nat.le_of_ble_eq_true rfl⟩ dX0_changePlaces_53) <|
  alls _ (s_aload_n rfl dX0_changePlaces_56) <|
  alls _ (s_iload_n rfl dX0_changePlaces_57) <|
  alls _ (s_iload dX0_changePlaces_58) <|
  alls _ (s_callv (ct_X0_setFigure l) rfl rfl rfl (gdV wd_288 wd_252 wd_253 wd_61 wd_254) rfl rfl (by decide +kernel) ⟨Nat.le_of_ble_eq_true rfl, Nat.le_of_ble_eq_true rfl⟩ dX0_changePlaces_60) <|
  alls _ (s_aload_n rfl dX0_changePlaces_63) <|
  alls _ (s_iload_n rfl dX0_changePlaces_64) <|
  alls _ (s_iload dX0_changePlaces_65) <|
  alls _ (s_callv (ct_X0_setBruises l) rfl rfl rfl (gdV wd_289 wd_290 wd_291 wd_61 wd_292) rfl rfl (by decide +kernel) ⟨Nat.le_of_ble_eq_true rfl, Nat.le_of_ble_eq_true rfl⟩ dX0_changePlaces_67) <|
  alls _ (s_vret dX0_changePlaces_70) <|
  alls_nil _
def KX0_changePlaces : List (Nat × pProg) := [(0, kX0_changePlaces_0)]
theorem bX0_changePlaces_0 : blkOf KX0_changePlaces 0 = some kX0_changePlaces_0 := rfl
def tX0_changePlaces : pT := pM KX0_changePlaces 6
theorem ct_X0_changePlaces (l : Launch) : pCtr l yX0_changePlaces wsX0_changePlaces rmX0_changePlaces 3 tX0_changePlaces := ctr_of (by decide +kernel) rfl (List.forall_mem_cons.mpr ⟨sX0_changePlaces_0 l, fun _ h => absurd h List.not_mem_nil⟩)
theorem dX0_toSayOf_0 : decode cX0_toSayOf 0 = .ok (.iload_n 1, 1) := by decide +kernel
theorem dX0_toSayOf_1 : decode cX0_toSayOf 1 = .ok (.ifCond .lt 21, 3) := by decide +kernel
theorem dX0_toSayOf_4 : decode cX0_toSayOf 4 = .ok (.iload_n 1, 1) := by decide +kernel
theorem dX0_toSayOf_5 : decode cX0_toSayOf 5 = .ok (.aload_n 0, 1) := by decide +kernel
theorem dX0_toSayOf_6 : decode cX0_toSayOf 6 = .ok (.getfield 18, 3) := by decide +kernel
theorem dX0_toSayOf_9 : decode cX0_toSayOf 9 = .ok (.arraylength, 1) := by decide +kernel
theorem dX0_toSayOf_10 : decode cX0_toSayOf 10 = .ok (.if_icmp .ge 12, 3) := by decide +kernel
theorem dX0_toSayOf_13 : decode cX0_toSayOf 13 = .ok (.aload_n 0, 1) := by decide +kernel
theorem dX0_toSayOf_14 : decode cX0_toSayOf 14 = .ok (.getfield 18, 3) := by decide +kernel
theorem dX0_toSayOf_17 : decode cX0_toSayOf 17 = .ok (.iload_n 1, 1) := by decide +kernel
theorem dX0_toSayOf_18 : decode cX0_toSayOf 18 = .ok (.iaload, 1) := by decide +kernel
theorem dX0_toSayOf_19 : decode cX0_toSayOf 19 = .ok (.goto 4, 3) := by decide +kernel
theorem dX0_toSayOf_22 : decode cX0_toSayOf 22 = .ok (.iconst 0, 1) := by decide +kernel
theorem dX0_toSayOf_23 : decode cX0_toSayOf 23 = .ok (.ireturn, 1) := by decide +kernel
def rmX0_toSayOf : Room := { frames := 0, cells := 0, slots := 0, locals := 0 }
abbrev wsX0_toSayOf : List Cond := .code yX0_toSayOf cX0_toSayOf 2 (some .int) :: gw_tbl
def kX0_toSayOf_23 : pProg := (23, 1, a_iret) :: []
def kX0_toSayOf_22 : pProg := (22, 1, a_iconst 0) :: (23, 0, a_fall 23) :: []
def kX0_toSayOf_0 : pProg := (0, 1, a_iload 1) :: (1, 3, a_if_lt 22) :: (4, 1, a_iload 1) :: (5, 1, a_aload 0) :: (6, 3, a_getf 0 0 2) :: (9, 1, a_alen 3) :: (10, 3, a_icmp_ge 22) :: (13, 1, a_aload 0) :: (14, 3, a_getf 0 0 2) :: (17, 1, a_iload 1) :: (18, 1, a_iald 3) :: (19, 3, a_goto 23) :: []
set_option maxRecDepth 100000 in
theorem sX0_toSayOf_23 (l : Launch) : AllS (pSnd l rmX0_toSayOf yX0_toSayOf.cls cX0_toSayOf wsX0_toSayOf 2 (some .int)) 23 kX0_toSayOf_23 :=
  alls _ (s_iret dX0_toSayOf_23) <|
  alls_nil _
set_option maxRecDepth 100000 in
theorem sX0_toSayOf_22 (l : Launch) : AllS (pSnd l rmX0_toSayOf yX0_toSayOf.cls cX0_toSayOf wsX0_toSayOf 2 (some .int)) 22 kX0_toSayOf_22 :=
  alls _ (s_iconst dX0_toSayOf_22) <|
  alls _ s_fall (alls_nil _)
set_option maxRecDepth 100000 in
theorem sX0_toSayOf_0 (l : Launch) : AllS (pSnd l rmX0_toSayOf yX0_toSayOf.cls cX0_toSayOf wsX0_toSayOf 2 (some .int)) 0 kX0_toSayOf_0 :=
  alls _ (s_iload_n rfl dX0_toSayOf_0) <|
  alls _ (s_if_lt (by decide) dX0_toSayOf_1) <|
  alls _ (s_iload_n rfl dX0_toSayOf_4) <|
  alls _ (s_aload_n rfl dX0_toSayOf_5) <|
  alls _ (s_getf (C := RX0) (T := TX0) (N := 8) rfl (in_c inX0) (by decide) (List.mem_cons_of_mem _ wd_85) rfl dX0_toSayOf_6) <|
  alls _ (s_alen dX0_toSayOf_9) <|
  alls _ (s_icmp_ge (by decide) dX0_toSayOf_10) <|
  alls _ (s_aload_n rfl dX0_toSayOf_13) <|
  alls _ (s_getf (C := RX0) (T := TX0) (N := 8) rfl (in_c inX0) (by decide) (List.mem_cons_of_mem _ wd_85) rfl dX0_toSayOf_14) <|
  alls _ (s_iload_n rfl dX0_toSayOf_17) <|
  alls _ (s_iald dX0_toSayOf_18) <|
  alls _ (s_goto (by decide) dX0_toSayOf_19) <|
  alls_nil _
def KX0_toSayOf : List (Nat × pProg) := [(0, kX0_toSayOf_0), (22, kX0_toSayOf_22), (23, kX0_toSayOf_23)]
theorem bX0_toSayOf_0 : blkOf KX0_toSayOf 0 = some kX0_toSayOf_0 := rfl
theorem bX0_toSayOf_22 : blkOf KX0_toSayOf 22 = some kX0_toSayOf_22 := rfl
theorem bX0_toSayOf_23 : blkOf KX0_toSayOf 23 = some kX0_toSayOf_23 := rfl
def tX0_toSayOf : pT := pM KX0_toSayOf 2
theorem ct_X0_toSayOf (l : Launch) : pCtr l yX0_toSayOf wsX0_toSayOf rmX0_toSayOf 2 tX0_toSayOf := ctr_of (by decide +kernel) rfl (List.forall_mem_cons.mpr ⟨sX0_toSayOf_0 l, List.forall_mem_cons.mpr ⟨sX0_toSayOf_22 l, List.forall_mem_cons.mpr ⟨sX0_toSayOf_23 l, fun _ h => absurd h List.not_mem_nil⟩⟩⟩)
theorem dX0_setToSay_0 : decode cX0_setToSay 0 = .ok (.iload_n 1, 1) := by decide +kernel
theorem dX0_setToSay_1 : decode cX0_setToSay 1 = .ok (.ifCond .lt 28, 3) := by decide +kernel
theorem dX0_setToSay_4 : decode cX0_setToSay 4 = .ok (.iload_n 1, 1) := by decide +kernel
theorem dX0_setToSay_5 : decode cX0_setToSay 5 = .ok (.aload_n 0, 1) := by decide +kernel
theorem dX0_setToSay_6 : decode cX0_setToSay 6 = .ok (.getfield 18, 3) := by decide +kernel
theorem dX0_setToSay_9 : decode cX0_setToSay 9 = .ok (.arraylength, 1) := by decide +kernel
theorem dX0_setToSay_10 : decode cX0_setToSay 10 = .ok (.if_icmp .ge 19, 3) := by decide +kernel
theorem dX0_setToSay_13 : decode cX0_setToSay 13 = .ok (.aload_n 0, 1) := by decide +kernel
theorem dX0_setToSay_14 : decode cX0_setToSay 14 = .ok (.getfield 18, 3) := by decide +kernel
theorem dX0_setToSay_17 : decode cX0_setToSay 17 = .ok (.iload_n 1, 1) := by decide +kernel
theorem dX0_setToSay_18 : decode cX0_setToSay 18 = .ok (.iconst 0, 1) := by decide +kernel
theorem dX0_setToSay_19 : decode cX0_setToSay 19 = .ok (.bipush 99, 2) := by decide +kernel
theorem dX0_setToSay_21 : decode cX0_setToSay 21 = .ok (.iload_n 2, 1) := by decide +kernel
theorem dX0_setToSay_22 : decode cX0_setToSay 22 = .ok (.invokestatic 41, 3) := by decide +kernel
theorem dX0_setToSay_25 : decode cX0_setToSay 25 = .ok (.invokestatic 47, 3) := by decide +kernel
theorem dX0_setToSay_28 : decode cX0_setToSay 28 = .ok (.iastore, 1) := by decide +kernel
theorem dX0_setToSay_29 : decode cX0_setToSay 29 = .ok (.return_, 1) := by decide +kernel
def rmX0_setToSay : Room := { frames := 1, cells := 0, slots := 0, locals := 21 }
abbrev wsX0_setToSay : List Cond := .code yX0_setToSay cX0_setToSay 3 none :: gw_tbl
def kX0_setToSay_29 : pProg := (29, 1, a_vret) :: []
def kX0_setToSay_0 : pProg := (0, 1, a_iload 1) :: (1, 3, a_if_lt 29) :: (4, 1, a_iload 1) :: (5, 1, a_aload 0) :: (6, 3, a_getf 0 0 2) :: (9, 1, a_alen 3) :: (10, 3, a_icmp_ge 29) :: (13, 1, a_aload 0) :: (14, 3, a_getf 0 0 2) :: (17, 1, a_iload 1) :: (18, 1, a_iconst 0) :: (19, 2, a_iconst 99) :: (21, 1, a_iload 2) :: (22, 3, a_mmin) :: (25, 3, a_mmax) :: (28, 1, a_iast 3) :: (29, 0, a_fall 29) :: []
set_option maxRecDepth 100000 in
theorem sX0_setToSay_29 (l : Launch) : AllS (pSnd l rmX0_setToSay yX0_setToSay.cls cX0_setToSay wsX0_setToSay 3 none) 29 kX0_setToSay_29 :=
  alls _ (s_vret dX0_setToSay_29) <|
  alls_nil _
set_option maxRecDepth 100000 in
theorem sX0_setToSay_0 (l : Launch) : AllS (pSnd l rmX0_setToSay yX0_setToSay.cls cX0_setToSay wsX0_setToSay 3 none) 0 kX0_setToSay_0 :=
  alls _ (s_iload_n rfl dX0_setToSay_0) <|
  alls _ (s_if_lt (by decide) dX0_setToSay_1) <|
  alls _ (s_iload_n rfl dX0_setToSay_4) <|
  alls _ (s_aload_n rfl dX0_setToSay_5) <|
  alls _ (s_getf (C := RX0) (T := TX0) (N := 8) rfl (in_c inX0) (by decide) (List.mem_cons_of_mem _ wd_85) rfl dX0_setToSay_6) <|
  alls _ (s_alen dX0_setToSay_9) <|
  alls _ (s_icmp_ge (by decide) dX0_setToSay_10) <|
  alls _ (s_aload_n rfl dX0_setToSay_13) <|
  alls _ (s_getf (C := RX0) (T := TX0) (N := 8) rfl (in_c inX0) (by decide) (List.mem_cons_of_mem _ wd_85) rfl dX0_setToSay_14) <|
  alls _ (s_iload_n rfl dX0_setToSay_17) <|
  alls _ (s_iconst dX0_setToSay_18) <|
  alls _ (s_bipush (by decide) dX0_setToSay_19) <|
  alls _ (s_iload_n rfl dX0_setToSay_21) <|
  alls _ (s_mmin (List.mem_cons_of_mem _ wd_259) (List.mem_cons_of_mem _ wd_260) (List.mem_cons_of_mem _ wd_64) (List.mem_cons_of_mem _ wd_261) ⟨Nat.le_of_ble_eq_true rfl, Nat.le_of_ble_eq_true rfl⟩ dX0_setToSay_22) <|
  alls _ (s_mmax (List.mem_cons_of_mem _ wd_270) (List.mem_cons_of_mem _ wd_134) (List.mem_cons_of_mem _ wd_64) (List.mem_cons_of_mem _ wd_135) ⟨Nat.le_of_ble_eq_true rfl, Nat.le_of_ble_eq_true rfl⟩ dX0_setToSay_25) <|
  alls _ (s_iast dX0_setToSay_28) <|
  alls _ s_fall (alls_nil _)
def KX0_setToSay : List (Nat × pProg) := [(0, kX0_setToSay_0), (29, kX0_setToSay_29)]
theorem bX0_setToSay_0 : blkOf KX0_setToSay 0 = some kX0_setToSay_0 := rfl
theorem bX0_setToSay_29 : blkOf KX0_setToSay 29 = some kX0_setToSay_29 := rfl
def tX0_setToSay : pT := pM KX0_setToSay 3
theorem ct_X0_setToSay (l : Launch) : pCtr l yX0_setToSay wsX0_setToSay rmX0_setToSay 3 tX0_setToSay := ctr_of (by decide +kernel) rfl (List.forall_mem_cons.mpr ⟨sX0_setToSay_0 l, List.forall_mem_cons.mpr ⟨sX0_setToSay_29 l, fun _ h => absurd h List.not_mem_nil⟩⟩)
theorem dX0_miners_0 : decode cX0_miners 0 = .ok (.iconst 2, 1) := by decide +kernel
theorem dX0_miners_1 : decode cX0_miners 1 = .ok (.aload_n 0, 1) := by decide +kernel
theorem dX0_miners_2 : decode cX0_miners 2 = .ok (.getfield 34, 3) := by decide +kernel
theorem dX0_miners_5 : decode cX0_miners 5 = .ok (.imul, 1) := by decide +kernel
theorem dX0_miners_6 : decode cX0_miners 6 = .ok (.ireturn, 1) := by decide +kernel
def rmX0_miners : Room := { frames := 0, cells := 0, slots := 0, locals := 0 }
abbrev wsX0_miners : List Cond := .code yX0_miners cX0_miners 1 (some .int) :: gw_tbl
def kX0_miners_0 : pProg := (0, 1, a_iconst 2) :: (1, 1, a_aload 0) :: (2, 3, a_getf 0 0 6) :: (5, 1, a_imul) :: (6, 1, a_iret) :: []
set_option maxRecDepth 100000 in
theorem sX0_miners_0 (l : Launch) : AllS (pSnd l rmX0_miners yX0_miners.cls cX0_miners wsX0_miners 1 (some .int)) 0 kX0_miners_0 :=
  alls _ (s_iconst dX0_miners_0) <|
  alls _ (s_aload_n rfl dX0_miners_1) <|
  alls _ (s_getf (C := RX0) (T := TX0) (N := 8) rfl (in_c inX0) (by decide) (List.mem_cons_of_mem _ wd_89) rfl dX0_miners_2) <|
  alls _ (s_imul dX0_miners_5) <|
  alls _ (s_iret dX0_miners_6) <|
  alls_nil _
def KX0_miners : List (Nat × pProg) := [(0, kX0_miners_0)]
theorem bX0_miners_0 : blkOf KX0_miners 0 = some kX0_miners_0 := rfl
def tX0_miners : pT := pM KX0_miners 1
theorem ct_X0_miners (l : Launch) : pCtr l yX0_miners wsX0_miners rmX0_miners 1 tX0_miners := ctr_of (by decide +kernel) rfl (List.forall_mem_cons.mpr ⟨sX0_miners_0 l, fun _ h => absurd h List.not_mem_nil⟩)
theorem dX0_addPair_0 : decode cX0_addPair 0 = .ok (.aload_n 0, 1) := by decide +kernel
theorem dX0_addPair_1 : decode cX0_addPair 1 = .ok (.getfield 34, 3) := by decide +kernel
theorem dX0_addPair_4 : decode cX0_addPair 4 = .ok (.iconst 4, 1) := by decide +kernel
theorem dX0_addPair_5 : decode cX0_addPair 5 = .ok (.if_icmp .ge 13, 3) := by decide +kernel
theorem dX0_addPair_8 : decode cX0_addPair 8 = .ok (.aload_n 0, 1) := by decide +kernel
theorem dX0_addPair_9 : decode cX0_addPair 9 = .ok (.dup, 1) := by decide +kernel
theorem dX0_addPair_10 : decode cX0_addPair 10 = .ok (.getfield 34, 3) := by decide +kernel
theorem dX0_addPair_13 : decode cX0_addPair 13 = .ok (.iconst 1, 1) := by decide +kernel
theorem dX0_addPair_14 : decode cX0_addPair 14 = .ok (.iadd, 1) := by decide +kernel
theorem dX0_addPair_15 : decode cX0_addPair 15 = .ok (.putfield 34, 3) := by decide +kernel
theorem dX0_addPair_18 : decode cX0_addPair 18 = .ok (.return_, 1) := by decide +kernel
def rmX0_addPair : Room := { frames := 0, cells := 0, slots := 0, locals := 0 }
abbrev wsX0_addPair : List Cond := .code yX0_addPair cX0_addPair 1 none :: gw_tbl
def kX0_addPair_18 : pProg := (18, 1, a_vret) :: []
def kX0_addPair_0 : pProg := (0, 1, a_aload 0) :: (1, 3, a_getf 0 0 6) :: (4, 1, a_iconst 4) :: (5, 3, a_icmp_ge 18) :: (8, 1, a_aload 0) :: (9, 1, a_dup) :: (10, 3, a_getf 0 0 6) :: (13, 1, a_iconst 1) :: (14, 1, a_iadd) :: (15, 3, a_putf 0 0 6 .int) :: (18, 0, a_fall 18) :: []
set_option maxRecDepth 100000 in
theorem sX0_addPair_18 (l : Launch) : AllS (pSnd l rmX0_addPair yX0_addPair.cls cX0_addPair wsX0_addPair 1 none) 18 kX0_addPair_18 :=
  alls _ (s_vret dX0_addPair_18) <|
  alls_nil _
set_option maxRecDepth 100000 in
theorem sX0_addPair_0 (l : Launch) : AllS (pSnd l rmX0_addPair yX0_addPair.cls cX0_addPair wsX0_addPair 1 none) 0 kX0_addPair_0 :=
  alls _ (s_aload_n rfl dX0_addPair_0) <|
  alls _ (s_getf (C := RX0) (T := TX0) (N := 8) rfl (in_c inX0) (by decide) (List.mem_cons_of_mem _ wd_89) rfl dX0_addPair_1) <|
  alls _ (s_iconst dX0_addPair_4) <|
  alls _ (s_icmp_ge (by decide) dX0_addPair_5) <|
  alls _ (s_aload_n rfl dX0_addPair_8) <|
  alls _ (s_dup dX0_addPair_9) <|
  alls _ (s_getf (C := RX0) (T := TX0) (N := 8) rfl (in_c inX0) (by decide) (List.mem_cons_of_mem _ wd_89) rfl dX0_addPair_10) <|
  alls _ (s_iconst dX0_addPair_13) <|
  alls _ (s_iadd dX0_addPair_14) <|
  alls _ (s_putf (C := RX0) (T := TX0) (N := 8) tyX0 rfl (in_c inX0) tyX0_ok nmX0 (by decide) (List.mem_cons_of_mem _ wd_89) rfl rfl (tyX0_ok 6 (by decide)) dX0_addPair_15) <|
  alls _ s_fall (alls_nil _)
def KX0_addPair : List (Nat × pProg) := [(0, kX0_addPair_0), (18, kX0_addPair_18)]
theorem bX0_addPair_0 : blkOf KX0_addPair 0 = some kX0_addPair_0 := rfl
theorem bX0_addPair_18 : blkOf KX0_addPair 18 = some kX0_addPair_18 := rfl
def tX0_addPair : pT := pM KX0_addPair 1
theorem ct_X0_addPair (l : Launch) : pCtr l yX0_addPair wsX0_addPair rmX0_addPair 1 tX0_addPair := ctr_of (by decide +kernel) rfl (List.forall_mem_cons.mpr ⟨sX0_addPair_0 l, List.forall_mem_cons.mpr ⟨sX0_addPair_18 l, fun _ h => absurd h List.not_mem_nil⟩⟩)
theorem dX0_cellOf_0 : decode cX0_cellOf 0 = .ok (.iload_n 1, 1) := by decide +kernel
theorem dX0_cellOf_1 : decode cX0_cellOf 1 = .ok (.ifCond .lt 21, 3) := by decide +kernel
theorem dX0_cellOf_4 : decode cX0_cellOf 4 = .ok (.iload_n 1, 1) := by decide +kernel
theorem dX0_cellOf_5 : decode cX0_cellOf 5 = .ok (.aload_n 0, 1) := by decide +kernel
theorem dX0_cellOf_6 : decode cX0_cellOf 6 = .ok (.getfield 15, 3) := by decide +kernel
theorem dX0_cellOf_9 : decode cX0_cellOf 9 = .ok (.arraylength, 1) := by decide +kernel
theorem dX0_cellOf_10 : decode cX0_cellOf 10 = .ok (.if_icmp .ge 12, 3) := by decide +kernel
theorem dX0_cellOf_13 : decode cX0_cellOf 13 = .ok (.aload_n 0, 1) := by decide +kernel
theorem dX0_cellOf_14 : decode cX0_cellOf 14 = .ok (.getfield 15, 3) := by decide +kernel
theorem dX0_cellOf_17 : decode cX0_cellOf 17 = .ok (.iload_n 1, 1) := by decide +kernel
theorem dX0_cellOf_18 : decode cX0_cellOf 18 = .ok (.iaload, 1) := by decide +kernel
theorem dX0_cellOf_19 : decode cX0_cellOf 19 = .ok (.goto 4, 3) := by decide +kernel
theorem dX0_cellOf_22 : decode cX0_cellOf 22 = .ok (.iconst 0, 1) := by decide +kernel
theorem dX0_cellOf_23 : decode cX0_cellOf 23 = .ok (.ireturn, 1) := by decide +kernel
def rmX0_cellOf : Room := { frames := 0, cells := 0, slots := 0, locals := 0 }
abbrev wsX0_cellOf : List Cond := .code yX0_cellOf cX0_cellOf 2 (some .int) :: gw_tbl
def kX0_cellOf_23 : pProg := (23, 1, a_iret) :: []
def kX0_cellOf_22 : pProg := (22, 1, a_iconst 0) :: (23, 0, a_fall 23) :: []
def kX0_cellOf_0 : pProg := (0, 1, a_iload 1) :: (1, 3, a_if_lt 22) :: (4, 1, a_iload 1) :: (5, 1, a_aload 0) :: (6, 3, a_getf 0 0 1) :: (9, 1, a_alen 2) :: (10, 3, a_icmp_ge 22) :: (13, 1, a_aload 0) :: (14, 3, a_getf 0 0 1) :: (17, 1, a_iload 1) :: (18, 1, a_iald 2) :: (19, 3, a_goto 23) :: []
set_option maxRecDepth 100000 in
theorem sX0_cellOf_23 (l : Launch) : AllS (pSnd l rmX0_cellOf yX0_cellOf.cls cX0_cellOf wsX0_cellOf 2 (some .int)) 23 kX0_cellOf_23 :=
  alls _ (s_iret dX0_cellOf_23) <|
  alls_nil _
set_option maxRecDepth 100000 in
theorem sX0_cellOf_22 (l : Launch) : AllS (pSnd l rmX0_cellOf yX0_cellOf.cls cX0_cellOf wsX0_cellOf 2 (some .int)) 22 kX0_cellOf_22 :=
  alls _ (s_iconst dX0_cellOf_22) <|
  alls _ s_fall (alls_nil _)
set_option maxRecDepth 100000 in
theorem sX0_cellOf_0 (l : Launch) : AllS (pSnd l rmX0_cellOf yX0_cellOf.cls cX0_cellOf wsX0_cellOf 2 (some .int)) 0 kX0_cellOf_0 :=
  alls _ (s_iload_n rfl dX0_cellOf_0) <|
  alls _ (s_if_lt (by decide) dX0_cellOf_1) <|
  alls _ (s_iload_n rfl dX0_cellOf_4) <|
  alls _ (s_aload_n rfl dX0_cellOf_5) <|
  alls _ (s_getf (C := RX0) (T := TX0) (N := 8) rfl (in_c inX0) (by decide) (List.mem_cons_of_mem _ wd_84) rfl dX0_cellOf_6) <|
  alls _ (s_alen dX0_cellOf_9) <|
  alls _ (s_icmp_ge (by decide) dX0_cellOf_10) <|
  alls _ (s_aload_n rfl dX0_cellOf_13) <|
  alls _ (s_getf (C := RX0) (T := TX0) (N := 8) rfl (in_c inX0) (by decide) (List.mem_cons_of_mem _ wd_84) rfl dX0_cellOf_14) <|
  alls _ (s_iload_n rfl dX0_cellOf_17) <|
  alls _ (s_iald dX0_cellOf_18) <|
  alls _ (s_goto (by decide) dX0_cellOf_19) <|
  alls_nil _
def KX0_cellOf : List (Nat × pProg) := [(0, kX0_cellOf_0), (22, kX0_cellOf_22), (23, kX0_cellOf_23)]
theorem bX0_cellOf_0 : blkOf KX0_cellOf 0 = some kX0_cellOf_0 := rfl
theorem bX0_cellOf_22 : blkOf KX0_cellOf 22 = some kX0_cellOf_22 := rfl
theorem bX0_cellOf_23 : blkOf KX0_cellOf 23 = some kX0_cellOf_23 := rfl
def tX0_cellOf : pT := pM KX0_cellOf 2
theorem ct_X0_cellOf (l : Launch) : pCtr l yX0_cellOf wsX0_cellOf rmX0_cellOf 2 tX0_cellOf := ctr_of (by decide +kernel) rfl (List.forall_mem_cons.mpr ⟨sX0_cellOf_0 l, List.forall_mem_cons.mpr ⟨sX0_cellOf_22 l, List.forall_mem_cons.mpr ⟨sX0_cellOf_23 l, fun _ h => absurd h List.not_mem_nil⟩⟩⟩)
theorem dX0_beamsIn_0 : decode cX0_beamsIn 0 = .ok (.iload_n 1, 1) := by decide +kernel
theorem dX0_beamsIn_1 : decode cX0_beamsIn 1 = .ok (.ifCond .lt 21, 3) := by decide +kernel
theorem dX0_beamsIn_4 : decode cX0_beamsIn 4 = .ok (.iload_n 1, 1) := by decide +kernel
theorem dX0_beamsIn_5 : decode cX0_beamsIn 5 = .ok (.aload_n 0, 1) := by decide +kernel
theorem dX0_beamsIn_6 : decode cX0_beamsIn 6 = .ok (.getfield 9, 3) := by decide +kernel
theorem dX0_beamsIn_9 : decode cX0_beamsIn 9 = .ok (.arraylength, 1) := by decide +kernel
theorem dX0_beamsIn_10 : decode cX0_beamsIn 10 = .ok (.if_icmp .ge 12, 3) := by decide +kernel
theorem dX0_beamsIn_13 : decode cX0_beamsIn 13 = .ok (.aload_n 0, 1) := by decide +kernel
theorem dX0_beamsIn_14 : decode cX0_beamsIn 14 = .ok (.getfield 9, 3) := by decide +kernel
theorem dX0_beamsIn_17 : decode cX0_beamsIn 17 = .ok (.iload_n 1, 1) := by decide +kernel
theorem dX0_beamsIn_18 : decode cX0_beamsIn 18 = .ok (.iaload, 1) := by decide +kernel
theorem dX0_beamsIn_19 : decode cX0_beamsIn 19 = .ok (.goto 4, 3) := by decide +kernel
theorem dX0_beamsIn_22 : decode cX0_beamsIn 22 = .ok (.iconst 0, 1) := by decide +kernel
theorem dX0_beamsIn_23 : decode cX0_beamsIn 23 = .ok (.ireturn, 1) := by decide +kernel
def rmX0_beamsIn : Room := { frames := 0, cells := 0, slots := 0, locals := 0 }
abbrev wsX0_beamsIn : List Cond := .code yX0_beamsIn cX0_beamsIn 2 (some .int) :: gw_tbl
def kX0_beamsIn_23 : pProg := (23, 1, a_iret) :: []
def kX0_beamsIn_22 : pProg := (22, 1, a_iconst 0) :: (23, 0, a_fall 23) :: []
def kX0_beamsIn_0 : pProg := (0, 1, a_iload 1) :: (1, 3, a_if_lt 22) :: (4, 1, a_iload 1) :: (5, 1, a_aload 0) :: (6, 3, a_getf 0 0 0) :: (9, 1, a_alen 1) :: (10, 3, a_icmp_ge 22) :: (13, 1, a_aload 0) :: (14, 3, a_getf 0 0 0) :: (17, 1, a_iload 1) :: (18, 1, a_iald 1) :: (19, 3, a_goto 23) :: []
set_option maxRecDepth 100000 in
theorem sX0_beamsIn_23 (l : Launch) : AllS (pSnd l rmX0_beamsIn yX0_beamsIn.cls cX0_beamsIn wsX0_beamsIn 2 (some .int)) 23 kX0_beamsIn_23 :=
  alls _ (s_iret dX0_beamsIn_23) <|
  alls_nil _
set_option maxRecDepth 100000 in
theorem sX0_beamsIn_22 (l : Launch) : AllS (pSnd l rmX0_beamsIn yX0_beamsIn.cls cX0_beamsIn wsX0_beamsIn 2 (some .int)) 22 kX0_beamsIn_22 :=
  alls _ (s_iconst dX0_beamsIn_22) <|
  alls _ s_fall (alls_nil _)
set_option maxRecDepth 100000 in
theorem sX0_beamsIn_0 (l : Launch) : AllS (pSnd l rmX0_beamsIn yX0_beamsIn.cls cX0_beamsIn wsX0_beamsIn 2 (some .int)) 0 kX0_beamsIn_0 :=
  alls _ (s_iload_n rfl dX0_beamsIn_0) <|
  alls _ (s_if_lt (by decide) dX0_beamsIn_1) <|
  alls _ (s_iload_n rfl dX0_beamsIn_4) <|
  alls _ (s_aload_n rfl dX0_beamsIn_5) <|
  alls _ (s_getf (C := RX0) (T := TX0) (N := 8) rfl (in_c inX0) (by decide) (List.mem_cons_of_mem _ wd_83) rfl dX0_beamsIn_6) <|
  alls _ (s_alen dX0_beamsIn_9) <|
  alls _ (s_icmp_ge (by decide) dX0_beamsIn_10) <|
  alls _ (s_aload_n rfl dX0_beamsIn_13) <|
  alls _ (s_getf (C := RX0) (T := TX0) (N := 8) rfl (in_c inX0) (by decide) (List.mem_cons_of_mem _ wd_83) rfl dX0_beamsIn_14) <|
  alls _ (s_iload_n rfl dX0_beamsIn_17) <|
  alls _ (s_iald dX0_beamsIn_18) <|
  alls _ (s_goto (by decide) dX0_beamsIn_19) <|
  alls_nil _
def KX0_beamsIn : List (Nat × pProg) := [(0, kX0_beamsIn_0), (22, kX0_beamsIn_22), (23, kX0_beamsIn_23)]
theorem bX0_beamsIn_0 : blkOf KX0_beamsIn 0 = some kX0_beamsIn_0 := rfl
theorem bX0_beamsIn_22 : blkOf KX0_beamsIn 22 = some kX0_beamsIn_22 := rfl
theorem bX0_beamsIn_23 : blkOf KX0_beamsIn 23 = some kX0_beamsIn_23 := rfl
def tX0_beamsIn : pT := pM KX0_beamsIn 2
theorem ct_X0_beamsIn (l : Launch) : pCtr l yX0_beamsIn wsX0_beamsIn rmX0_beamsIn 2 tX0_beamsIn := ctr_of (by decide +kernel) rfl (List.forall_mem_cons.mpr ⟨sX0_beamsIn_0 l, List.forall_mem_cons.mpr ⟨sX0_beamsIn_22 l, List.forall_mem_cons.mpr ⟨sX0_beamsIn_23 l, fun _ h => absurd h List.not_mem_nil⟩⟩⟩)
theorem dX0_wantsIn_0 : decode cX0_wantsIn 0 = .ok (.iload_n 1, 1) := by decide +kernel
theorem dX0_wantsIn_1 : decode cX0_wantsIn 1 = .ok (.iconst 2, 1) := by decide +kernel
theorem dX0_wantsIn_2 : decode cX0_wantsIn 2 = .ok (.idiv, 1) := by decide +kernel
theorem dX0_wantsIn_3 : decode cX0_wantsIn 3 = .ok (.istore_n 3, 1) := by decide +kernel
theorem dX0_wantsIn_4 : decode cX0_wantsIn 4 = .ok (.aload_n 0, 1) := by decide +kernel
theorem dX0_wantsIn_5 : decode cX0_wantsIn 5 = .ok (.iload_n 3, 1) := by decide +kernel
theorem dX0_wantsIn_6 : decode cX0_wantsIn 6 = .ok (.invokevirtual 70, 3) := by decide +kernel
theorem dX0_wantsIn_9 : decode cX0_wantsIn 9 = .ok (.istore 4, 2) := by decide +kernel
theorem dX0_wantsIn_11 : decode cX0_wantsIn 11 = .ok (.iload 4, 2) := by decide +kernel
theorem dX0_wantsIn_13 : decode cX0_wantsIn 13 = .ok (.bipush 19, 2) := by decide +kernel
theorem dX0_wantsIn_15 : decode cX0_wantsIn 15 = .ok (.if_icmp .lt 5, 3) := by decide +kernel
theorem dX0_wantsIn_18 : decode cX0_wantsIn 18 = .ok (.iconst 0, 1) := by decide +kernel
theorem dX0_wantsIn_19 : decode cX0_wantsIn 19 = .ok (.ireturn, 1) := by decide +kernel
theorem dX0_wantsIn_20 : decode cX0_wantsIn 20 = .ok (.aload_n 0, 1) := by decide +kernel
theorem dX0_wantsIn_21 : decode cX0_wantsIn 21 = .ok (.iload_n 1, 1) := by decide +kernel
theorem dX0_wantsIn_22 : decode cX0_wantsIn 22 = .ok (.invokevirtual 50, 3) := by decide +kernel
theorem dX0_wantsIn_25 : decode cX0_wantsIn 25 = .ok (.aload_n 0, 1) := by decide +kernel
theorem dX0_wantsIn_26 : decode cX0_wantsIn 26 = .ok (.iload_n 1, 1) := by decide +kernel
theorem dX0_wantsIn_27 : decode cX0_wantsIn 27 = .ok (.invokevirtual 54, 3) := by decide +kernel
theorem dX0_wantsIn_30 : decode cX0_wantsIn 30 = .ok (.aload_n 0, 1) := by decide +kernel
theorem dX0_wantsIn_31 : decode cX0_wantsIn 31 = .ok (.iload_n 3, 1) := by decide +kernel
theorem dX0_wantsIn_32 : decode cX0_wantsIn 32 = .ok (.invokevirtual 77, 3) := by decide +kernel
theorem dX0_wantsIn_35 : decode cX0_wantsIn 35 = .ok (.aload_n 0, 1) := by decide +kernel
theorem dX0_wantsIn_36 : decode cX0_wantsIn 36 = .ok (.iload 4, 2) := by decide +kernel
theorem dX0_wantsIn_38 : decode cX0_wantsIn 38 = .ok (.iconst 1, 1) := by decide +kernel
theorem dX0_wantsIn_39 : decode cX0_wantsIn 39 = .ok (.iadd, 1) := by decide +kernel
theorem dX0_wantsIn_40 : decode cX0_wantsIn 40 = .ok (.invokevirtual 80, 3) := by decide +kernel
theorem dX0_wantsIn_43 : decode cX0_wantsIn 43 = .ok (.iload_n 2, 1) := by decide +kernel
theorem dX0_wantsIn_44 : decode cX0_wantsIn 44 = .ok (.invokestatic 83, 3) := by decide +kernel
theorem dX0_wantsIn_47 : decode cX0_wantsIn 47 = .ok (.ireturn, 1) := by decide +kernel
def rmX0_wantsIn : Room := { frames := 1, cells := 0, slots := 0, locals := 25 }
abbrev wsX0_wantsIn : List Cond := .code yX0_wantsIn cX0_wantsIn 5 (some .boolean) :: gw_tbl
def kX0_wantsIn_20 : pProg := (20, 1, a_aload 0) :: (21, 1, a_iload 1) :: (22, 3, a_callv 2 0 [0, 1, 2, 3, 4, 5, 6] tX0_kindOf) :: (25, 1, a_aload 0) :: (26, 1, a_iload 1) :: (27, 3, a_callv 2 0 [0, 1, 2, 3, 4, 5, 6] tX0_figureOf) :: (30, 1, a_aload 0) :: (31, 1, a_iload 3) :: (32, 3, a_callv 2 0 [0, 1, 2, 3, 4, 5, 6] tX0_toSayOf) :: (35, 1, a_aload 0) :: (36, 2, a_iload 4) :: (38, 1, a_iconst 1) :: (39, 1, a_iadd) :: (40, 3, a_callv 2 0 [0, 1, 2, 3, 4, 5, 6] tX0_beamsIn) :: (43, 1, a_iload 2) :: (44, 3, a_calls 5 [] tX1_wants) :: (47, 1, a_zret) :: []
def kX0_wantsIn_0 : pProg := (0, 1, a_iload 1) :: (1, 1, a_iconst 2) :: (2, 1, a_idiv) :: (3, 1, a_istore 3) :: (4, 1, a_aload 0) :: (5, 1, a_iload 3) :: (6, 3, a_callv 2 0 [0, 1, 2, 3, 4, 5, 6] tX0_cellOf) :: (9, 2, a_istore 4) :: (11, 2, a_iload 4) :: (13, 2, a_iconst 19) :: (15, 3, a_icmp_lt 20) :: (18, 1, a_iconst 0) :: (19, 1, a_zret) :: []
set_option maxRecDepth 100000 in
theorem sX0_wantsIn_20 (l : Launch) : AllS (pSnd l rmX0_wantsIn yX0_wantsIn.cls cX0_wantsIn wsX0_wantsIn 5 (some .boolean)) 20 kX0_wantsIn_20 :=
  alls _ (s_aload_n rfl dX0_wantsIn_20) <|
  alls _ (s_iload_n rfl dX0_wantsIn_21) <|
  alls _ (s_callv (ct_X0_kindOf l) rfl rfl rfl (gdV wd_275 wd_276 wd_277 wd_61 wd_278) rfl rfl (by decide +kernel) ⟨Nat.le_of_ble_eq_true rfl, Nat.le_of_ble_eq_true rfl⟩ dX0_wantsIn_22) <|
  alls _ (s_aload_n rfl dX0_wantsIn_25) <|
  alls _ (s_iload_n rfl dX0_wantsIn_26) <|
  alls _ (s_callv (ct_X0_figureOf l) rfl rfl rfl (gdV wd_279 wd_280 wd_281 wd_61 wd_282) rfl rfl (by decide +kernel) ⟨Nat.le_of_ble_eq_true rfl, Nat.le_of_ble_eq_true rfl⟩ dX0_wantsIn_27) <|
  alls _ (s_aload_n rfl dX0_wantsIn_30) <|
  alls _ (s_iload_n rfl dX0_wantsIn_31) <|
  alls _ (s_callv (ct_X0_toSayOf l) rfl rfl rfl (gdV wd_309 wd_263 wd_264 wd_61 wd_265) rfl rfl (by decide +kernel) ⟨Nat.le_of_ble_eq_true rfl, Nat.le_of_ble_eq_true rfl⟩ dX0_wantsIn_32) <|
  alls _ (s_aload_n rfl dX0_wantsIn_35) <|
  alls _ (s_iload dX0_wantsIn_36) <|
  alls _ (s_iconst dX0_wantsIn_38) <|
  alls _ (s_iadd dX0_wantsIn_39) <|
  alls _ (s_callv (ct_X0_beamsIn l) rfl rfl rfl (gdV wd_310 wd_311 wd_312 wd_61 wd_313) rfl rfl (by decide +kernel) ⟨Nat.le_of_ble_eq_true rfl, Nat.le_of_ble_eq_true rfl⟩ dX0_wantsIn_40) <|
  alls _ (s_iload_n rfl dX0_wantsIn_43) <|
  alls _ (s_calls (ct_X1_wants l) rfl rfl (gdS wd_316) (List.mem_cons_of_mem _ wd_314) (List.mem_cons_of_mem _ wd_315) (List.mem_cons_of_mem _ wd_67) rfl rfl (by decide +kernel) ⟨Nat.le_of_ble_eq_true rfl, Nat.le_of_ble_eq_true rfl⟩ dX0_wantsIn_44) <|
  alls _ (s_zret dX0_wantsIn_47) <|
  alls_nil _
set_option maxRecDepth 100000 in
theorem sX0_wantsIn_0 (l : Launch) : AllS (pSnd l rmX0_wantsIn yX0_wantsIn.cls cX0_wantsIn wsX0_wantsIn 5 (some .boolean)) 0 kX0_wantsIn_0 :=
  alls _ (s_iload_n rfl dX0_wantsIn_0) <|
  alls _ (s_iconst dX0_wantsIn_1) <|
  alls _ (s_idiv dX0_wantsIn_2) <|
  alls _ (s_istore_n rfl dX0_wantsIn_3) <|
  alls _ (s_aload_n rfl dX0_wantsIn_4) <|
  alls _ (s_iload_n rfl dX0_wantsIn_5) <|
  alls _ (s_callv (ct_X0_cellOf l) rfl rfl rfl (gdV wd_305 wd_306 wd_307 wd_61 wd_308) rfl rfl (by decide +kernel) ⟨Nat.le_of_ble_eq_true rfl, Nat.le_of_ble_eq_true rfl⟩ dX0_wantsIn_6) <|
  alls _ (s_istore dX0_wantsIn_9) <|
  alls _ (s_iload dX0_wantsIn_11) <|
  alls _ (s_bipush (by decide) dX0_wantsIn_13) <|
  alls _ (s_icmp_lt (by decide) dX0_wantsIn_15) <|
  alls _ (s_iconst dX0_wantsIn_18) <|
  alls _ (s_zret dX0_wantsIn_19) <|
  alls_nil _
def KX0_wantsIn : List (Nat × pProg) := [(0, kX0_wantsIn_0), (20, kX0_wantsIn_20)]
theorem bX0_wantsIn_0 : blkOf KX0_wantsIn 0 = some kX0_wantsIn_0 := rfl
theorem bX0_wantsIn_20 : blkOf KX0_wantsIn 20 = some kX0_wantsIn_20 := rfl
def tX0_wantsIn : pT := pM KX0_wantsIn 5
theorem ct_X0_wantsIn (l : Launch) : pCtr l yX0_wantsIn wsX0_wantsIn rmX0_wantsIn 3 tX0_wantsIn := ctr_of (by decide +kernel) rfl (List.forall_mem_cons.mpr ⟨sX0_wantsIn_0 l, List.forall_mem_cons.mpr ⟨sX0_wantsIn_20 l, fun _ h => absurd h List.not_mem_nil⟩⟩)
theorem dX0_speakerIn_0 : decode cX0_speakerIn 0 = .ok (.aload_n 0, 1) := by decide +kernel
theorem dX0_speakerIn_1 : decode cX0_speakerIn 1 = .ok (.iconst 2, 1) := by decide +kernel
theorem dX0_speakerIn_2 : decode cX0_speakerIn 2 = .ok (.iload_n 1, 1) := by decide +kernel
theorem dX0_speakerIn_3 : decode cX0_speakerIn 3 = .ok (.imul, 1) := by decide +kernel
theorem dX0_speakerIn_4 : decode cX0_speakerIn 4 = .ok (.iload_n 2, 1) := by decide +kernel
theorem dX0_speakerIn_5 : decode cX0_speakerIn 5 = .ok (.invokevirtual 89, 3) := by decide +kernel
theorem dX0_speakerIn_8 : decode cX0_speakerIn 8 = .ok (.ifCond .eq 5, 3) := by decide +kernel
theorem dX0_speakerIn_11 : decode cX0_speakerIn 11 = .ok (.iconst 0, 1) := by decide +kernel
theorem dX0_speakerIn_12 : decode cX0_speakerIn 12 = .ok (.ireturn, 1) := by decide +kernel
theorem dX0_speakerIn_13 : decode cX0_speakerIn 13 = .ok (.aload_n 0, 1) := by decide +kernel
theorem dX0_speakerIn_14 : decode cX0_speakerIn 14 = .ok (.iconst 2, 1) := by decide +kernel
theorem dX0_speakerIn_15 : decode cX0_speakerIn 15 = .ok (.iload_n 1, 1) := by decide +kernel
theorem dX0_speakerIn_16 : decode cX0_speakerIn 16 = .ok (.imul, 1) := by decide +kernel
theorem dX0_speakerIn_17 : decode cX0_speakerIn 17 = .ok (.iconst 1, 1) := by decide +kernel
theorem dX0_speakerIn_18 : decode cX0_speakerIn 18 = .ok (.iadd, 1) := by decide +kernel
theorem dX0_speakerIn_19 : decode cX0_speakerIn 19 = .ok (.iload_n 2, 1) := by decide +kernel
theorem dX0_speakerIn_20 : decode cX0_speakerIn 20 = .ok (.invokevirtual 89, 3) := by decide +kernel
theorem dX0_speakerIn_23 : decode cX0_speakerIn 23 = .ok (.ifCond .eq 7, 3) := by decide +kernel
theorem dX0_speakerIn_26 : decode cX0_speakerIn 26 = .ok (.iconst 1, 1) := by decide +kernel
theorem dX0_speakerIn_27 : decode cX0_speakerIn 27 = .ok (.goto 5, 3) := by decide +kernel
theorem dX0_speakerIn_30 : decode cX0_speakerIn 30 = .ok (.bipush (-9), 2) := by decide +kernel
theorem dX0_speakerIn_32 : decode cX0_speakerIn 32 = .ok (.ireturn, 1) := by decide +kernel
def rmX0_speakerIn : Room := { frames := 2, cells := 0, slots := 0, locals := 49 }
abbrev wsX0_speakerIn : List Cond := .code yX0_speakerIn cX0_speakerIn 3 (some .int) :: gw_tbl
def kX0_speakerIn_32 : pProg := (32, 1, a_iret) :: []
def kX0_speakerIn_30 : pProg := (30, 2, a_iconst (-9)) :: (32, 0, a_fall 32) :: []
def kX0_speakerIn_13 : pProg := (13, 1, a_aload 0) :: (14, 1, a_iconst 2) :: (15, 1, a_iload 1) :: (16, 1, a_imul) :: (17, 1, a_iconst 1) :: (18, 1, a_iadd) :: (19, 1, a_iload 2) :: (20, 3, a_callv 3 0 [0, 1, 2, 3, 4, 5, 6] tX0_wantsIn) :: (23, 3, a_if_eq 30) :: (26, 1, a_iconst 1) :: (27, 3, a_goto 32) :: []
def kX0_speakerIn_0 : pProg := (0, 1, a_aload 0) :: (1, 1, a_iconst 2) :: (2, 1, a_iload 1) :: (3, 1, a_imul) :: (4, 1, a_iload 2) :: (5, 3, a_callv 3 0 [0, 1, 2, 3, 4, 5, 6] tX0_wantsIn) :: (8, 3, a_if_eq 13) :: (11, 1, a_iconst 0) :: (12, 1, a_iret) :: []
set_option maxRecDepth 100000 in
theorem sX0_speakerIn_32 (l : Launch) : AllS (pSnd l rmX0_speakerIn yX0_speakerIn.cls cX0_speakerIn wsX0_speakerIn 3 (some .int)) 32 kX0_speakerIn_32 :=
  alls _ (s_iret dX0_speakerIn_32) <|
  alls_nil _
set_option maxRecDepth 100000 in
theorem sX0_speakerIn_30 (l : Launch) : AllS (pSnd l rmX0_speakerIn yX0_speakerIn.cls cX0_speakerIn wsX0_speakerIn 3 (some .int)) 30 kX0_speakerIn_30 :=
  alls _ (s_bipush (by decide) dX0_speakerIn_30) <|
  alls _ s_fall (alls_nil _)
set_option maxRecDepth 100000 in
theorem sX0_speakerIn_13 (l : Launch) : AllS (pSnd l rmX0_speakerIn yX0_speakerIn.cls cX0_speakerIn wsX0_speakerIn 3 (some .int)) 13 kX0_speakerIn_13 :=
  alls _ (s_aload_n rfl dX0_speakerIn_13) <|
  alls _ (s_iconst dX0_speakerIn_14) <|
  alls _ (s_iload_n rfl dX0_speakerIn_15) <|
  alls _ (s_imul dX0_speakerIn_16) <|
  alls _ (s_iconst dX0_speakerIn_17) <|
  alls _ (s_iadd dX0_speakerIn_18) <|
  alls _ (s_iload_n rfl dX0_speakerIn_19) <|
  alls _ (s_callv (ct_X0_wantsIn l) rfl rfl rfl (gdV wd_301 wd_302 wd_303 wd_61 wd_304) rfl rfl (by decide +kernel) ⟨Nat.le_of_ble_eq_true rfl, Nat.le_of_ble_eq_true rfl⟩ dX0_speakerIn_20) <|
  alls _ (s_if_eq (by decide) dX0_speakerIn_23) <|
  alls _ (s_iconst dX0_speakerIn_26) <|
  alls _ (s_goto (by decide) dX0_speakerIn_27) <|
  alls_nil _
set_option maxRecDepth 100000 in
theorem sX0_speakerIn_0 (l : Launch) : AllS (pSnd l rmX0_speakerIn yX0_speakerIn.cls cX0_speakerIn wsX0_speakerIn 3 (some .int)) 0 kX0_speakerIn_0 :=
  alls _ (s_aload_n rfl dX0_speakerIn_0) <|
  alls _ (s_iconst dX0_speakerIn_1) <|
  alls _ (s_iload_n rfl dX0_speakerIn_2) <|
  alls _ (s_imul dX0_speakerIn_3) <|
  alls _ (s_iload_n rfl dX0_speakerIn_4) <|
  alls _ (s_callv (ct_X0_wantsIn l) rfl rfl rfl (gdV wd_301 wd_302 wd_303 wd_61 wd_304) rfl rfl (by decide +kernel) ⟨Nat.le_of_ble_eq_true rfl, Nat.le_of_ble_eq_true rfl⟩ dX0_speakerIn_5) <|
  alls _ (s_if_eq (by decide) dX0_speakerIn_8) <|
  alls _ (s_iconst dX0_speakerIn_11) <|
  alls _ (s_iret dX0_speakerIn_12) <|
  alls_nil _
def KX0_speakerIn : List (Nat × pProg) := [(0, kX0_speakerIn_0), (13, kX0_speakerIn_13), (30, kX0_speakerIn_30), (32, kX0_speakerIn_32)]
theorem bX0_speakerIn_0 : blkOf KX0_speakerIn 0 = some kX0_speakerIn_0 := rfl
theorem bX0_speakerIn_13 : blkOf KX0_speakerIn 13 = some kX0_speakerIn_13 := rfl
theorem bX0_speakerIn_30 : blkOf KX0_speakerIn 30 = some kX0_speakerIn_30 := rfl
theorem bX0_speakerIn_32 : blkOf KX0_speakerIn 32 = some kX0_speakerIn_32 := rfl
def tX0_speakerIn : pT := pM KX0_speakerIn 3
theorem ct_X0_speakerIn (l : Launch) : pCtr l yX0_speakerIn wsX0_speakerIn rmX0_speakerIn 3 tX0_speakerIn := ctr_of (by decide +kernel) rfl (List.forall_mem_cons.mpr ⟨sX0_speakerIn_0 l, List.forall_mem_cons.mpr ⟨sX0_speakerIn_13 l, List.forall_mem_cons.mpr ⟨sX0_speakerIn_30 l, List.forall_mem_cons.mpr ⟨sX0_speakerIn_32 l, fun _ h => absurd h List.not_mem_nil⟩⟩⟩⟩)
theorem dX0_isFaced_0 : decode cX0_isFaced 0 = .ok (.aload_n 0, 1) := by decide +kernel
theorem dX0_isFaced_1 : decode cX0_isFaced 1 = .ok (.iload_n 1, 1) := by decide +kernel
theorem dX0_isFaced_2 : decode cX0_isFaced 2 = .ok (.invokevirtual 70, 3) := by decide +kernel
theorem dX0_isFaced_5 : decode cX0_isFaced 5 = .ok (.bipush 19, 2) := by decide +kernel
theorem dX0_isFaced_7 : decode cX0_isFaced 7 = .ok (.if_icmp .lt 7, 3) := by decide +kernel
theorem dX0_isFaced_10 : decode cX0_isFaced 10 = .ok (.iconst 1, 1) := by decide +kernel
theorem dX0_isFaced_11 : decode cX0_isFaced 11 = .ok (.goto 4, 3) := by decide +kernel
theorem dX0_isFaced_14 : decode cX0_isFaced 14 = .ok (.iconst 0, 1) := by decide +kernel
theorem dX0_isFaced_15 : decode cX0_isFaced 15 = .ok (.ireturn, 1) := by decide +kernel
def rmX0_isFaced : Room := { frames := 1, cells := 0, slots := 0, locals := 21 }
abbrev wsX0_isFaced : List Cond := .code yX0_isFaced cX0_isFaced 2 (some .boolean) :: gw_tbl
def kX0_isFaced_15 : pProg := (15, 1, a_zret) :: []
def kX0_isFaced_14 : pProg := (14, 1, a_iconst 0) :: (15, 0, a_fall 15) :: []
def kX0_isFaced_0 : pProg := (0, 1, a_aload 0) :: (1, 1, a_iload 1) :: (2, 3, a_callv 2 0 [0, 1, 2, 3, 4, 5, 6] tX0_cellOf) :: (5, 2, a_iconst 19) :: (7, 3, a_icmp_lt 14) :: (10, 1, a_iconst 1) :: (11, 3, a_goto 15) :: []
set_option maxRecDepth 100000 in
theorem sX0_isFaced_15 (l : Launch) : AllS (pSnd l rmX0_isFaced yX0_isFaced.cls cX0_isFaced wsX0_isFaced 2 (some .boolean)) 15 kX0_isFaced_15 :=
  alls _ (s_zret dX0_isFaced_15) <|
  alls_nil _
set_option maxRecDepth 100000 in
theorem sX0_isFaced_14 (l : Launch) : AllS (pSnd l rmX0_isFaced yX0_isFaced.cls cX0_isFaced wsX0_isFaced 2 (some .boolean)) 14 kX0_isFaced_14 :=
  alls _ (s_iconst dX0_isFaced_14) <|
  alls _ s_fall (alls_nil _)
set_option maxRecDepth 100000 in
theorem sX0_isFaced_0 (l : Launch) : AllS (pSnd l rmX0_isFaced yX0_isFaced.cls cX0_isFaced wsX0_isFaced 2 (some .boolean)) 0 kX0_isFaced_0 :=
  alls _ (s_aload_n rfl dX0_isFaced_0) <|
  alls _ (s_iload_n rfl dX0_isFaced_1) <|
  alls _ (s_callv (ct_X0_cellOf l) rfl rfl rfl (gdV wd_305 wd_306 wd_307 wd_61 wd_308) rfl rfl (by decide +kernel) ⟨Nat.le_of_ble_eq_true rfl, Nat.le_of_ble_eq_true rfl⟩ dX0_isFaced_2) <|
  alls _ (s_bipush (by decide) dX0_isFaced_5) <|
  alls _ (s_icmp_lt (by decide) dX0_isFaced_7) <|
  alls _ (s_iconst dX0_isFaced_10) <|
  alls _ (s_goto (by decide) dX0_isFaced_11) <|
  alls_nil _
def KX0_isFaced : List (Nat × pProg) := [(0, kX0_isFaced_0), (14, kX0_isFaced_14), (15, kX0_isFaced_15)]
theorem bX0_isFaced_0 : blkOf KX0_isFaced 0 = some kX0_isFaced_0 := rfl
theorem bX0_isFaced_14 : blkOf KX0_isFaced 14 = some kX0_isFaced_14 := rfl
theorem bX0_isFaced_15 : blkOf KX0_isFaced 15 = some kX0_isFaced_15 := rfl
def tX0_isFaced : pT := pM KX0_isFaced 2
theorem ct_X0_isFaced (l : Launch) : pCtr l yX0_isFaced wsX0_isFaced rmX0_isFaced 2 tX0_isFaced := ctr_of (by decide +kernel) rfl (List.forall_mem_cons.mpr ⟨sX0_isFaced_0 l, List.forall_mem_cons.mpr ⟨sX0_isFaced_14 l, List.forall_mem_cons.mpr ⟨sX0_isFaced_15 l, fun _ h => absurd h List.not_mem_nil⟩⟩⟩)
theorem dX0_setCell_0 : decode cX0_setCell 0 = .ok (.iload_n 1, 1) := by decide +kernel
theorem dX0_setCell_1 : decode cX0_setCell 1 = .ok (.ifCond .lt 24, 3) := by decide +kernel
theorem dX0_setCell_4 : decode cX0_setCell 4 = .ok (.iload_n 1, 1) := by decide +kernel
theorem dX0_setCell_5 : decode cX0_setCell 5 = .ok (.aload_n 0, 1) := by decide +kernel
theorem dX0_setCell_6 : decode cX0_setCell 6 = .ok (.getfield 15, 3) := by decide +kernel
theorem dX0_setCell_9 : decode cX0_setCell 9 = .ok (.arraylength, 1) := by decide +kernel
theorem dX0_setCell_10 : decode cX0_setCell 10 = .ok (.if_icmp .ge 15, 3) := by decide +kernel
theorem dX0_setCell_13 : decode cX0_setCell 13 = .ok (.aload_n 0, 1) := by decide +kernel
theorem dX0_setCell_14 : decode cX0_setCell 14 = .ok (.getfield 15, 3) := by decide +kernel
theorem dX0_setCell_17 : decode cX0_setCell 17 = .ok (.iload_n 1, 1) := by decide +kernel
theorem dX0_setCell_18 : decode cX0_setCell 18 = .ok (.bipush 19, 2) := by decide +kernel
theorem dX0_setCell_20 : decode cX0_setCell 20 = .ok (.iload_n 2, 1) := by decide +kernel
theorem dX0_setCell_21 : decode cX0_setCell 21 = .ok (.invokestatic 41, 3) := by decide +kernel
theorem dX0_setCell_24 : decode cX0_setCell 24 = .ok (.iastore, 1) := by decide +kernel
theorem dX0_setCell_25 : decode cX0_setCell 25 = .ok (.return_, 1) := by decide +kernel
def rmX0_setCell : Room := { frames := 1, cells := 0, slots := 0, locals := 21 }
abbrev wsX0_setCell : List Cond := .code yX0_setCell cX0_setCell 3 none :: gw_tbl
def kX0_setCell_25 : pProg := (25, 1, a_vret) :: []
def kX0_setCell_0 : pProg := (0, 1, a_iload 1) :: (1, 3, a_if_lt 25) :: (4, 1, a_iload 1) :: (5, 1, a_aload 0) :: (6, 3, a_getf 0 0 1) :: (9, 1, a_alen 2) :: (10, 3, a_icmp_ge 25) :: (13, 1, a_aload 0) :: (14, 3, a_getf 0 0 1) :: (17, 1, a_iload 1) :: (18, 2, a_iconst 19) :: (20, 1, a_iload 2) :: (21, 3, a_mmin) :: (24, 1, a_iast 2) :: (25, 0, a_fall 25) :: []
set_option maxRecDepth 100000 in
theorem sX0_setCell_25 (l : Launch) : AllS (pSnd l rmX0_setCell yX0_setCell.cls cX0_setCell wsX0_setCell 3 none) 25 kX0_setCell_25 :=
  alls _ (s_vret dX0_setCell_25) <|
  alls_nil _
set_option maxRecDepth 100000 in
theorem sX0_setCell_0 (l : Launch) : AllS (pSnd l rmX0_setCell yX0_setCell.cls cX0_setCell wsX0_setCell 3 none) 0 kX0_setCell_0 :=
  alls _ (s_iload_n rfl dX0_setCell_0) <|
  alls _ (s_if_lt (by decide) dX0_setCell_1) <|
  alls _ (s_iload_n rfl dX0_setCell_4) <|
  alls _ (s_aload_n rfl dX0_setCell_5) <|
  alls _ (s_getf (C := RX0) (T := TX0) (N := 8) rfl (in_c inX0) (by decide) (List.mem_cons_of_mem _ wd_84) rfl dX0_setCell_6) <|
  alls _ (s_alen dX0_setCell_9) <|
  alls _ (s_icmp_ge (by decide) dX0_setCell_10) <|
  alls _ (s_aload_n rfl dX0_setCell_13) <|
  alls _ (s_getf (C := RX0) (T := TX0) (N := 8) rfl (in_c inX0) (by decide) (List.mem_cons_of_mem _ wd_84) rfl dX0_setCell_14) <|
  alls _ (s_iload_n rfl dX0_setCell_17) <|
  alls _ (s_bipush (by decide) dX0_setCell_18) <|
  alls _ (s_iload_n rfl dX0_setCell_20) <|
  alls _ (s_mmin (List.mem_cons_of_mem _ wd_259) (List.mem_cons_of_mem _ wd_260) (List.mem_cons_of_mem _ wd_64) (List.mem_cons_of_mem _ wd_261) ⟨Nat.le_of_ble_eq_true rfl, Nat.le_of_ble_eq_true rfl⟩ dX0_setCell_21) <|
  alls _ (s_iast dX0_setCell_24) <|
  alls _ s_fall (alls_nil _)
def KX0_setCell : List (Nat × pProg) := [(0, kX0_setCell_0), (25, kX0_setCell_25)]
theorem bX0_setCell_0 : blkOf KX0_setCell 0 = some kX0_setCell_0 := rfl
theorem bX0_setCell_25 : blkOf KX0_setCell 25 = some kX0_setCell_25 := rfl
def tX0_setCell : pT := pM KX0_setCell 3
theorem ct_X0_setCell (l : Launch) : pCtr l yX0_setCell wsX0_setCell rmX0_setCell 3 tX0_setCell := ctr_of (by decide +kernel) rfl (List.forall_mem_cons.mpr ⟨sX0_setCell_0 l, List.forall_mem_cons.mpr ⟨sX0_setCell_25 l, fun _ h => absurd h List.not_mem_nil⟩⟩)
theorem dX0_walk_0 : decode cX0_walk 0 = .ok (.aload_n 0, 1) := by decide +kernel
theorem dX0_walk_1 : decode cX0_walk 1 = .ok (.iload_n 1, 1) := by decide +kernel
theorem dX0_walk_2 : decode cX0_walk 2 = .ok (.invokevirtual 73, 3) := by decide +kernel
theorem dX0_walk_5 : decode cX0_walk 5 = .ok (.ifCond .eq 4, 3) := by decide +kernel
theorem dX0_walk_8 : decode cX0_walk 8 = .ok (.return_, 1) := by decide +kernel
theorem dX0_walk_9 : decode cX0_walk 9 = .ok (.iload_n 2, 1) := by decide +kernel
theorem dX0_walk_10 : decode cX0_walk 10 = .ok (.ifCond .eq 30, 3) := by decide +kernel
theorem dX0_walk_13 : decode cX0_walk 13 = .ok (.iload_n 2, 1) := by decide +kernel
theorem dX0_walk_14 : decode cX0_walk 14 = .ok (.iconst 1, 1) := by decide +kernel
theorem dX0_walk_15 : decode cX0_walk 15 = .ok (.if_icmp .eq 25, 3) := by decide +kernel
theorem dX0_walk_18 : decode cX0_walk 18 = .ok (.aload_n 0, 1) := by decide +kernel
theorem dX0_walk_19 : decode cX0_walk 19 = .ok (.iload_n 1, 1) := by decide +kernel
theorem dX0_walk_20 : decode cX0_walk 20 = .ok (.aload_n 0, 1) := by decide +kernel
theorem dX0_walk_21 : decode cX0_walk 21 = .ok (.iload_n 1, 1) := by decide +kernel
theorem dX0_walk_22 : decode cX0_walk 22 = .ok (.invokevirtual 70, 3) := by decide +kernel
theorem dX0_walk_25 : decode cX0_walk 25 = .ok (.aload_n 0, 1) := by decide +kernel
theorem dX0_walk_26 : decode cX0_walk 26 = .ok (.iconst 2, 1) := by decide +kernel
theorem dX0_walk_27 : decode cX0_walk 27 = .ok (.iload_n 1, 1) := by decide +kernel
theorem dX0_walk_28 : decode cX0_walk 28 = .ok (.imul, 1) := by decide +kernel
theorem dX0_walk_29 : decode cX0_walk 29 = .ok (.invokevirtual 50, 3) := by decide +kernel
theorem dX0_walk_32 : decode cX0_walk 32 = .ok (.invokestatic 99, 3) := by decide +kernel
theorem dX0_walk_35 : decode cX0_walk 35 = .ok (.iadd, 1) := by decide +kernel
theorem dX0_walk_36 : decode cX0_walk 36 = .ok (.invokevirtual 102, 3) := by decide +kernel
theorem dX0_walk_39 : decode cX0_walk 39 = .ok (.return_, 1) := by decide +kernel
theorem dX0_walk_40 : decode cX0_walk 40 = .ok (.iconst 2, 1) := by decide +kernel
theorem dX0_walk_41 : decode cX0_walk 41 = .ok (.iload_n 1, 1) := by decide +kernel
theorem dX0_walk_42 : decode cX0_walk 42 = .ok (.imul, 1) := by decide +kernel
theorem dX0_walk_43 : decode cX0_walk 43 = .ok (.iload_n 2, 1) := by decide +kernel
theorem dX0_walk_44 : decode cX0_walk 44 = .ok (.iadd, 1) := by decide +kernel
theorem dX0_walk_45 : decode cX0_walk 45 = .ok (.istore_n 3, 1) := by decide +kernel
theorem dX0_walk_46 : decode cX0_walk 46 = .ok (.aload_n 0, 1) := by decide +kernel
theorem dX0_walk_47 : decode cX0_walk 47 = .ok (.iload_n 1, 1) := by decide +kernel
theorem dX0_walk_48 : decode cX0_walk 48 = .ok (.aload_n 0, 1) := by decide +kernel
theorem dX0_walk_49 : decode cX0_walk 49 = .ok (.iload_n 1, 1) := by decide +kernel
theorem dX0_walk_50 : decode cX0_walk 50 = .ok (.invokevirtual 77, 3) := by decide +kernel
theorem dX0_walk_53 : decode cX0_walk 53 = .ok (.iconst 1, 1) := by decide +kernel
theorem dX0_walk_54 : decode cX0_walk 54 = .ok (.isub, 1) := by decide +kernel
theorem dX0_walk_55 : decode cX0_walk 55 = .ok (.invokevirtual 105, 3) := by decide +kernel
theorem dX0_walk_58 : decode cX0_walk 58 = .ok (.aload_n 0, 1) := by decide +kernel
theorem dX0_walk_59 : decode cX0_walk 59 = .ok (.iload_n 1, 1) := by decide +kernel
theorem dX0_walk_60 : decode cX0_walk 60 = .ok (.aload_n 0, 1) := by decide +kernel
theorem dX0_walk_61 : decode cX0_walk 61 = .ok (.iload_n 1, 1) := by decide +kernel
theorem dX0_walk_62 : decode cX0_walk 62 = .ok (.invokevirtual 70, 3) := by decide +kernel
theorem dX0_walk_65 : decode cX0_walk 65 = .ok (.iconst 1, 1) := by decide +kernel
theorem dX0_walk_66 : decode cX0_walk 66 = .ok (.iadd, 1) := by decide +kernel
theorem dX0_walk_67 : decode cX0_walk 67 = .ok (.invokevirtual 102, 3) := by decide +kernel
theorem dX0_walk_70 : decode cX0_walk 70 = .ok (.aload_n 0, 1) := by decide +kernel
theorem dX0_walk_71 : decode cX0_walk 71 = .ok (.iload_n 3, 1) := by decide +kernel
theorem dX0_walk_72 : decode cX0_walk 72 = .ok (.aload_n 0, 1) := by decide +kernel
theorem dX0_walk_73 : decode cX0_walk 73 = .ok (.iload_n 3, 1) := by decide +kernel
theorem dX0_walk_74 : decode cX0_walk 74 = .ok (.invokevirtual 57, 3) := by decide +kernel
theorem dX0_walk_77 : decode cX0_walk 77 = .ok (.aload_n 0, 1) := by decide +kernel
theorem dX0_walk_78 : decode cX0_walk 78 = .ok (.aload_n 0, 1) := by decide +kernel
theorem dX0_walk_79 : decode cX0_walk 79 = .ok (.iload_n 1, 1) := by decide +kernel
theorem dX0_walk_80 : decode cX0_walk 80 = .ok (.invokevirtual 70, 3) := by decide +kernel
theorem dX0_walk_83 : decode cX0_walk 83 = .ok (.invokevirtual 80, 3) := by decide +kernel
theorem dX0_walk_86 : decode cX0_walk 86 = .ok (.iadd, 1) := by decide +kernel
theorem dX0_walk_87 : decode cX0_walk 87 = .ok (.invokevirtual 67, 3) := by decide +kernel
theorem dX0_walk_90 : decode cX0_walk 90 = .ok (.return_, 1) := by decide +kernel
def rmX0_walk : Room := { frames := 2, cells := 0, slots := 0, locals := 43 }
abbrev wsX0_walk : List Cond := .code yX0_walk cX0_walk 4 none :: gw_tbl
def kX0_walk_40 : pProg := (40, 1, a_iconst 2) :: (41, 1, a_iload 1) :: (42, 1, a_imul) :: (43, 1, a_iload 2) :: (44, 1, a_iadd) :: (45, 1, a_istore 3) :: (46, 1, a_aload 0) :: (47, 1, a_iload 1) :: (48, 1, a_aload 0) :: (49, 1, a_iload 1) :: (50, 3, a_callv 2 0 [0, 1, 2, 3, 4, 5, 6] tX0_toSayOf) :: (53, 1, a_iconst 1) :: (54, 1, a_isub) :: (55, 3, a_callv 3 0 [0, 1, 2, 3, 4, 5, 6] tX0_setToSay) :: (58, 1, a_aload 0) :: (59, 1, a_iload 1) :: (60, 1, a_aload 0) :: (61, 1, a_iload 1) :: (62, 3, a_callv 2 0 [0, 1, 2, 3, 4, 5, 6] tX0_cellOf) :: (65, 1, a_iconst 1) :: (66, 1, a_iadd) :: (67, 3, a_callv 3 0 [0, 1, 2, 3, 4, 5, 6] tX0_setCell) :: (70, 1, a_aload 0) :: (71, 1, a_iload 3) :: (72, 1, a_aload 0) :: (73, 1, a_iload 3) :: (74, 3, a_callv 2 0 [0, 1, 2, 3, 4, 5, 6] tX0_bruisesOf) :: (77, 1, a_aload 0) :: (78, 1, a_aload 0) :: (79, 1, a_iload 1) :: (80, 3, a_callv 2 0 [0, 1, 2, 3, 4, 5, 6] tX0_cellOf) :: (83, 3, a_callv 2 0 [0, 1, 2, 3, 4, 5, 6] tX0_beamsIn) :: (86, 1, a_iadd) :: (87, 3, a_callv 3 0 [0, 1, 2, 3, 4, 5, 6] tX0_setBruises) :: (90, 1, a_vret) :: []
def kX0_walk_9 : pProg := (9, 1, a_iload 2) :: (10, 3, a_if_eq 40) :: (13, 1, a_iload 2) :: (14, 1, a_iconst 1) :: (15, 3, a_icmp_eq 40) :: (18, 1, a_aload 0) :: (19, 1, a_iload 1) :: (20, 1, a_aload 0) :: (21, 1, a_iload 1) :: (22, 3, a_callv 2 0 [0, 1, 2, 3, 4, 5, 6] tX0_cellOf) :: (25, 1, a_aload 0) :: (26, 1, a_iconst 2) :: (27, 1, a_iload 1) :: (28, 1, a_imul) :: (29, 3, a_callv 2 0 [0, 1, 2, 3, 4, 5, 6] tX0_kindOf) :: (32, 3, a_calls 1 [] tX1_goes) :: (35, 1, a_iadd) :: (36, 3, a_callv 3 0 [0, 1, 2, 3, 4, 5, 6] tX0_setCell) :: (39, 1, a_vret) :: []
def kX0_walk_0 : pProg := (0, 1, a_aload 0) :: (1, 1, a_iload 1) :: (2, 3, a_callv 2 0 [0, 1, 2, 3, 4, 5, 6] tX0_isFaced) :: (5, 3, a_if_eq 9) :: (8, 1, a_vret) :: []
set_option maxRecDepth 100000 in
theorem sX0_walk_40 (l : Launch) : AllS (pSnd l rmX0_walk yX0_walk.cls cX0_walk wsX0_walk 4 none) 40 kX0_walk_40 :=
  alls _ (s_iconst dX0_walk_40) <|
  alls _ (s_iload_n rfl dX0_walk_41) <|
  alls _ (s_imul dX0_walk_42) <|
  alls _ (s_iload_n rfl dX0_walk_43) <|
  alls _ (s_iadd dX0_walk_44) <|
  alls _ (s_istore_n rfl dX0_walk_45) <|
  alls _ (s_aload_n rfl dX0_walk_46) <|
  alls _ (s_iload_n rfl dX0_walk_47) <|
  alls _ (s_aload_n rfl dX0_walk_48) <|
  alls _ (s_iload_n rfl dX0_walk_49) <|
  alls _ (s_callv (ct_X0_toSayOf l) rfl rfl rfl (gdV wd_309 wd_263 wd_264 wd_61 wd_265) rfl rfl (by decide +kernel) ⟨Nat.le_of_ble_eq_true rfl, Nat.le_of_ble_eq_true rfl⟩ dX0_walk_50) <|
  alls _ (s_iconst dX0_walk_53) <|
  alls _ (s_isub dX0_walk_54) <|
  alls _ (s_callv (ct_X0_setToSay l) rfl rfl rfl (gdV wd_329 wd_267 wd_268 wd_61 wd_269) rfl rfl (by decide +kernel) ⟨Nat.le_of_ble_eq_true rfl, Nat.le_of_ble_eq_true rfl⟩ dX0_walk_55) <|
  alls _ (s_aload_n rfl dX0_walk_58) <|
  alls _ (s_iload_n rfl dX0_walk_59) <|
  alls _ (s_aload_n rfl dX0_walk_60) <|
  alls _ (s_iload_n rfl dX0_walk_61) <|
  alls _ (s_callv (ct_X0_cellOf l) rfl rfl rfl (gdV wd_305 wd_306 wd_307 wd_61 wd_308) rfl rfl (by decide +kernel) ⟨Nat.le_of_ble_eq_true rfl, Nat.le_of_ble_eq_true rfl⟩ dX0_walk_62) <|
  alls _ (s_iconst dX0_walk_65) <|
  alls _ (s_iadd dX0_walk_66) <|
  alls _ (s_callv (ct_X0_setCell l) rfl rfl rfl (gdV wd_328 wd_256 wd_257 wd_61 wd_258) rfl rfl (by decide +kernel) ⟨Nat.le_of_ble_eq_true rfl, Nat.le_of_ble_eq_true rfl⟩ dX0_walk_67) <|
  alls _ (s_aload_n rfl dX0_walk_70) <|
  alls _ (s_iload_n rfl dX0_walk_71) <|
  alls _ (s_aload_n rfl dX0_walk_72) <|
  alls _ (s_iload_n rfl dX0_walk_73) <|
  alls _ (s_callv (ct_X0_bruisesOf l) rfl rfl rfl (gdV wd_283 wd_284 wd_285 wd_61 wd_286) rfl rfl (by decide +kernel) ⟨Nat.le_of_ble_eq_true rfl, Nat.le_of_ble_eq_true rfl⟩ dX0_walk_74) <|
  alls _ (s_aload_n rfl dX0_walk_77) <|
  alls _ (s_aload_n rfl dX0_walk_78) <|
  alls _ (s_iload_n rfl dX0_walk_79) <|
  alls _ (s_callv (ct_X0_cellOf l) rfl rfl rfl (gdV wd_305 wd_306 wd_307 wd_61 wd_308) rfl rfl (by decide +kernel) ⟨Nat.le_of_ble_eq_true rfl, Nat.le_of_ble_eq_true rfl⟩ dX0_walk_80) <|
  alls _ (s_callv (ct_X0_beamsIn l) rfl rfl rfl (gdV wd_310 wd_311 wd_312 wd_61 wd_313) rfl rfl (by decide +kernel) ⟨Nat.le_of_ble_eq_true rfl, Nat.le_of_ble_eq_true rfl⟩ dX0_walk_83) <|
  alls _ (s_iadd dX0_walk_86) <|
  alls _ (s_callv (ct_X0_setBruises l) rfl rfl rfl (gdV wd_289 wd_290 wd_291 wd_61 wd_292) rfl rfl (by decide +kernel) ⟨Nat.le_of_ble_eq_true rfl, Nat.le_of_ble_eq_true rfl⟩ dX0_walk_87) <|
  alls _ (s_vret dX0_walk_90) <|
  alls_nil _
set_option maxRecDepth 100000 in
theorem sX0_walk_9 (l : Launch) : AllS (pSnd l rmX0_walk yX0_walk.cls cX0_walk wsX0_walk 4 none) 9 kX0_walk_9 :=
  alls _ (s_iload_n rfl dX0_walk_9) <|
  alls _ (s_if_eq (by decide) dX0_walk_10) <|
  alls _ (s_iload_n rfl dX0_walk_13) <|
  alls _ (s_iconst dX0_walk_14) <|
  alls _ (s_icmp_eq (by decide) dX0_walk_15) <|
  alls _ (s_aload_n rfl dX0_walk_18) <|
  alls _ (s_iload_n rfl dX0_walk_19) <|
  alls _ (s_aload_n rfl dX0_walk_20) <|
  alls _ (s_iload_n rfl dX0_walk_21) <|
  alls _ (s_callv (ct_X0_cellOf l) rfl rfl rfl (gdV wd_305 wd_306 wd_307 wd_61 wd_308) rfl rfl (by decide +kernel) ⟨Nat.le_of_ble_eq_true rfl, Nat.le_of_ble_eq_true rfl⟩ dX0_walk_22) <|
  alls _ (s_aload_n rfl dX0_walk_25) <|
  alls _ (s_iconst dX0_walk_26) <|
  alls _ (s_iload_n rfl dX0_walk_27) <|
  alls _ (s_imul dX0_walk_28) <|
  alls _ (s_callv (ct_X0_kindOf l) rfl rfl rfl (gdV wd_275 wd_276 wd_277 wd_61 wd_278) rfl rfl (by decide +kernel) ⟨Nat.le_of_ble_eq_true rfl, Nat.le_of_ble_eq_true rfl⟩ dX0_walk_29) <|
  alls _ (s_calls (ct_X1_goes l) rfl rfl (gdS wd_327) (List.mem_cons_of_mem _ wd_325) (List.mem_cons_of_mem _ wd_326) (List.mem_cons_of_mem _ wd_67) rfl rfl (by decide +kernel) ⟨Nat.le_of_ble_eq_true rfl, Nat.le_of_ble_eq_true rfl⟩ dX0_walk_32) <|
  alls _ (s_iadd dX0_walk_35) <|
  alls _ (s_callv (ct_X0_setCell l) rfl rfl rfl (gdV wd_328 wd_256 wd_257 wd_61 wd_258) rfl rfl (by decide +kernel) ⟨Nat.le_of_ble_eq_true rfl, Nat.le_of_ble_eq_true rfl⟩ dX0_walk_36) <|
  alls _ (s_vret dX0_walk_39) <|
  alls_nil _
set_option maxRecDepth 100000 in
theorem sX0_walk_0 (l : Launch) : AllS (pSnd l rmX0_walk yX0_walk.cls cX0_walk wsX0_walk 4 none) 0 kX0_walk_0 :=
  alls _ (s_aload_n rfl dX0_walk_0) <|
  alls _ (s_iload_n rfl dX0_walk_1) <|
  alls _ (s_callv (ct_X0_isFaced l) rfl rfl rfl (gdV wd_321 wd_322 wd_323 wd_61 wd_324) rfl rfl (by decide +kernel) ⟨Nat.le_of_ble_eq_true rfl, Nat.le_of_ble_eq_true rfl⟩ dX0_walk_2) <|
  alls _ (s_if_eq (by decide) dX0_walk_5) <|
  alls _ (s_vret dX0_walk_8) <|
  alls_nil _
def KX0_walk : List (Nat × pProg) := [(0, kX0_walk_0), (9, kX0_walk_9), (40, kX0_walk_40)]
theorem bX0_walk_0 : blkOf KX0_walk 0 = some kX0_walk_0 := rfl
theorem bX0_walk_9 : blkOf KX0_walk 9 = some kX0_walk_9 := rfl
theorem bX0_walk_40 : blkOf KX0_walk 40 = some kX0_walk_40 := rfl
def tX0_walk : pT := pM KX0_walk 4
theorem ct_X0_walk (l : Launch) : pCtr l yX0_walk wsX0_walk rmX0_walk 3 tX0_walk := ctr_of (by decide +kernel) rfl (List.forall_mem_cons.mpr ⟨sX0_walk_0 l, List.forall_mem_cons.mpr ⟨sX0_walk_9 l, List.forall_mem_cons.mpr ⟨sX0_walk_40 l, fun _ h => absurd h List.not_mem_nil⟩⟩⟩)
theorem dX0_pass_0 : decode cX0_pass 0 = .ok (.iconst 0, 1) := by decide +kernel
theorem dX0_pass_1 : decode cX0_pass 1 = .ok (.istore_n 2, 1) := by decide +kernel
theorem dX0_pass_2 : decode cX0_pass 2 = .ok (.iload_n 2, 1) := by decide +kernel
theorem dX0_pass_3 : decode cX0_pass 3 = .ok (.iload_n 1, 1) := by decide +kernel
theorem dX0_pass_4 : decode cX0_pass 4 = .ok (.if_icmp .ge 49, 3) := by decide +kernel
theorem dX0_pass_7 : decode cX0_pass 7 = .ok (.aload_n 0, 1) := by decide +kernel
theorem dX0_pass_8 : decode cX0_pass 8 = .ok (.dup, 1) := by decide +kernel
theorem dX0_pass_9 : decode cX0_pass 9 = .ok (.getfield 38, 3) := by decide +kernel
theorem dX0_pass_12 : decode cX0_pass 12 = .ok (.iconst 1, 1) := by decide +kernel
theorem dX0_pass_13 : decode cX0_pass 13 = .ok (.iadd, 1) := by decide +kernel
theorem dX0_pass_14 : decode cX0_pass 14 = .ok (.putfield 38, 3) := by decide +kernel
theorem dX0_pass_17 : decode cX0_pass 17 = .ok (.iconst 0, 1) := by decide +kernel
theorem dX0_pass_18 : decode cX0_pass 18 = .ok (.istore_n 3, 1) := by decide +kernel
theorem dX0_pass_19 : decode cX0_pass 19 = .ok (.iload_n 3, 1) := by decide +kernel
theorem dX0_pass_20 : decode cX0_pass 20 = .ok (.aload_n 0, 1) := by decide +kernel
theorem dX0_pass_21 : decode cX0_pass 21 = .ok (.getfield 34, 3) := by decide +kernel
theorem dX0_pass_24 : decode cX0_pass 24 = .ok (.if_icmp .ge 23, 3) := by decide +kernel
theorem dX0_pass_27 : decode cX0_pass 27 = .ok (.aload_n 0, 1) := by decide +kernel
theorem dX0_pass_28 : decode cX0_pass 28 = .ok (.iload_n 3, 1) := by decide +kernel
theorem dX0_pass_29 : decode cX0_pass 29 = .ok (.aload_n 0, 1) := by decide +kernel
theorem dX0_pass_30 : decode cX0_pass 30 = .ok (.iload_n 3, 1) := by decide +kernel
theorem dX0_pass_31 : decode cX0_pass 31 = .ok (.aload_n 0, 1) := by decide +kernel
theorem dX0_pass_32 : decode cX0_pass 32 = .ok (.getfield 38, 3) := by decide +kernel
theorem dX0_pass_35 : decode cX0_pass 35 = .ok (.invokevirtual 93, 3) := by decide +kernel
theorem dX0_pass_38 : decode cX0_pass 38 = .ok (.invokevirtual 96, 3) := by decide +kernel
theorem dX0_pass_41 : decode cX0_pass 41 = .ok (.iinc 3 1, 3) := by decide +kernel
theorem dX0_pass_44 : decode cX0_pass 44 = .ok (.goto (-25), 3) := by decide +kernel
theorem dX0_pass_47 : decode cX0_pass 47 = .ok (.iinc 2 1, 3) := by decide +kernel
theorem dX0_pass_50 : decode cX0_pass 50 = .ok (.goto (-48), 3) := by decide +kernel
theorem dX0_pass_53 : decode cX0_pass 53 = .ok (.return_, 1) := by decide +kernel
def rmX0_pass : Room := { frames := 3, cells := 0, slots := 0, locals := 71 }
abbrev wsX0_pass : List Cond := .code yX0_pass cX0_pass 4 none :: gw_tbl
def kX0_pass_53 : pProg := (53, 1, a_vret) :: []
def kX0_pass_47 : pProg := (47, 3, a_iinc 2 1) :: (50, 3, a_goto 2) :: []
def kX0_pass_19 : pProg := (19, 1, a_iload 3) :: (20, 1, a_aload 0) :: (21, 3, a_getf 0 0 6) :: (24, 3, a_icmp_ge 47) :: (27, 1, a_aload 0) :: (28, 1, a_iload 3) :: (29, 1, a_aload 0) :: (30, 1, a_iload 3) :: (31, 1, a_aload 0) :: (32, 3, a_getf 0 0 7) :: (35, 3, a_callv 3 0 [0, 1, 2, 3, 4, 5, 6] tX0_speakerIn) :: (38, 3, a_callv 3 0 [0, 1, 2, 3, 4, 5, 6] tX0_walk) :: (41, 3, a_iinc 3 1) :: (44, 3, a_goto 19) :: []
def kX0_pass_2 : pProg := (2, 1, a_iload 2) :: (3, 1, a_iload 1) :: (4, 3, a_icmp_ge 53) :: (7, 1, a_aload 0) :: (8, 1, a_dup) :: (9, 3, a_getf 0 0 7) :: (12, 1, a_iconst 1) :: (13, 1, a_iadd) :: (14, 3, a_putf 0 0 7 .int) :: (17, 1, a_iconst 0) :: (18, 1, a_istore 3) :: (19, 0, a_fall 19) :: []
def kX0_pass_0 : pProg := (0, 1, a_iconst 0) :: (1, 1, a_istore 2) :: (2, 0, a_fall 2) :: []
set_option maxRecDepth 100000 in
theorem sX0_pass_53 (l : Launch) : AllS (pSnd l rmX0_pass yX0_pass.cls cX0_pass wsX0_pass 4 none) 53 kX0_pass_53 :=
  alls _ (s_vret dX0_pass_53) <|
  alls_nil _
set_option maxRecDepth 100000 in
theorem sX0_pass_47 (l : Launch) : AllS (pSnd l rmX0_pass yX0_pass.cls cX0_pass wsX0_pass 4 none) 47 kX0_pass_47 :=
  alls _ (s_iinc dX0_pass_47) <|
  alls _ (s_goto (by decide) dX0_pass_50) <|
  alls_nil _
set_option maxRecDepth 100000 in
theorem sX0_pass_19 (l : Launch) : AllS (pSnd l rmX0_pass yX0_pass.cls cX0_pass wsX0_pass 4 none) 19 kX0_pass_19 :=
  alls _ (s_iload_n rfl dX0_pass_19) <|
  alls _ (s_aload_n rfl dX0_pass_20) <|
  alls _ (s_getf (C := RX0) (T := TX0) (N := 8) rfl (in_c inX0) (by decide) (List.mem_cons_of_mem _ wd_89) rfl dX0_pass_21) <|
  alls _ (s_icmp_ge (by decide) dX0_pass_24) <|
  alls _ (s_aload_n rfl dX0_pass_27) <|
  alls _ (s_iload_n rfl dX0_pass_28) <|
  alls _ (s_aload_n rfl dX0_pass_29) <|
  alls _ (s_iload_n rfl dX0_pass_30) <|
  alls _ (s_aload_n rfl dX0_pass_31) <|
  alls _ (s_getf (C := RX0) (T := TX0) (N := 8) rfl (in_c inX0) (by decide) (List.mem_cons_of_mem _ wd_90) rfl dX0_pass_32) <|
  alls _ (s_callv (ct_X0_speakerIn l) rfl rfl rfl (gdV wd_297 wd_298 wd_299 wd_61 wd_300) rfl rfl (by decide +kernel) ⟨Nat.le_of_ble_eq_true rfl, Nat.le_of_ble_eq_true rfl⟩ dX0_pass_35) <|
  alls _ (s_callv (ct_X0_walk l) rfl rfl rfl (gdV wd_317 wd_318 wd_319 wd_61 wd_320) rfl rfl (by decide +kernel) ⟨Nat.le_of_ble_eq_true rfl, Nat.le_of_ble_eq_true rfl⟩ dX0_pass_38) <|
  alls _ (s_iinc dX0_pass_41) <|
  alls _ (s_goto (by decide) dX0_pass_44) <|
  alls_nil _
set_option maxRecDepth 100000 in
theorem sX0_pass_2 (l : Launch) : AllS (pSnd l rmX0_pass yX0_pass.cls cX0_pass wsX0_pass 4 none) 2 kX0_pass_2 :=
  alls _ (s_iload_n rfl dX0_pass_2) <|
  alls _ (s_iload_n rfl dX0_pass_3) <|
  alls _ (s_icmp_ge (by decide) dX0_pass_4) <|
  alls _ (s_aload_n rfl dX0_pass_7) <|
  alls _ (s_dup dX0_pass_8) <|
  alls _ (s_getf (C := RX0) (T := TX0) (N := 8) rfl (in_c inX0) (by decide) (List.mem_cons_of_mem _ wd_90) rfl dX0_pass_9) <|
  alls _ (s_iconst dX0_pass_12) <|
  alls _ (s_iadd dX0_pass_13) <|
  alls _ (s_putf (C := RX0) (T := TX0) (N := 8) tyX0 rfl (in_c inX0) tyX0_ok nmX0 (by decide) (List.mem_cons_of_mem _ wd_90) rfl rfl (tyX0_ok 7 (by decide)) dX0_pass_14) <|
  alls _ (s_iconst dX0_pass_17) <|
  alls _ (s_istore_n rfl dX0_pass_18) <|
  alls _ s_fall (alls_nil _)
set_option maxRecDepth 100000 in
theorem sX0_pass_0 (l : Launch) : AllS (pSnd l rmX0_pass yX0_pass.cls cX0_pass wsX0_pass 4 none) 0 kX0_pass_0 :=
  alls _ (s_iconst dX0_pass_0) <|
  alls _ (s_istore_n rfl dX0_pass_1) <|
  alls _ s_fall (alls_nil _)
def KX0_pass : List (Nat × pProg) := [(0, kX0_pass_0), (2, kX0_pass_2), (19, kX0_pass_19), (47, kX0_pass_47), (53, kX0_pass_53)]
theorem bX0_pass_0 : blkOf KX0_pass 0 = some kX0_pass_0 := rfl
theorem bX0_pass_2 : blkOf KX0_pass 2 = some kX0_pass_2 := rfl
theorem bX0_pass_19 : blkOf KX0_pass 19 = some kX0_pass_19 := rfl
theorem bX0_pass_47 : blkOf KX0_pass 47 = some kX0_pass_47 := rfl
theorem bX0_pass_53 : blkOf KX0_pass 53 = some kX0_pass_53 := rfl
def tX0_pass : pT := pM KX0_pass 4
theorem ct_X0_pass (l : Launch) : pCtr l yX0_pass wsX0_pass rmX0_pass 2 tX0_pass := ctr_of (by decide +kernel) rfl (List.forall_mem_cons.mpr ⟨sX0_pass_0 l, List.forall_mem_cons.mpr ⟨sX0_pass_2 l, List.forall_mem_cons.mpr ⟨sX0_pass_19 l, List.forall_mem_cons.mpr ⟨sX0_pass_47 l, List.forall_mem_cons.mpr ⟨sX0_pass_53 l, fun _ h => absurd h List.not_mem_nil⟩⟩⟩⟩⟩)
theorem dX0_setBeams_0 : decode cX0_setBeams 0 = .ok (.iload_n 1, 1) := by decide +kernel
theorem dX0_setBeams_1 : decode cX0_setBeams 1 = .ok (.ifCond .lt 19, 3) := by decide +kernel
theorem dX0_setBeams_4 : decode cX0_setBeams 4 = .ok (.iload_n 1, 1) := by decide +kernel
theorem dX0_setBeams_5 : decode cX0_setBeams 5 = .ok (.aload_n 0, 1) := by decide +kernel
theorem dX0_setBeams_6 : decode cX0_setBeams 6 = .ok (.getfield 9, 3) := by decide +kernel
theorem dX0_setBeams_9 : decode cX0_setBeams 9 = .ok (.arraylength, 1) := by decide +kernel
theorem dX0_setBeams_10 : decode cX0_setBeams 10 = .ok (.if_icmp .ge 10, 3) := by decide +kernel
theorem dX0_setBeams_13 : decode cX0_setBeams 13 = .ok (.aload_n 0, 1) := by decide +kernel
theorem dX0_setBeams_14 : decode cX0_setBeams 14 = .ok (.getfield 9, 3) := by decide +kernel
theorem dX0_setBeams_17 : decode cX0_setBeams 17 = .ok (.iload_n 1, 1) := by decide +kernel
theorem dX0_setBeams_18 : decode cX0_setBeams 18 = .ok (.iload_n 2, 1) := by decide +kernel
theorem dX0_setBeams_19 : decode cX0_setBeams 19 = .ok (.iastore, 1) := by decide +kernel
theorem dX0_setBeams_20 : decode cX0_setBeams 20 = .ok (.return_, 1) := by decide +kernel
def rmX0_setBeams : Room := { frames := 0, cells := 0, slots := 0, locals := 0 }
abbrev wsX0_setBeams : List Cond := .code yX0_setBeams cX0_setBeams 3 none :: gw_tbl
def kX0_setBeams_20 : pProg := (20, 1, a_vret) :: []
def kX0_setBeams_0 : pProg := (0, 1, a_iload 1) :: (1, 3, a_if_lt 20) :: (4, 1, a_iload 1) :: (5, 1, a_aload 0) :: (6, 3, a_getf 0 0 0) :: (9, 1, a_alen 1) :: (10, 3, a_icmp_ge 20) :: (13, 1, a_aload 0) :: (14, 3, a_getf 0 0 0) :: (17, 1, a_iload 1) :: (18, 1, a_iload 2) :: (19, 1, a_iast 1) :: (20, 0, a_fall 20) :: []
set_option maxRecDepth 100000 in
theorem sX0_setBeams_20 (l : Launch) : AllS (pSnd l rmX0_setBeams yX0_setBeams.cls cX0_setBeams wsX0_setBeams 3 none) 20 kX0_setBeams_20 :=
  alls _ (s_vret dX0_setBeams_20) <|
  alls_nil _
set_option maxRecDepth 100000 in
theorem sX0_setBeams_0 (l : Launch) : AllS (pSnd l rmX0_setBeams yX0_setBeams.cls cX0_setBeams wsX0_setBeams 3 none) 0 kX0_setBeams_0 :=
  alls _ (s_iload_n rfl dX0_setBeams_0) <|
  alls _ (s_if_lt (by decide) dX0_setBeams_1) <|
  alls _ (s_iload_n rfl dX0_setBeams_4) <|
  alls _ (s_aload_n rfl dX0_setBeams_5) <|
  alls _ (s_getf (C := RX0) (T := TX0) (N := 8) rfl (in_c inX0) (by decide) (List.mem_cons_of_mem _ wd_83) rfl dX0_setBeams_6) <|
  alls _ (s_alen dX0_setBeams_9) <|
  alls _ (s_icmp_ge (by decide) dX0_setBeams_10) <|
  alls _ (s_aload_n rfl dX0_setBeams_13) <|
  alls _ (s_getf (C := RX0) (T := TX0) (N := 8) rfl (in_c inX0) (by decide) (List.mem_cons_of_mem _ wd_83) rfl dX0_setBeams_14) <|
  alls _ (s_iload_n rfl dX0_setBeams_17) <|
  alls _ (s_iload_n rfl dX0_setBeams_18) <|
  alls _ (s_iast dX0_setBeams_19) <|
  alls _ s_fall (alls_nil _)
def KX0_setBeams : List (Nat × pProg) := [(0, kX0_setBeams_0), (20, kX0_setBeams_20)]
theorem bX0_setBeams_0 : blkOf KX0_setBeams 0 = some kX0_setBeams_0 := rfl
theorem bX0_setBeams_20 : blkOf KX0_setBeams 20 = some kX0_setBeams_20 := rfl
def tX0_setBeams : pT := pM KX0_setBeams 3
theorem ct_X0_setBeams (l : Launch) : pCtr l yX0_setBeams wsX0_setBeams rmX0_setBeams 3 tX0_setBeams := ctr_of (by decide +kernel) rfl (List.forall_mem_cons.mpr ⟨sX0_setBeams_0 l, List.forall_mem_cons.mpr ⟨sX0_setBeams_20 l, fun _ h => absurd h List.not_mem_nil⟩⟩)
theorem dX0_isMiner_0 : decode cX0_isMiner 0 = .ok (.iload_n 1, 1) := by decide +kernel
theorem dX0_isMiner_1 : decode cX0_isMiner 1 = .ok (.ifCond .lt 23, 3) := by decide +kernel
theorem dX0_isMiner_4 : decode cX0_isMiner 4 = .ok (.iload_n 1, 1) := by decide +kernel
theorem dX0_isMiner_5 : decode cX0_isMiner 5 = .ok (.iconst 2, 1) := by decide +kernel
theorem dX0_isMiner_6 : decode cX0_isMiner 6 = .ok (.aload_n 0, 1) := by decide +kernel
theorem dX0_isMiner_7 : decode cX0_isMiner 7 = .ok (.getfield 34, 3) := by decide +kernel
theorem dX0_isMiner_10 : decode cX0_isMiner 10 = .ok (.imul, 1) := by decide +kernel
theorem dX0_isMiner_11 : decode cX0_isMiner 11 = .ok (.if_icmp .ge 13, 3) := by decide +kernel
theorem dX0_isMiner_14 : decode cX0_isMiner 14 = .ok (.iload_n 1, 1) := by decide +kernel
theorem dX0_isMiner_15 : decode cX0_isMiner 15 = .ok (.bipush 8, 2) := by decide +kernel
theorem dX0_isMiner_17 : decode cX0_isMiner 17 = .ok (.if_icmp .ge 7, 3) := by decide +kernel
theorem dX0_isMiner_20 : decode cX0_isMiner 20 = .ok (.iconst 1, 1) := by decide +kernel
theorem dX0_isMiner_21 : decode cX0_isMiner 21 = .ok (.goto 4, 3) := by decide +kernel
theorem dX0_isMiner_24 : decode cX0_isMiner 24 = .ok (.iconst 0, 1) := by decide +kernel
theorem dX0_isMiner_25 : decode cX0_isMiner 25 = .ok (.ireturn, 1) := by decide +kernel
def rmX0_isMiner : Room := { frames := 0, cells := 0, slots := 0, locals := 0 }
abbrev wsX0_isMiner : List Cond := .code yX0_isMiner cX0_isMiner 2 (some .boolean) :: gw_tbl
def kX0_isMiner_25 : pProg := (25, 1, a_zret) :: []
def kX0_isMiner_24 : pProg := (24, 1, a_iconst 0) :: (25, 0, a_fall 25) :: []
def kX0_isMiner_0 : pProg := (0, 1, a_iload 1) :: (1, 3, a_if_lt 24) :: (4, 1, a_iload 1) :: (5, 1, a_iconst 2) :: (6, 1, a_aload 0) :: (7, 3, a_getf 0 0 6) :: (10, 1, a_imul) :: (11, 3, a_icmp_ge 24) :: (14, 1, a_iload 1) :: (15, 2, a_iconst 8) :: (17, 3, a_icmp_ge 24) :: (20, 1, a_iconst 1) :: (21, 3, a_goto 25) :: []
set_option maxRecDepth 100000 in
theorem sX0_isMiner_25 (l : Launch) : AllS (pSnd l rmX0_isMiner yX0_isMiner.cls cX0_isMiner wsX0_isMiner 2 (some .boolean)) 25 kX0_isMiner_25 :=
  alls _ (s_zret dX0_isMiner_25) <|
  alls_nil _
set_option maxRecDepth 100000 in
theorem sX0_isMiner_24 (l : Launch) : AllS (pSnd l rmX0_isMiner yX0_isMiner.cls cX0_isMiner wsX0_isMiner 2 (some .boolean)) 24 kX0_isMiner_24 :=
  alls _ (s_iconst dX0_isMiner_24) <|
  alls _ s_fall (alls_nil _)
set_option maxRecDepth 100000 in
theorem sX0_isMiner_0 (l : Launch) : AllS (pSnd l rmX0_isMiner yX0_isMiner.cls cX0_isMiner wsX0_isMiner 2 (some .boolean)) 0 kX0_isMiner_0 :=
  alls _ (s_iload_n rfl dX0_isMiner_0) <|
  alls _ (s_if_lt (by decide) dX0_isMiner_1) <|
  alls _ (s_iload_n rfl dX0_isMiner_4) <|
  alls _ (s_iconst dX0_isMiner_5) <|
  alls _ (s_aload_n rfl dX0_isMiner_6) <|
  alls _ (s_getf (C := RX0) (T := TX0) (N := 8) rfl (in_c inX0) (by decide) (List.mem_cons_of_mem _ wd_89) rfl dX0_isMiner_7) <|
  alls _ (s_imul dX0_isMiner_10) <|
  alls _ (s_icmp_ge (by decide) dX0_isMiner_11) <|
  alls _ (s_iload_n rfl dX0_isMiner_14) <|
  alls _ (s_bipush (by decide) dX0_isMiner_15) <|
  alls _ (s_icmp_ge (by decide) dX0_isMiner_17) <|
  alls _ (s_iconst dX0_isMiner_20) <|
  alls _ (s_goto (by decide) dX0_isMiner_21) <|
  alls_nil _
def KX0_isMiner : List (Nat × pProg) := [(0, kX0_isMiner_0), (24, kX0_isMiner_24), (25, kX0_isMiner_25)]
theorem bX0_isMiner_0 : blkOf KX0_isMiner 0 = some kX0_isMiner_0 := rfl
theorem bX0_isMiner_24 : blkOf KX0_isMiner 24 = some kX0_isMiner_24 := rfl
theorem bX0_isMiner_25 : blkOf KX0_isMiner 25 = some kX0_isMiner_25 := rfl
def tX0_isMiner : pT := pM KX0_isMiner 2
theorem ct_X0_isMiner (l : Launch) : pCtr l yX0_isMiner wsX0_isMiner rmX0_isMiner 2 tX0_isMiner := ctr_of (by decide +kernel) rfl (List.forall_mem_cons.mpr ⟨sX0_isMiner_0 l, List.forall_mem_cons.mpr ⟨sX0_isMiner_24 l, List.forall_mem_cons.mpr ⟨sX0_isMiner_25 l, fun _ h => absurd h List.not_mem_nil⟩⟩⟩)
theorem dX0_isPair_0 : decode cX0_isPair 0 = .ok (.iload_n 1, 1) := by decide +kernel
theorem dX0_isPair_1 : decode cX0_isPair 1 = .ok (.ifCond .lt 20, 3) := by decide +kernel
theorem dX0_isPair_4 : decode cX0_isPair 4 = .ok (.iload_n 1, 1) := by decide +kernel
theorem dX0_isPair_5 : decode cX0_isPair 5 = .ok (.aload_n 0, 1) := by decide +kernel
theorem dX0_isPair_6 : decode cX0_isPair 6 = .ok (.getfield 34, 3) := by decide +kernel
theorem dX0_isPair_9 : decode cX0_isPair 9 = .ok (.if_icmp .ge 12, 3) := by decide +kernel
theorem dX0_isPair_12 : decode cX0_isPair 12 = .ok (.iload_n 1, 1) := by decide +kernel
theorem dX0_isPair_13 : decode cX0_isPair 13 = .ok (.iconst 4, 1) := by decide +kernel
theorem dX0_isPair_14 : decode cX0_isPair 14 = .ok (.if_icmp .ge 7, 3) := by decide +kernel
theorem dX0_isPair_17 : decode cX0_isPair 17 = .ok (.iconst 1, 1) := by decide +kernel
theorem dX0_isPair_18 : decode cX0_isPair 18 = .ok (.goto 4, 3) := by decide +kernel
theorem dX0_isPair_21 : decode cX0_isPair 21 = .ok (.iconst 0, 1) := by decide +kernel
theorem dX0_isPair_22 : decode cX0_isPair 22 = .ok (.ireturn, 1) := by decide +kernel
def rmX0_isPair : Room := { frames := 0, cells := 0, slots := 0, locals := 0 }
abbrev wsX0_isPair : List Cond := .code yX0_isPair cX0_isPair 2 (some .boolean) :: gw_tbl
def kX0_isPair_22 : pProg := (22, 1, a_zret) :: []
def kX0_isPair_21 : pProg := (21, 1, a_iconst 0) :: (22, 0, a_fall 22) :: []
def kX0_isPair_0 : pProg := (0, 1, a_iload 1) :: (1, 3, a_if_lt 21) :: (4, 1, a_iload 1) :: (5, 1, a_aload 0) :: (6, 3, a_getf 0 0 6) :: (9, 3, a_icmp_ge 21) :: (12, 1, a_iload 1) :: (13, 1, a_iconst 4) :: (14, 3, a_icmp_ge 21) :: (17, 1, a_iconst 1) :: (18, 3, a_goto 22) :: []
set_option maxRecDepth 100000 in
theorem sX0_isPair_22 (l : Launch) : AllS (pSnd l rmX0_isPair yX0_isPair.cls cX0_isPair wsX0_isPair 2 (some .boolean)) 22 kX0_isPair_22 :=
  alls _ (s_zret dX0_isPair_22) <|
  alls_nil _
set_option maxRecDepth 100000 in
theorem sX0_isPair_21 (l : Launch) : AllS (pSnd l rmX0_isPair yX0_isPair.cls cX0_isPair wsX0_isPair 2 (some .boolean)) 21 kX0_isPair_21 :=
  alls _ (s_iconst dX0_isPair_21) <|
  alls _ s_fall (alls_nil _)
set_option maxRecDepth 100000 in
theorem sX0_isPair_0 (l : Launch) : AllS (pSnd l rmX0_isPair yX0_isPair.cls cX0_isPair wsX0_isPair 2 (some .boolean)) 0 kX0_isPair_0 :=
  alls _ (s_iload_n rfl dX0_isPair_0) <|
  alls _ (s_if_lt (by decide) dX0_isPair_1) <|
  alls _ (s_iload_n rfl dX0_isPair_4) <|
  alls _ (s_aload_n rfl dX0_isPair_5) <|
  alls _ (s_getf (C := RX0) (T := TX0) (N := 8) rfl (in_c inX0) (by decide) (List.mem_cons_of_mem _ wd_89) rfl dX0_isPair_6) <|
  alls _ (s_icmp_ge (by decide) dX0_isPair_9) <|
  alls _ (s_iload_n rfl dX0_isPair_12) <|
  alls _ (s_iconst dX0_isPair_13) <|
  alls _ (s_icmp_ge (by decide) dX0_isPair_14) <|
  alls _ (s_iconst dX0_isPair_17) <|
  alls _ (s_goto (by decide) dX0_isPair_18) <|
  alls_nil _
def KX0_isPair : List (Nat × pProg) := [(0, kX0_isPair_0), (21, kX0_isPair_21), (22, kX0_isPair_22)]
theorem bX0_isPair_0 : blkOf KX0_isPair 0 = some kX0_isPair_0 := rfl
theorem bX0_isPair_21 : blkOf KX0_isPair 21 = some kX0_isPair_21 := rfl
theorem bX0_isPair_22 : blkOf KX0_isPair 22 = some kX0_isPair_22 := rfl
def tX0_isPair : pT := pM KX0_isPair 2
theorem ct_X0_isPair (l : Launch) : pCtr l yX0_isPair wsX0_isPair rmX0_isPair 2 tX0_isPair := ctr_of (by decide +kernel) rfl (List.forall_mem_cons.mpr ⟨sX0_isPair_0 l, List.forall_mem_cons.mpr ⟨sX0_isPair_21 l, List.forall_mem_cons.mpr ⟨sX0_isPair_22 l, fun _ h => absurd h List.not_mem_nil⟩⟩⟩)
theorem dX0_isCell_0 : decode cX0_isCell 0 = .ok (.iload_n 0, 1) := by decide +kernel
theorem dX0_isCell_1 : decode cX0_isCell 1 = .ok (.ifCond .lt 13, 3) := by decide +kernel
theorem dX0_isCell_4 : decode cX0_isCell 4 = .ok (.iload_n 0, 1) := by decide +kernel
theorem dX0_isCell_5 : decode cX0_isCell 5 = .ok (.bipush 20, 2) := by decide +kernel
theorem dX0_isCell_7 : decode cX0_isCell 7 = .ok (.if_icmp .ge 7, 3) := by decide +kernel
theorem dX0_isCell_10 : decode cX0_isCell 10 = .ok (.iconst 1, 1) := by decide +kernel
theorem dX0_isCell_11 : decode cX0_isCell 11 = .ok (.goto 4, 3) := by decide +kernel
theorem dX0_isCell_14 : decode cX0_isCell 14 = .ok (.iconst 0, 1) := by decide +kernel
theorem dX0_isCell_15 : decode cX0_isCell 15 = .ok (.ireturn, 1) := by decide +kernel
def rmX0_isCell : Room := { frames := 0, cells := 0, slots := 0, locals := 0 }
abbrev wsX0_isCell : List Cond := .code yX0_isCell cX0_isCell 1 (some .boolean) :: gw_tbl
def kX0_isCell_15 : pProg := (15, 1, a_zret) :: []
def kX0_isCell_14 : pProg := (14, 1, a_iconst 0) :: (15, 0, a_fall 15) :: []
def kX0_isCell_0 : pProg := (0, 1, a_iload 0) :: (1, 3, a_if_lt 14) :: (4, 1, a_iload 0) :: (5, 2, a_iconst 20) :: (7, 3, a_icmp_ge 14) :: (10, 1, a_iconst 1) :: (11, 3, a_goto 15) :: []
set_option maxRecDepth 100000 in
theorem sX0_isCell_15 (l : Launch) : AllS (pSnd l rmX0_isCell yX0_isCell.cls cX0_isCell wsX0_isCell 1 (some .boolean)) 15 kX0_isCell_15 :=
  alls _ (s_zret dX0_isCell_15) <|
  alls_nil _
set_option maxRecDepth 100000 in
theorem sX0_isCell_14 (l : Launch) : AllS (pSnd l rmX0_isCell yX0_isCell.cls cX0_isCell wsX0_isCell 1 (some .boolean)) 14 kX0_isCell_14 :=
  alls _ (s_iconst dX0_isCell_14) <|
  alls _ s_fall (alls_nil _)
set_option maxRecDepth 100000 in
theorem sX0_isCell_0 (l : Launch) : AllS (pSnd l rmX0_isCell yX0_isCell.cls cX0_isCell wsX0_isCell 1 (some .boolean)) 0 kX0_isCell_0 :=
  alls _ (s_iload_n rfl dX0_isCell_0) <|
  alls _ (s_if_lt (by decide) dX0_isCell_1) <|
  alls _ (s_iload_n rfl dX0_isCell_4) <|
  alls _ (s_bipush (by decide) dX0_isCell_5) <|
  alls _ (s_icmp_ge (by decide) dX0_isCell_7) <|
  alls _ (s_iconst dX0_isCell_10) <|
  alls _ (s_goto (by decide) dX0_isCell_11) <|
  alls_nil _
def KX0_isCell : List (Nat × pProg) := [(0, kX0_isCell_0), (14, kX0_isCell_14), (15, kX0_isCell_15)]
theorem bX0_isCell_0 : blkOf KX0_isCell 0 = some kX0_isCell_0 := rfl
theorem bX0_isCell_14 : blkOf KX0_isCell 14 = some kX0_isCell_14 := rfl
theorem bX0_isCell_15 : blkOf KX0_isCell 15 = some kX0_isCell_15 := rfl
def tX0_isCell : pT := pM KX0_isCell 1
theorem ct_X0_isCell (l : Launch) : pCtr l yX0_isCell wsX0_isCell rmX0_isCell 1 tX0_isCell := ctr_of (by decide +kernel) rfl (List.forall_mem_cons.mpr ⟨sX0_isCell_0 l, List.forall_mem_cons.mpr ⟨sX0_isCell_14 l, List.forall_mem_cons.mpr ⟨sX0_isCell_15 l, fun _ h => absurd h List.not_mem_nil⟩⟩⟩)
theorem dX0_facedBits_0 : decode cX0_facedBits 0 = .ok (.iconst 0, 1) := by decide +kernel
theorem dX0_facedBits_1 : decode cX0_facedBits 1 = .ok (.istore_n 1, 1) := by decide +kernel
theorem dX0_facedBits_2 : decode cX0_facedBits 2 = .ok (.iconst 0, 1) := by decide +kernel
theorem dX0_facedBits_3 : decode cX0_facedBits 3 = .ok (.istore_n 2, 1) := by decide +kernel
theorem dX0_facedBits_4 : decode cX0_facedBits 4 = .ok (.iload_n 2, 1) := by decide +kernel
theorem dX0_facedBits_5 : decode cX0_facedBits 5 = .ok (.aload_n 0, 1) := by decide +kernel
theorem dX0_facedBits_6 : decode cX0_facedBits 6 = .ok (.getfield 34, 3) := by decide +kernel
theorem dX0_facedBits_9 : decode cX0_facedBits 9 = .ok (.if_icmp .ge 27, 3) := by decide +kernel
theorem dX0_facedBits_12 : decode cX0_facedBits 12 = .ok (.iload_n 1, 1) := by decide +kernel
theorem dX0_facedBits_13 : decode cX0_facedBits 13 = .ok (.aload_n 0, 1) := by decide +kernel
theorem dX0_facedBits_14 : decode cX0_facedBits 14 = .ok (.iload_n 2, 1) := by decide +kernel
theorem dX0_facedBits_15 : decode cX0_facedBits 15 = .ok (.invokevirtual 73, 3) := by decide +kernel
theorem dX0_facedBits_18 : decode cX0_facedBits 18 = .ok (.ifCond .eq 9, 3) := by decide +kernel
theorem dX0_facedBits_21 : decode cX0_facedBits 21 = .ok (.iconst 1, 1) := by decide +kernel
theorem dX0_facedBits_22 : decode cX0_facedBits 22 = .ok (.iload_n 2, 1) := by decide +kernel
theorem dX0_facedBits_23 : decode cX0_facedBits 23 = .ok (.ishl, 1) := by decide +kernel
theorem dX0_facedBits_24 : decode cX0_facedBits 24 = .ok (.goto 4, 3) := by decide +kernel
theorem dX0_facedBits_27 : decode cX0_facedBits 27 = .ok (.iconst 0, 1) := by decide +kernel
theorem dX0_facedBits_28 : decode cX0_facedBits 28 = .ok (.ior, 1) := by decide +kernel
theorem dX0_facedBits_29 : decode cX0_facedBits 29 = .ok (.istore_n 1, 1) := by decide +kernel
theorem dX0_facedBits_30 : decode cX0_facedBits 30 = .ok (.iinc 2 1, 3) := by decide +kernel
theorem dX0_facedBits_33 : decode cX0_facedBits 33 = .ok (.goto (-29), 3) := by decide +kernel
theorem dX0_facedBits_36 : decode cX0_facedBits 36 = .ok (.iload_n 1, 1) := by decide +kernel
theorem dX0_facedBits_37 : decode cX0_facedBits 37 = .ok (.ireturn, 1) := by decide +kernel
def rmX0_facedBits : Room := { frames := 2, cells := 0, slots := 0, locals := 42 }
abbrev wsX0_facedBits : List Cond := .code yX0_facedBits cX0_facedBits 3 (some .int) :: gw_tbl
def kX0_facedBits_36 : pProg := (36, 1, a_iload 1) :: (37, 1, a_iret) :: []
def kX0_facedBits_28 : pProg := (28, 1, a_ior) :: (29, 1, a_istore 1) :: (30, 3, a_iinc 2 1) :: (33, 3, a_goto 4) :: []
def kX0_facedBits_27 : pProg := (27, 1, a_iconst 0) :: (28, 0, a_fall 28) :: []
def kX0_facedBits_4 : pProg := (4, 1, a_iload 2) :: (5, 1, a_aload 0) :: (6, 3, a_getf 0 0 6) :: (9, 3, a_icmp_ge 36) :: (12, 1, a_iload 1) :: (13, 1, a_aload 0) :: (14, 1, a_iload 2) :: (15, 3, a_callv 2 0 [0, 1, 2, 3, 4, 5, 6] tX0_isFaced) :: (18, 3, a_if_eq 27) :: (21, 1, a_iconst 1) :: (22, 1, a_iload 2) :: (23, 1, a_ishl) :: (24, 3, a_goto 28) :: []
def kX0_facedBits_0 : pProg := (0, 1, a_iconst 0) :: (1, 1, a_istore 1) :: (2, 1, a_iconst 0) :: (3, 1, a_istore 2) :: (4, 0, a_fall 4) :: []
set_option maxRecDepth 100000 in
theorem sX0_facedBits_36 (l : Launch) : AllS (pSnd l rmX0_facedBits yX0_facedBits.cls cX0_facedBits wsX0_facedBits 3 (some .int)) 36 kX0_facedBits_36 :=
  alls _ (s_iload_n rfl dX0_facedBits_36) <|
  alls _ (s_iret dX0_facedBits_37) <|
  alls_nil _
set_option maxRecDepth 100000 in
theorem sX0_facedBits_28 (l : Launch) : AllS (pSnd l rmX0_facedBits yX0_facedBits.cls cX0_facedBits wsX0_facedBits 3 (some .int)) 28 kX0_facedBits_28 :=
  alls _ (s_ior dX0_facedBits_28) <|
  alls _ (s_istore_n rfl dX0_facedBits_29) <|
  alls _ (s_iinc dX0_facedBits_30) <|
  alls _ (s_goto (by decide) dX0_facedBits_33) <|
  alls_nil _
set_option maxRecDepth 100000 in
theorem sX0_facedBits_27 (l : Launch) : AllS (pSnd l rmX0_facedBits yX0_facedBits.cls cX0_facedBits wsX0_facedBits 3 (some .int)) 27 kX0_facedBits_27 :=
  alls _ (s_iconst dX0_facedBits_27) <|
  alls _ s_fall (alls_nil _)
set_option maxRecDepth 100000 in
theorem sX0_facedBits_4 (l : Launch) : AllS (pSnd l rmX0_facedBits yX0_facedBits.cls cX0_facedBits wsX0_facedBits 3 (some .int)) 4 kX0_facedBits_4 :=
  alls _ (s_iload_n rfl dX0_facedBits_4) <|
  alls _ (s_aload_n rfl dX0_facedBits_5) <|
  alls _ (s_getf (C := RX0) (T := TX0) (N := 8) rfl (in_c inX0) (by decide) (List.mem_cons_of_mem _ wd_89) rfl dX0_facedBits_6) <|
  alls _ (s_icmp_ge (by decide) dX0_facedBits_9) <|
  alls _ (s_iload_n rfl dX0_facedBits_12) <|
  alls _ (s_aload_n rfl dX0_facedBits_13) <|
  alls _ (s_iload_n rfl dX0_facedBits_14) <|
  alls _ (s_callv (ct_X0_isFaced l) rfl rfl rfl (gdV wd_321 wd_322 wd_323 wd_61 wd_324) rfl rfl (by decide +kernel) ⟨Nat.le_of_ble_eq_true rfl, Nat.le_of_ble_eq_true rfl⟩ dX0_facedBits_15) <|
  alls _ (s_if_eq (by decide) dX0_facedBits_18) <|
  alls _ (s_iconst dX0_facedBits_21) <|
  alls _ (s_iload_n rfl dX0_facedBits_22) <|
  alls _ (s_ishl dX0_facedBits_23) <|
  alls _ (s_goto (by decide) dX0_facedBits_24) <|
  alls_nil _
set_option maxRecDepth 100000 in
theorem sX0_facedBits_0 (l : Launch) : AllS (pSnd l rmX0_facedBits yX0_facedBits.cls cX0_facedBits wsX0_facedBits 3 (some .int)) 0 kX0_facedBits_0 :=
  alls _ (s_iconst dX0_facedBits_0) <|
  alls _ (s_istore_n rfl dX0_facedBits_1) <|
  alls _ (s_iconst dX0_facedBits_2) <|
  alls _ (s_istore_n rfl dX0_facedBits_3) <|
  alls _ s_fall (alls_nil _)
def KX0_facedBits : List (Nat × pProg) := [(0, kX0_facedBits_0), (4, kX0_facedBits_4), (27, kX0_facedBits_27), (28, kX0_facedBits_28), (36, kX0_facedBits_36)]
theorem bX0_facedBits_0 : blkOf KX0_facedBits 0 = some kX0_facedBits_0 := rfl
theorem bX0_facedBits_4 : blkOf KX0_facedBits 4 = some kX0_facedBits_4 := rfl
theorem bX0_facedBits_27 : blkOf KX0_facedBits 27 = some kX0_facedBits_27 := rfl
theorem bX0_facedBits_28 : blkOf KX0_facedBits 28 = some kX0_facedBits_28 := rfl
theorem bX0_facedBits_36 : blkOf KX0_facedBits 36 = some kX0_facedBits_36 := rfl
def tX0_facedBits : pT := pM KX0_facedBits 3
theorem ct_X0_facedBits (l : Launch) : pCtr l yX0_facedBits wsX0_facedBits rmX0_facedBits 1 tX0_facedBits := ctr_of (by decide +kernel) rfl (List.forall_mem_cons.mpr ⟨sX0_facedBits_0 l, List.forall_mem_cons.mpr ⟨sX0_facedBits_4 l, List.forall_mem_cons.mpr ⟨sX0_facedBits_27 l, List.forall_mem_cons.mpr ⟨sX0_facedBits_28 l, List.forall_mem_cons.mpr ⟨sX0_facedBits_36 l, fun _ h => absurd h List.not_mem_nil⟩⟩⟩⟩⟩)
theorem dX0_copy_0 : decode cX0_copy 0 = .ok (.aload_n 0, 1) := by decide +kernel
theorem dX0_copy_1 : decode cX0_copy 1 = .ok (.ifnull 7, 3) := by decide +kernel
theorem dX0_copy_4 : decode cX0_copy 4 = .ok (.aload_n 1, 1) := by decide +kernel
theorem dX0_copy_5 : decode cX0_copy 5 = .ok (.ifnonnull 4, 3) := by decide +kernel
theorem dX0_copy_9 : decode cX0_copy 9 = .ok (.iconst 0, 1) := by decide +kernel
theorem dX0_copy_10 : decode cX0_copy 10 = .ok (.istore_n 2, 1) := by decide +kernel
theorem dX0_copy_11 : decode cX0_copy 11 = .ok (.iload_n 2, 1) := by decide +kernel
theorem dX0_copy_12 : decode cX0_copy 12 = .ok (.aload_n 0, 1) := by decide +kernel
theorem dX0_copy_13 : decode cX0_copy 13 = .ok (.arraylength, 1) := by decide +kernel
theorem dX0_copy_14 : decode cX0_copy 14 = .ok (.if_icmp .ge 21, 3) := by decide +kernel
theorem dX0_copy_17 : decode cX0_copy 17 = .ok (.iload_n 2, 1) := by decide +kernel
theorem dX0_copy_18 : decode cX0_copy 18 = .ok (.aload_n 1, 1) := by decide +kernel
theorem dX0_copy_19 : decode cX0_copy 19 = .ok (.arraylength, 1) := by decide +kernel
theorem dX0_copy_20 : decode cX0_copy 20 = .ok (.if_icmp .ge 15, 3) := by decide +kernel
theorem dX0_copy_23 : decode cX0_copy 23 = .ok (.aload_n 1, 1) := by decide +kernel
theorem dX0_copy_24 : decode cX0_copy 24 = .ok (.iload_n 2, 1) := by decide +kernel
theorem dX0_copy_25 : decode cX0_copy 25 = .ok (.aload_n 0, 1) := by decide +kernel
theorem dX0_copy_26 : decode cX0_copy 26 = .ok (.iload_n 2, 1) := by decide +kernel
theorem dX0_copy_27 : decode cX0_copy 27 = .ok (.iaload, 1) := by decide +kernel
theorem dX0_copy_28 : decode cX0_copy 28 = .ok (.iastore, 1) := by decide +kernel
theorem dX0_copy_29 : decode cX0_copy 29 = .ok (.iinc 2 1, 3) := by decide +kernel
theorem dX0_copy_32 : decode cX0_copy 32 = .ok (.goto (-21), 3) := by decide +kernel
theorem dX0_copy_35 : decode cX0_copy 35 = .ok (.return_, 1) := by decide +kernel
def rmX0_copy : Room := { frames := 0, cells := 0, slots := 0, locals := 0 }
abbrev wsX0_copy : List Cond := .code yX0_copy cX0_copy 3 none :: gw_tbl
def kX0_copy_35 : pProg := (35, 1, a_vret) :: []
def kX0_copy_11 : pProg := (11, 1, a_iload 2) :: (12, 1, a_aload 0) :: (13, 1, a_alen 0) :: (14, 3, a_icmp_ge 35) :: (17, 1, a_iload 2) :: (18, 1, a_aload 1) :: (19, 1, a_alen 1) :: (20, 3, a_icmp_ge 35) :: (23, 1, a_aload 1) :: (24, 1, a_iload 2) :: (25, 1, a_aload 0) :: (26, 1, a_iload 2) :: (27, 1, a_iald 0) :: (28, 1, a_iast 1) :: (29, 3, a_iinc 2 1) :: (32, 3, a_goto 11) :: []
def kX0_copy_9 : pProg := (9, 1, a_iconst 0) :: (10, 1, a_istore 2) :: (11, 0, a_fall 11) :: []
def kX0_copy_0 : pProg := (0, 1, a_aload 0) :: (1, 3, a_ifnull) :: (4, 1, a_aload 1) :: (5, 3, a_ifnonnull 9) :: []
set_option maxRecDepth 100000 in
theorem sX0_copy_35 (l : Launch) : AllS (pSnd l rmX0_copy yX0_copy.cls cX0_copy wsX0_copy 3 none) 35 kX0_copy_35 :=
  alls _ (s_vret dX0_copy_35) <|
  alls_nil _
set_option maxRecDepth 100000 in
theorem sX0_copy_11 (l : Launch) : AllS (pSnd l rmX0_copy yX0_copy.cls cX0_copy wsX0_copy 3 none) 11 kX0_copy_11 :=
  alls _ (s_iload_n rfl dX0_copy_11) <|
  alls _ (s_aload_n rfl dX0_copy_12) <|
  alls _ (s_alen dX0_copy_13) <|
  alls _ (s_icmp_ge (by decide) dX0_copy_14) <|
  alls _ (s_iload_n rfl dX0_copy_17) <|
  alls _ (s_aload_n rfl dX0_copy_18) <|
  alls _ (s_alen dX0_copy_19) <|
  alls _ (s_icmp_ge (by decide) dX0_copy_20) <|
  alls _ (s_aload_n rfl dX0_copy_23) <|
  alls _ (s_iload_n rfl dX0_copy_24) <|
  alls _ (s_aload_n rfl dX0_copy_25) <|
  alls _ (s_iload_n rfl dX0_copy_26) <|
  alls _ (s_iald dX0_copy_27) <|
  alls _ (s_iast dX0_copy_28) <|
  alls _ (s_iinc dX0_copy_29) <|
  alls _ (s_goto (by decide) dX0_copy_32) <|
  alls_nil _
set_option maxRecDepth 100000 in
theorem sX0_copy_9 (l : Launch) : AllS (pSnd l rmX0_copy yX0_copy.cls cX0_copy wsX0_copy 3 none) 9 kX0_copy_9 :=
  alls _ (s_iconst dX0_copy_9) <|
  alls _ (s_istore_n rfl dX0_copy_10) <|
  alls _ s_fall (alls_nil _)
set_option maxRecDepth 100000 in
theorem sX0_copy_0 (l : Launch) : AllS (pSnd l rmX0_copy yX0_copy.cls cX0_copy wsX0_copy 3 none) 0 kX0_copy_0 :=
  alls _ (s_aload_n rfl dX0_copy_0) <|
  alls _ (s_ifnull dX0_copy_1) <|
  alls _ (s_aload_n rfl dX0_copy_4) <|
  alls _ (s_ifnonnull (by decide) dX0_copy_5) <|
  alls_nil _
def KX0_copy : List (Nat × pProg) := [(0, kX0_copy_0), (9, kX0_copy_9), (11, kX0_copy_11), (35, kX0_copy_35)]
theorem bX0_copy_0 : blkOf KX0_copy 0 = some kX0_copy_0 := rfl
theorem bX0_copy_9 : blkOf KX0_copy 9 = some kX0_copy_9 := rfl
theorem bX0_copy_11 : blkOf KX0_copy 11 = some kX0_copy_11 := rfl
theorem bX0_copy_35 : blkOf KX0_copy 35 = some kX0_copy_35 := rfl
def tX0_copy : pT := pM KX0_copy 3
theorem ct_X0_copy (l : Launch) : pCtr l yX0_copy wsX0_copy rmX0_copy 2 tX0_copy := ctr_of (by decide +kernel) rfl (List.forall_mem_cons.mpr ⟨sX0_copy_0 l, List.forall_mem_cons.mpr ⟨sX0_copy_9 l, List.forall_mem_cons.mpr ⟨sX0_copy_11 l, List.forall_mem_cons.mpr ⟨sX0_copy_35 l, fun _ h => absurd h List.not_mem_nil⟩⟩⟩⟩)
theorem dX0_become_0 : decode cX0_become 0 = .ok (.aload_n 1, 1) := by decide +kernel
theorem dX0_become_1 : decode cX0_become 1 = .ok (.ifnonnull 4, 3) := by decide +kernel
theorem dX0_become_5 : decode cX0_become 5 = .ok (.aload_n 1, 1) := by decide +kernel
theorem dX0_become_6 : decode cX0_become 6 = .ok (.getfield 9, 3) := by decide +kernel
theorem dX0_become_9 : decode cX0_become 9 = .ok (.aload_n 0, 1) := by decide +kernel
theorem dX0_become_10 : decode cX0_become 10 = .ok (.getfield 9, 3) := by decide +kernel
theorem dX0_become_13 : decode cX0_become 13 = .ok (.invokestatic 30, 3) := by decide +kernel
theorem dX0_become_16 : decode cX0_become 16 = .ok (.aload_n 1, 1) := by decide +kernel
theorem dX0_become_17 : decode cX0_become 17 = .ok (.getfield 15, 3) := by decide +kernel
theorem dX0_become_20 : decode cX0_become 20 = .ok (.aload_n 0, 1) := by decide +kernel
theorem dX0_become_21 : decode cX0_become 21 = .ok (.getfield 15, 3) := by decide +kernel
theorem dX0_become_24 : decode cX0_become 24 = .ok (.invokestatic 30, 3) := by decide +kernel
theorem dX0_become_27 : decode cX0_become 27 = .ok (.aload_n 1, 1) := by decide +kernel
theorem dX0_become_28 : decode cX0_become 28 = .ok (.getfield 18, 3) := by decide +kernel
theorem dX0_become_31 : decode cX0_become 31 = .ok (.aload_n 0, 1) := by decide +kernel
theorem dX0_become_32 : decode cX0_become 32 = .ok (.getfield 18, 3) := by decide +kernel
theorem dX0_become_35 : decode cX0_become 35 = .ok (.invokestatic 30, 3) := by decide +kernel
theorem dX0_become_38 : decode cX0_become 38 = .ok (.aload_n 1, 1) := by decide +kernel
theorem dX0_become_39 : decode cX0_become 39 = .ok (.getfield 21, 3) := by decide +kernel
theorem dX0_become_42 : decode cX0_become 42 = .ok (.aload_n 0, 1) := by decide +kernel
theorem dX0_become_43 : decode cX0_become 43 = .ok (.getfield 21, 3) := by decide +kernel
theorem dX0_become_46 : decode cX0_become 46 = .ok (.invokestatic 30, 3) := by decide +kernel
theorem dX0_become_49 : decode cX0_become 49 = .ok (.aload_n 1, 1) := by decide +kernel
theorem dX0_become_50 : decode cX0_become 50 = .ok (.getfield 24, 3) := by decide +kernel
theorem dX0_become_53 : decode cX0_become 53 = .ok (.aload_n 0, 1) := by decide +kernel
theorem dX0_become_54 : decode cX0_become 54 = .ok (.getfield 24, 3) := by decide +kernel
theorem dX0_become_57 : decode cX0_become 57 = .ok (.invokestatic 30, 3) := by decide +kernel
theorem dX0_become_60 : decode cX0_become 60 = .ok (.aload_n 1, 1) := by decide +kernel
theorem dX0_become_61 : decode cX0_become 61 = .ok (.getfield 27, 3) := by decide +kernel
theorem dX0_become_64 : decode cX0_become 64 = .ok (.aload_n 0, 1) := by decide +kernel
theorem dX0_become_65 : decode cX0_become 65 = .ok (.getfield 27, 3) := by decide +kernel
theorem dX0_become_68 : decode cX0_become 68 = .ok (.invokestatic 30, 3) := by decide +kernel
theorem dX0_become_71 : decode cX0_become 71 = .ok (.aload_n 0, 1) := by decide +kernel
theorem dX0_become_72 : decode cX0_become 72 = .ok (.aload_n 1, 1) := by decide +kernel
theorem dX0_become_73 : decode cX0_become 73 = .ok (.getfield 34, 3) := by decide +kernel
theorem dX0_become_76 : decode cX0_become 76 = .ok (.putfield 34, 3) := by decide +kernel
theorem dX0_become_79 : decode cX0_become 79 = .ok (.aload_n 0, 1) := by decide +kernel
theorem dX0_become_80 : decode cX0_become 80 = .ok (.aload_n 1, 1) := by decide +kernel
theorem dX0_become_81 : decode cX0_become 81 = .ok (.getfield 38, 3) := by decide +kernel
theorem dX0_become_84 : decode cX0_become 84 = .ok (.putfield 38, 3) := by decide +kernel
theorem dX0_become_87 : decode cX0_become 87 = .ok (.return_, 1) := by decide +kernel
def rmX0_become : Room := { frames := 1, cells := 0, slots := 0, locals := 22 }
abbrev wsX0_become : List Cond := .code yX0_become cX0_become 2 none :: gw_tbl
def kX0_become_5 : pProg := (5, 1, a_aload 1) :: (6, 3, a_getf 7 0 0) :: (9, 1, a_aload 0) :: (10, 3, a_getf 0 0 0) :: (13, 3, a_calls 2 [8, 1] tX0_copy) :: (16, 1, a_aload 1) :: (17, 3, a_getf 7 0 1) :: (20, 1, a_aload 0) :: (21, 3, a_getf 0 0 1) :: (24, 3, a_calls 2 [9, 2] tX0_copy) :: (27, 1, a_aload 1) :: (28, 3, a_getf 7 0 2) :: (31, 1, a_aload 0) :: (32, 3, a_getf 0 0 2) :: (35, 3, a_calls 2 [10, 3] tX0_copy) :: (38, 1, a_aload 1) :: (39, 3, a_getf 7 0 3) :: (42, 1, a_aload 0) :: (43, 3, a_getf 0 0 3) :: (46, 3, a_calls 2 [11, 4] tX0_copy) :: (49, 1, a_aload 1) :: (50, 3, a_getf 7 0 4) :: (53, 1, a_aload 0) :: (54, 3, a_getf 0 0 4) :: (57, 3, a_calls 2 [12, 5] tX0_copy) :: (60, 1, a_aload 1) :: (61, 3, a_getf 7 0 5) :: (64, 1, a_aload 0) :: (65, 3, a_getf 0 0 5) :: (68, 3, a_calls 2 [13, 6] tX0_copy) :: (71, 1, a_aload 0) :: (72, 1, a_aload 1) :: (73, 3, a_getf 7 0 6) :: (76, 3, a_putf 0 0 6 .int) :: (79, 1, a_aload 0) :: (80, 1, a_aload 1) :: (81, 3, a_getf 7 0 7) :: (84, 3, a_putf 0 0 7 .int) :: (87, 1, a_vret) :: []
def kX0_become_0 : pProg := (0, 1, a_aload 1) :: (1, 3, a_ifnonnull 5) :: []
set_option maxRecDepth 100000 in
theorem sX0_become_5 (l : Launch) : AllS (pSnd l rmX0_become yX0_become.cls cX0_become wsX0_become 2 none) 5 kX0_become_5 :=
  alls _ (s_aload_n rfl dX0_become_5) <|
  alls _ (s_getf (C := RX0) (T := TX0) (N := 8) rfl (in_c inX0) (by decide) (List.mem_cons_of_mem _ wd_83) rfl dX0_become_6) <|
  alls _ (s_aload_n rfl dX0_become_9) <|
  alls _ (s_getf (C := RX0) (T := TX0) (N := 8) rfl (in_c inX0) (by decide) (List.mem_cons_of_mem _ wd_83) rfl dX0_become_10) <|
  alls _ (s_calls (ct_X0_copy l) rfl rfl (gdS wd_428) (List.mem_cons_of_mem _ wd_426) (List.mem_cons_of_mem _ wd_427) (List.mem_cons_of_mem _ wd_61) rfl rfl (by decide +kernel) ⟨Nat.le_of_ble_eq_true rfl, Nat.le_of_ble_eq_true rfl⟩ dX0_become_13) <|
  alls _ (s_aload_n rfl dX0_become_16) <|
  alls _ (s_getf (C := RX0) (T := TX0) (N := 8) rfl (in_c inX0) (by decide) (List.mem_cons_of_mem _ wd_84) rfl dX0_become_17) <|
  alls _ (s_aload_n rfl dX0_become_20) <|
  alls _ (s_getf (C := RX0) (T := TX0) (N := 8) rfl (in_c inX0) (by decide) (List.mem_cons_of_mem _ wd_84) rfl dX0_become_21) <|
  alls _ (s_calls (ct_X0_copy l) rfl rfl (gdS wd_428) (List.mem_cons_of_mem _ wd_426) (List.mem_cons_of_mem _ wd_427) (List.mem_cons_of_mem _ wd_61) rfl rfl (by decide +kernel) ⟨Nat.le_of_ble_eq_true rfl, Nat.le_of_ble_eq_true rfl⟩ dX0_become_24) <|
  alls _ (s_aload_n rfl dX0_become_27) <|
  alls _ (s_getf (C := RX0) (T := TX0) (N := 8) rfl (in_c inX0) (by decide) (List.mem_cons_of_mem _ wd_85) rfl dX0_become_28) <|
  alls _ (s_aload_n rfl dX0_become_31) <|
  alls _ (s_getf (C := RX0) (T := TX0) (N := 8) rfl (in_c inX0) (by decide) (List.mem_cons_of_mem _ wd_85) rfl dX0_become_32) <|
  alls _ (s_calls (ct_X0_copy l) rfl rfl (gdS wd_428) (List.mem_cons_of_mem _ wd_426) (List.mem_cons_of_mem _ wd_427) (List.mem_cons_of_mem _ wd_61) rfl rfl (by decide +kernel) ⟨Nat.le_of_ble_eq_true rfl, Nat.le_of_ble_eq_true rfl⟩ dX0_become_35) <|
  alls _ (s_aload_n rfl dX0_become_38) <|
  alls _ (s_getf (C := RX0) (T := TX0) (N := 8) rfl (in_c inX0) (by decide) (List.mem_cons_of_mem _ wd_86) rfl dX0_become_39) <|
  alls _ (s_aload_n rfl dX0_become_42) <|
  alls _ (s_getf (C := RX0) (T := TX0) (N := 8) rfl (in_c inX0) (by decide) (List.mem_cons_of_mem _ wd_86) rfl dX0_become_43) <|
  alls _ (s_calls (ct_X0_copy l) rfl rfl (gdS wd_428) (List.mem_cons_of_mem _ wd_426) (List.mem_cons_of_mem _ wd_427) (List.mem_cons_of_mem _ wd_61) rfl rfl (by decide +kernel) ⟨Nat.le_of_ble_eq_true rfl, Nat.le_of_ble_eq_true rfl⟩ dX0_become_46) <|
  alls _ (s_aload_n rfl dX0_become_49) <|
  alls _ (s_getf (C := RX0) (T := TX0) (N := 8) rfl (in_c inX0) (by decide) (List.mem_cons_of_mem _ wd_87) rfl dX0_become_50) <|
  alls _ (s_aload_n rfl dX0_become_53) <|
  alls _ (s_getf (C := RX0) (T := TX0) (N := 8) rfl (in_c inX0) (by decide) (List.mem_cons_of_mem _ wd_87) rfl dX0_become_54) <|
  alls _ (s_calls (ct_X0_copy l) rfl rfl (gdS wd_428) (List.mem_cons_of_mem _ wd_426) (List.mem_cons_of_mem _ wd_427) (List.mem_cons_of_mem _ wd_61) rfl rfl (by decide +kernel) ⟨Nat.le_of_ble_eq_true rfl, Nat.le_of_ble_eq_true rfl⟩ dX0_become_57) <|
  alls _ (s_aload_n rfl dX0_become_60) <|
  alls _ (s_getf (C := RX0) (T := TX0) (N := 8) rfl (in_c inX0) (by decide) (List.mem_cons_of_mem _ wd_88) rfl dX0_become_61) <|
  alls _ (s_aload_n rfl dX0_become_64) <|
  alls _ (s_getf (C := RX0) (T := TX0) (N := 8) rfl (in_c inX0) (by decide) (List.mem_cons_of_mem _ wd_88) rfl dX0_become_65) <|
  alls _ (s_calls (ct_X0_copy l) rfl rfl (gdS wd_428) (List.mem_cons_of_mem _ wd_426) (List.mem_cons_of_mem _ wd_427) (List.mem_cons_of_mem _ wd_61) rfl rfl (by decide +kernel) ⟨Nat.le_of_ble_eq_true rfl, Nat.le_of_ble_eq_true rfl⟩ dX0_become_68) <|
  alls _ (s_aload_n rfl dX0_become_71) <|
  alls _ (s_aload_n rfl dX0_become_72) <|
  alls _ (s_getf (C := RX0) (T := TX0) (N := 8) rfl (in_c inX0) (by decide) (List.mem_cons_of_mem _ wd_89) rfl dX0_become_73) <|
  alls _ (s_putf (C := RX0) (T := TX0) (N := 8) tyX0 rfl (in_c inX0) tyX0_ok nmX0 (by decide) (List.mem_cons_of_mem _ wd_89) rfl rfl (tyX0_ok 6 (by decide)) dX0_become_76) <|
  alls _ (s_aload_n rfl dX0_become_79) <|
  alls _ (s_aload_n rfl dX0_become_80) <|
  alls _ (s_getf (C := RX0) (T := TX0) (N := 8) rfl (in_c inX0) (by decide) (List.mem_cons_of_mem _ wd_90) rfl dX0_become_81) <|
  alls _ (s_putf (C := RX0) (T := TX0) (N := 8) tyX0 rfl (in_c inX0) tyX0_ok nmX0 (by decide) (List.mem_cons_of_mem _ wd_90) rfl rfl (tyX0_ok 7 (by decide)) dX0_become_84) <|
  alls _ (s_vret dX0_become_87) <|
  alls_nil _
set_option maxRecDepth 100000 in
theorem sX0_become_0 (l : Launch) : AllS (pSnd l rmX0_become yX0_become.cls cX0_become wsX0_become 2 none) 0 kX0_become_0 :=
  alls _ (s_aload_n rfl dX0_become_0) <|
  alls _ (s_ifnonnull (by decide) dX0_become_1) <|
  alls_nil _
def KX0_become : List (Nat × pProg) := [(0, kX0_become_0), (5, kX0_become_5)]
theorem bX0_become_0 : blkOf KX0_become 0 = some kX0_become_0 := rfl
theorem bX0_become_5 : blkOf KX0_become 5 = some kX0_become_5 := rfl
def tX0_become : pT := pM KX0_become 2
theorem ct_X0_become (l : Launch) : pCtr l yX0_become wsX0_become rmX0_become 2 tX0_become := ctr_of (by decide +kernel) rfl (List.forall_mem_cons.mpr ⟨sX0_become_0 l, List.forall_mem_cons.mpr ⟨sX0_become_5 l, fun _ h => absurd h List.not_mem_nil⟩⟩)
theorem dX0_allBruises_0 : decode cX0_allBruises 0 = .ok (.iconst 0, 1) := by decide +kernel
theorem dX0_allBruises_1 : decode cX0_allBruises 1 = .ok (.istore_n 1, 1) := by decide +kernel
theorem dX0_allBruises_2 : decode cX0_allBruises 2 = .ok (.iconst 0, 1) := by decide +kernel
theorem dX0_allBruises_3 : decode cX0_allBruises 3 = .ok (.istore_n 2, 1) := by decide +kernel
theorem dX0_allBruises_4 : decode cX0_allBruises 4 = .ok (.iload_n 2, 1) := by decide +kernel
theorem dX0_allBruises_5 : decode cX0_allBruises 5 = .ok (.aload_n 0, 1) := by decide +kernel
theorem dX0_allBruises_6 : decode cX0_allBruises 6 = .ok (.invokevirtual 108, 3) := by decide +kernel
theorem dX0_allBruises_9 : decode cX0_allBruises 9 = .ok (.if_icmp .ge 17, 3) := by decide +kernel
theorem dX0_allBruises_12 : decode cX0_allBruises 12 = .ok (.iload_n 1, 1) := by decide +kernel
theorem dX0_allBruises_13 : decode cX0_allBruises 13 = .ok (.aload_n 0, 1) := by decide +kernel
theorem dX0_allBruises_14 : decode cX0_allBruises 14 = .ok (.iload_n 2, 1) := by decide +kernel
theorem dX0_allBruises_15 : decode cX0_allBruises 15 = .ok (.invokevirtual 57, 3) := by decide +kernel
theorem dX0_allBruises_18 : decode cX0_allBruises 18 = .ok (.iadd, 1) := by decide +kernel
theorem dX0_allBruises_19 : decode cX0_allBruises 19 = .ok (.istore_n 1, 1) := by decide +kernel
theorem dX0_allBruises_20 : decode cX0_allBruises 20 = .ok (.iinc 2 1, 3) := by decide +kernel
theorem dX0_allBruises_23 : decode cX0_allBruises 23 = .ok (.goto (-19), 3) := by decide +kernel
theorem dX0_allBruises_26 : decode cX0_allBruises 26 = .ok (.iload_n 1, 1) := by decide +kernel
theorem dX0_allBruises_27 : decode cX0_allBruises 27 = .ok (.ireturn, 1) := by decide +kernel
def rmX0_allBruises : Room := { frames := 1, cells := 0, slots := 0, locals := 21 }
abbrev wsX0_allBruises : List Cond := .code yX0_allBruises cX0_allBruises 3 (some .int) :: gw_tbl
def kX0_allBruises_26 : pProg := (26, 1, a_iload 1) :: (27, 1, a_iret) :: []
def kX0_allBruises_4 : pProg := (4, 1, a_iload 2) :: (5, 1, a_aload 0) :: (6, 3, a_callv 1 0 [0, 1, 2, 3, 4, 5, 6] tX0_miners) :: (9, 3, a_icmp_ge 26) :: (12, 1, a_iload 1) :: (13, 1, a_aload 0) :: (14, 1, a_iload 2) :: (15, 3, a_callv 2 0 [0, 1, 2, 3, 4, 5, 6] tX0_bruisesOf) :: (18, 1, a_iadd) :: (19, 1, a_istore 1) :: (20, 3, a_iinc 2 1) :: (23, 3, a_goto 4) :: []
def kX0_allBruises_0 : pProg := (0, 1, a_iconst 0) :: (1, 1, a_istore 1) :: (2, 1, a_iconst 0) :: (3, 1, a_istore 2) :: (4, 0, a_fall 4) :: []
set_option maxRecDepth 100000 in
theorem sX0_allBruises_26 (l : Launch) : AllS (pSnd l rmX0_allBruises yX0_allBruises.cls cX0_allBruises wsX0_allBruises 3 (some .int)) 26 kX0_allBruises_26 :=
  alls _ (s_iload_n rfl dX0_allBruises_26) <|
  alls _ (s_iret dX0_allBruises_27) <|
  alls_nil _
set_option maxRecDepth 100000 in
theorem sX0_allBruises_4 (l : Launch) : AllS (pSnd l rmX0_allBruises yX0_allBruises.cls cX0_allBruises wsX0_allBruises 3 (some .int)) 4 kX0_allBruises_4 :=
  alls _ (s_iload_n rfl dX0_allBruises_4) <|
  alls _ (s_aload_n rfl dX0_allBruises_5) <|
  alls _ (s_callv (ct_X0_miners l) rfl rfl rfl (gdV wd_448 wd_240 wd_241 wd_61 wd_242) rfl rfl (by decide +kernel) ⟨Nat.le_of_ble_eq_true rfl, Nat.le_of_ble_eq_true rfl⟩ dX0_allBruises_6) <|
  alls _ (s_icmp_ge (by decide) dX0_allBruises_9) <|
  alls _ (s_iload_n rfl dX0_allBruises_12) <|
  alls _ (s_aload_n rfl dX0_allBruises_13) <|
  alls _ (s_iload_n rfl dX0_allBruises_14) <|
  alls _ (s_callv (ct_X0_bruisesOf l) rfl rfl rfl (gdV wd_283 wd_284 wd_285 wd_61 wd_286) rfl rfl (by decide +kernel) ⟨Nat.le_of_ble_eq_true rfl, Nat.le_of_ble_eq_true rfl⟩ dX0_allBruises_15) <|
  alls _ (s_iadd dX0_allBruises_18) <|
  alls _ (s_istore_n rfl dX0_allBruises_19) <|
  alls _ (s_iinc dX0_allBruises_20) <|
  alls _ (s_goto (by decide) dX0_allBruises_23) <|
  alls_nil _
set_option maxRecDepth 100000 in
theorem sX0_allBruises_0 (l : Launch) : AllS (pSnd l rmX0_allBruises yX0_allBruises.cls cX0_allBruises wsX0_allBruises 3 (some .int)) 0 kX0_allBruises_0 :=
  alls _ (s_iconst dX0_allBruises_0) <|
  alls _ (s_istore_n rfl dX0_allBruises_1) <|
  alls _ (s_iconst dX0_allBruises_2) <|
  alls _ (s_istore_n rfl dX0_allBruises_3) <|
  alls _ s_fall (alls_nil _)
def KX0_allBruises : List (Nat × pProg) := [(0, kX0_allBruises_0), (4, kX0_allBruises_4), (26, kX0_allBruises_26)]
theorem bX0_allBruises_0 : blkOf KX0_allBruises 0 = some kX0_allBruises_0 := rfl
theorem bX0_allBruises_4 : blkOf KX0_allBruises 4 = some kX0_allBruises_4 := rfl
theorem bX0_allBruises_26 : blkOf KX0_allBruises 26 = some kX0_allBruises_26 := rfl
def tX0_allBruises : pT := pM KX0_allBruises 3
theorem ct_X0_allBruises (l : Launch) : pCtr l yX0_allBruises wsX0_allBruises rmX0_allBruises 1 tX0_allBruises := ctr_of (by decide +kernel) rfl (List.forall_mem_cons.mpr ⟨sX0_allBruises_0 l, List.forall_mem_cons.mpr ⟨sX0_allBruises_4 l, List.forall_mem_cons.mpr ⟨sX0_allBruises_26 l, fun _ h => absurd h List.not_mem_nil⟩⟩⟩)
theorem dX0_areAllFaced_0 : decode cX0_areAllFaced 0 = .ok (.iconst 0, 1) := by decide +kernel
theorem dX0_areAllFaced_1 : decode cX0_areAllFaced 1 = .ok (.istore_n 1, 1) := by decide +kernel
theorem dX0_areAllFaced_2 : decode cX0_areAllFaced 2 = .ok (.iload_n 1, 1) := by decide +kernel
theorem dX0_areAllFaced_3 : decode cX0_areAllFaced 3 = .ok (.aload_n 0, 1) := by decide +kernel
theorem dX0_areAllFaced_4 : decode cX0_areAllFaced 4 = .ok (.getfield 34, 3) := by decide +kernel
theorem dX0_areAllFaced_7 : decode cX0_areAllFaced 7 = .ok (.if_icmp .ge 19, 3) := by decide +kernel
theorem dX0_areAllFaced_10 : decode cX0_areAllFaced 10 = .ok (.aload_n 0, 1) := by decide +kernel
theorem dX0_areAllFaced_11 : decode cX0_areAllFaced 11 = .ok (.iload_n 1, 1) := by decide +kernel
theorem dX0_areAllFaced_12 : decode cX0_areAllFaced 12 = .ok (.invokevirtual 73, 3) := by decide +kernel
theorem dX0_areAllFaced_15 : decode cX0_areAllFaced 15 = .ok (.ifCond .ne 5, 3) := by decide +kernel
theorem dX0_areAllFaced_18 : decode cX0_areAllFaced 18 = .ok (.iconst 0, 1) := by decide +kernel
theorem dX0_areAllFaced_19 : decode cX0_areAllFaced 19 = .ok (.ireturn, 1) := by decide +kernel
theorem dX0_areAllFaced_20 : decode cX0_areAllFaced 20 = .ok (.iinc 1 1, 3) := by decide +kernel
theorem dX0_areAllFaced_23 : decode cX0_areAllFaced 23 = .ok (.goto (-21), 3) := by decide +kernel
theorem dX0_areAllFaced_26 : decode cX0_areAllFaced 26 = .ok (.iconst 1, 1) := by decide +kernel
theorem dX0_areAllFaced_27 : decode cX0_areAllFaced 27 = .ok (.ireturn, 1) := by decide +kernel
def rmX0_areAllFaced : Room := { frames := 2, cells := 0, slots := 0, locals := 42 }
abbrev wsX0_areAllFaced : List Cond := .code yX0_areAllFaced cX0_areAllFaced 2 (some .boolean) :: gw_tbl
def kX0_areAllFaced_26 : pProg := (26, 1, a_iconst 1) :: (27, 1, a_zret) :: []
def kX0_areAllFaced_20 : pProg := (20, 3, a_iinc 1 1) :: (23, 3, a_goto 2) :: []
def kX0_areAllFaced_2 : pProg := (2, 1, a_iload 1) :: (3, 1, a_aload 0) :: (4, 3, a_getf 0 0 6) :: (7, 3, a_icmp_ge 26) :: (10, 1, a_aload 0) :: (11, 1, a_iload 1) :: (12, 3, a_callv 2 0 [0, 1, 2, 3, 4, 5, 6] tX0_isFaced) :: (15, 3, a_if_ne 20) :: (18, 1, a_iconst 0) :: (19, 1, a_zret) :: []
def kX0_areAllFaced_0 : pProg := (0, 1, a_iconst 0) :: (1, 1, a_istore 1) :: (2, 0, a_fall 2) :: []
set_option maxRecDepth 100000 in
theorem sX0_areAllFaced_26 (l : Launch) : AllS (pSnd l rmX0_areAllFaced yX0_areAllFaced.cls cX0_areAllFaced wsX0_areAllFaced 2 (some .boolean)) 26 kX0_areAllFaced_26 :=
  alls _ (s_iconst dX0_areAllFaced_26) <|
  alls _ (s_zret dX0_areAllFaced_27) <|
  alls_nil _
set_option maxRecDepth 100000 in
theorem sX0_areAllFaced_20 (l : Launch) : AllS (pSnd l rmX0_areAllFaced yX0_areAllFaced.cls cX0_areAllFaced wsX0_areAllFaced 2 (some .boolean)) 20 kX0_areAllFaced_20 :=
  alls _ (s_iinc dX0_areAllFaced_20) <|
  alls _ (s_goto (by decide) dX0_areAllFaced_23) <|
  alls_nil _
set_option maxRecDepth 100000 in
theorem sX0_areAllFaced_2 (l : Launch) : AllS (pSnd l rmX0_areAllFaced yX0_areAllFaced.cls cX0_areAllFaced wsX0_areAllFaced 2 (some .boolean)) 2 kX0_areAllFaced_2 :=
  alls _ (s_iload_n rfl dX0_areAllFaced_2) <|
  alls _ (s_aload_n rfl dX0_areAllFaced_3) <|
  alls _ (s_getf (C := RX0) (T := TX0) (N := 8) rfl (in_c inX0) (by decide) (List.mem_cons_of_mem _ wd_89) rfl dX0_areAllFaced_4) <|
  alls _ (s_icmp_ge (by decide) dX0_areAllFaced_7) <|
  alls _ (s_aload_n rfl dX0_areAllFaced_10) <|
  alls _ (s_iload_n rfl dX0_areAllFaced_11) <|
  alls _ (s_callv (ct_X0_isFaced l) rfl rfl rfl (gdV wd_321 wd_322 wd_323 wd_61 wd_324) rfl rfl (by decide +kernel) ⟨Nat.le_of_ble_eq_true rfl, Nat.le_of_ble_eq_true rfl⟩ dX0_areAllFaced_12) <|
  alls _ (s_if_ne (by decide) dX0_areAllFaced_15) <|
  alls _ (s_iconst dX0_areAllFaced_18) <|
  alls _ (s_zret dX0_areAllFaced_19) <|
  alls_nil _
set_option maxRecDepth 100000 in
theorem sX0_areAllFaced_0 (l : Launch) : AllS (pSnd l rmX0_areAllFaced yX0_areAllFaced.cls cX0_areAllFaced wsX0_areAllFaced 2 (some .boolean)) 0 kX0_areAllFaced_0 :=
  alls _ (s_iconst dX0_areAllFaced_0) <|
  alls _ (s_istore_n rfl dX0_areAllFaced_1) <|
  alls _ s_fall (alls_nil _)
def KX0_areAllFaced : List (Nat × pProg) := [(0, kX0_areAllFaced_0), (2, kX0_areAllFaced_2), (20, kX0_areAllFaced_20), (26, kX0_areAllFaced_26)]
theorem bX0_areAllFaced_0 : blkOf KX0_areAllFaced 0 = some kX0_areAllFaced_0 := rfl
theorem bX0_areAllFaced_2 : blkOf KX0_areAllFaced 2 = some kX0_areAllFaced_2 := rfl
theorem bX0_areAllFaced_20 : blkOf KX0_areAllFaced 20 = some kX0_areAllFaced_20 := rfl
theorem bX0_areAllFaced_26 : blkOf KX0_areAllFaced 26 = some kX0_areAllFaced_26 := rfl
def tX0_areAllFaced : pT := pM KX0_areAllFaced 2
theorem ct_X0_areAllFaced (l : Launch) : pCtr l yX0_areAllFaced wsX0_areAllFaced rmX0_areAllFaced 1 tX0_areAllFaced := ctr_of (by decide +kernel) rfl (List.forall_mem_cons.mpr ⟨sX0_areAllFaced_0 l, List.forall_mem_cons.mpr ⟨sX0_areAllFaced_2 l, List.forall_mem_cons.mpr ⟨sX0_areAllFaced_20 l, List.forall_mem_cons.mpr ⟨sX0_areAllFaced_26 l, fun _ h => absurd h List.not_mem_nil⟩⟩⟩⟩)
theorem dX0_twosTogether_0 : decode cX0_twosTogether 0 = .ok (.iconst 0, 1) := by decide +kernel
theorem dX0_twosTogether_1 : decode cX0_twosTogether 1 = .ok (.istore_n 1, 1) := by decide +kernel
theorem dX0_twosTogether_2 : decode cX0_twosTogether 2 = .ok (.iconst 0, 1) := by decide +kernel
theorem dX0_twosTogether_3 : decode cX0_twosTogether 3 = .ok (.istore_n 2, 1) := by decide +kernel
theorem dX0_twosTogether_4 : decode cX0_twosTogether 4 = .ok (.iload_n 2, 1) := by decide +kernel
theorem dX0_twosTogether_5 : decode cX0_twosTogether 5 = .ok (.aload_n 0, 1) := by decide +kernel
theorem dX0_twosTogether_6 : decode cX0_twosTogether 6 = .ok (.getfield 34, 3) := by decide +kernel
theorem dX0_twosTogether_9 : decode cX0_twosTogether 9 = .ok (.if_icmp .ge 48, 3) := by decide +kernel
theorem dX0_twosTogether_12 : decode cX0_twosTogether 12 = .ok (.iload_n 2, 1) := by decide +kernel
theorem dX0_twosTogether_13 : decode cX0_twosTogether 13 = .ok (.iconst 1, 1) := by decide +kernel
theorem dX0_twosTogether_14 : decode cX0_twosTogether 14 = .ok (.iadd, 1) := by decide +kernel
theorem dX0_twosTogether_15 : decode cX0_twosTogether 15 = .ok (.istore_n 3, 1) := by decide +kernel
theorem dX0_twosTogether_16 : decode cX0_twosTogether 16 = .ok (.iload_n 3, 1) := by decide +kernel
theorem dX0_twosTogether_17 : decode cX0_twosTogether 17 = .ok (.aload_n 0, 1) := by decide +kernel
theorem dX0_twosTogether_18 : decode cX0_twosTogether 18 = .ok (.getfield 34, 3) := by decide +kernel
theorem dX0_twosTogether_21 : decode cX0_twosTogether 21 = .ok (.if_icmp .ge 30, 3) := by decide +kernel
theorem dX0_twosTogether_24 : decode cX0_twosTogether 24 = .ok (.iload_n 1, 1) := by decide +kernel
theorem dX0_twosTogether_25 : decode cX0_twosTogether 25 = .ok (.aload_n 0, 1) := by decide +kernel
theorem dX0_twosTogether_26 : decode cX0_twosTogether 26 = .ok (.iload_n 2, 1) := by decide +kernel
theorem dX0_twosTogether_27 : decode cX0_twosTogether 27 = .ok (.invokevirtual 70, 3) := by decide +kernel
theorem dX0_twosTogether_30 : decode cX0_twosTogether 30 = .ok (.aload_n 0, 1) := by decide +kernel
theorem dX0_twosTogether_31 : decode cX0_twosTogether 31 = .ok (.iload_n 3, 1) := by decide +kernel
theorem dX0_twosTogether_32 : decode cX0_twosTogether 32 = .ok (.invokevirtual 70, 3) := by decide +kernel
theorem dX0_twosTogether_35 : decode cX0_twosTogether 35 = .ok (.if_icmp .ne 7, 3) := by decide +kernel
theorem dX0_twosTogether_38 : decode cX0_twosTogether 38 = .ok (.iconst 1, 1) := by decide +kernel
theorem dX0_twosTogether_39 : decode cX0_twosTogether 39 = .ok (.goto 4, 3) := by decide +kernel
theorem dX0_twosTogether_42 : decode cX0_twosTogether 42 = .ok (.iconst 0, 1) := by decide +kernel
theorem dX0_twosTogether_43 : decode cX0_twosTogether 43 = .ok (.iadd, 1) := by decide +kernel
theorem dX0_twosTogether_44 : decode cX0_twosTogether 44 = .ok (.istore_n 1, 1) := by decide +kernel
theorem dX0_twosTogether_45 : decode cX0_twosTogether 45 = .ok (.iinc 3 1, 3) := by decide +kernel
theorem dX0_twosTogether_48 : decode cX0_twosTogether 48 = .ok (.goto (-32), 3) := by decide +kernel
theorem dX0_twosTogether_51 : decode cX0_twosTogether 51 = .ok (.iinc 2 1, 3) := by decide +kernel
theorem dX0_twosTogether_54 : decode cX0_twosTogether 54 = .ok (.goto (-50), 3) := by decide +kernel
theorem dX0_twosTogether_57 : decode cX0_twosTogether 57 = .ok (.iload_n 1, 1) := by decide +kernel
theorem dX0_twosTogether_58 : decode cX0_twosTogether 58 = .ok (.ireturn, 1) := by decide +kernel
def rmX0_twosTogether : Room := { frames := 1, cells := 0, slots := 0, locals := 21 }
abbrev wsX0_twosTogether : List Cond := .code yX0_twosTogether cX0_twosTogether 4 (some .int) :: gw_tbl
def kX0_twosTogether_57 : pProg := (57, 1, a_iload 1) :: (58, 1, a_iret) :: []
def kX0_twosTogether_51 : pProg := (51, 3, a_iinc 2 1) :: (54, 3, a_goto 4) :: []
def kX0_twosTogether_43 : pProg := (43, 1, a_iadd) :: (44, 1, a_istore 1) :: (45, 3, a_iinc 3 1) :: (48, 3, a_goto 16) :: []
def kX0_twosTogether_42 : pProg := (42, 1, a_iconst 0) :: (43, 0, a_fall 43) :: []
def kX0_twosTogether_16 : pProg := (16, 1, a_iload 3) :: (17, 1, a_aload 0) :: (18, 3, a_getf 0 0 6) :: (21, 3, a_icmp_ge 51) :: (24, 1, a_iload 1) :: (25, 1, a_aload 0) :: (26, 1, a_iload 2) :: (27, 3, a_callv 2 0 [0, 1, 2, 3, 4, 5, 6] tX0_cellOf) :: (30, 1, a_aload 0) :: (31, 1, a_iload 3) :: (32, 3, a_callv 2 0 [0, 1, 2, 3, 4, 5, 6] tX0_cellOf) :: (35, 3, a_icmp_ne 42) :: (38, 1, a_iconst 1) :: (39, 3, a_goto 43) :: []
def kX0_twosTogether_4 : pProg := (4, 1, a_iload 2) :: (5, 1, a_aload 0) :: (6, 3, a_getf 0 0 6) :: (9, 3, a_icmp_ge 57) :: (12, 1, a_iload 2) :: (13, 1, a_iconst 1) :: (14, 1, a_iadd) :: (15, 1, a_istore 3) :: (16, 0, a_fall 16) :: []
def kX0_twosTogether_0 : pProg := (0, 1, a_iconst 0) :: (1, 1, a_istore 1) :: (2, 1, a_iconst 0) :: (3, 1, a_istore 2) :: (4, 0, a_fall 4) :: []
set_option maxRecDepth 100000 in
theorem sX0_twosTogether_57 (l : Launch) : AllS (pSnd l rmX0_twosTogether yX0_twosTogether.cls cX0_twosTogether wsX0_twosTogether 4 (some .int)) 57 kX0_twosTogether_57 :=
  alls _ (s_iload_n rfl dX0_twosTogether_57) <|
  alls _ (s_iret dX0_twosTogether_58) <|
  alls_nil _
set_option maxRecDepth 100000 in
theorem sX0_twosTogether_51 (l : Launch) : AllS (pSnd l rmX0_twosTogether yX0_twosTogether.cls cX0_twosTogether wsX0_twosTogether 4 (some .int)) 51 kX0_twosTogether_51 :=
  alls _ (s_iinc dX0_twosTogether_51) <|
  alls _ (s_goto (by decide) dX0_twosTogether_54) <|
  alls_nil _
set_option maxRecDepth 100000 in
theorem sX0_twosTogether_43 (l : Launch) : AllS (pSnd l rmX0_twosTogether yX0_twosTogether.cls cX0_twosTogether wsX0_twosTogether 4 (some .int)) 43 kX0_twosTogether_43 :=
  alls _ (s_iadd dX0_twosTogether_43) <|
  alls _ (s_istore_n rfl dX0_twosTogether_44) <|
  alls _ (s_iinc dX0_twosTogether_45) <|
  alls _ (s_goto (by decide) dX0_twosTogether_48) <|
  alls_nil _
set_option maxRecDepth 100000 in
theorem sX0_twosTogether_42 (l : Launch) : AllS (pSnd l rmX0_twosTogether yX0_twosTogether.cls cX0_twosTogether wsX0_twosTogether 4 (some .int)) 42 kX0_twosTogether_42 :=
  alls _ (s_iconst dX0_twosTogether_42) <|
  alls _ s_fall (alls_nil _)
set_option maxRecDepth 100000 in
theorem sX0_twosTogether_16 (l : Launch) : AllS (pSnd l rmX0_twosTogether yX0_twosTogether.cls cX0_twosTogether wsX0_twosTogether 4 (some .int)) 16 kX0_twosTogether_16 :=
  alls _ (s_iload_n rfl dX0_twosTogether_16) <|
  alls _ (s_aload_n rfl dX0_twosTogether_17) <|
  alls _ (s_getf (C := RX0) (T := TX0) (N := 8) rfl (in_c inX0) (by decide) (List.mem_cons_of_mem _ wd_89) rfl dX0_twosTogether_18) <|
  alls _ (s_icmp_ge (by decide) dX0_twosTogether_21) <|
  alls _ (s_iload_n rfl dX0_twosTogether_24) <|
  alls _ (s_aload_n rfl dX0_twosTogether_25) <|
  alls _ (s_iload_n rfl dX0_twosTogether_26) <|
  alls _ (s_callv (ct_X0_cellOf l) rfl rfl rfl (gdV wd_305 wd_306 wd_307 wd_61 wd_308) rfl rfl (by decide +kernel) ⟨Nat.le_of_ble_eq_true rfl, Nat.le_of_ble_eq_true rfl⟩ dX0_twosTogether_27) <|
  alls _ (s_aload_n rfl dX0_twosTogether_30) <|
  alls _ (s_iload_n rfl dX0_twosTogether_31) <|
  alls _ (s_callv (ct_X0_cellOf l) rfl rfl rfl (gdV wd_305 wd_306 wd_307 wd_61 wd_308) rfl rfl (by decide +kernel) ⟨Nat.le_of_ble_eq_true rfl, Nat.le_of_ble_eq_true rfl⟩ dX0_twosTogether_32) <|
  alls _ (s_icmp_ne (by decide) dX0_twosTogether_35) <|
  alls _ (s_iconst dX0_twosTogether_38) <|
  alls _ (s_goto (by decide) dX0_twosTogether_39) <|
  alls_nil _
set_option maxRecDepth 100000 in
theorem sX0_twosTogether_4 (l : Launch) : AllS (pSnd l rmX0_twosTogether yX0_twosTogether.cls cX0_twosTogether wsX0_twosTogether 4 (some .int)) 4 kX0_twosTogether_4 :=
  alls _ (s_iload_n rfl dX0_twosTogether_4) <|
  alls _ (s_aload_n rfl dX0_twosTogether_5) <|
  alls _ (s_getf (C := RX0) (T := TX0) (N := 8) rfl (in_c inX0) (by decide) (List.mem_cons_of_mem _ wd_89) rfl dX0_twosTogether_6) <|
  alls _ (s_icmp_ge (by decide) dX0_twosTogether_9) <|
  alls _ (s_iload_n rfl dX0_twosTogether_12) <|
  alls _ (s_iconst dX0_twosTogether_13) <|
  alls _ (s_iadd dX0_twosTogether_14) <|
  alls _ (s_istore_n rfl dX0_twosTogether_15) <|
  alls _ s_fall (alls_nil _)
set_option maxRecDepth 100000 in
theorem sX0_twosTogether_0 (l : Launch) : AllS (pSnd l rmX0_twosTogether yX0_twosTogether.cls cX0_twosTogether wsX0_twosTogether 4 (some .int)) 0 kX0_twosTogether_0 :=
  alls _ (s_iconst dX0_twosTogether_0) <|
  alls _ (s_istore_n rfl dX0_twosTogether_1) <|
  alls _ (s_iconst dX0_twosTogether_2) <|
  alls _ (s_istore_n rfl dX0_twosTogether_3) <|
  alls _ s_fall (alls_nil _)
def KX0_twosTogether : List (Nat × pProg) := [(0, kX0_twosTogether_0), (4, kX0_twosTogether_4), (16, kX0_twosTogether_16), (42, kX0_twosTogether_42), (43, kX0_twosTogether_43), (51, kX0_twosTogether_51), (57, kX0_twosTogether_57)]
theorem bX0_twosTogether_0 : blkOf KX0_twosTogether 0 = some kX0_twosTogether_0 := rfl
theorem bX0_twosTogether_4 : blkOf KX0_twosTogether 4 = some kX0_twosTogether_4 := rfl
theorem bX0_twosTogether_16 : blkOf KX0_twosTogether 16 = some kX0_twosTogether_16 := rfl
theorem bX0_twosTogether_42 : blkOf KX0_twosTogether 42 = some kX0_twosTogether_42 := rfl
theorem bX0_twosTogether_43 : blkOf KX0_twosTogether 43 = some kX0_twosTogether_43 := rfl
theorem bX0_twosTogether_51 : blkOf KX0_twosTogether 51 = some kX0_twosTogether_51 := rfl
theorem bX0_twosTogether_57 : blkOf KX0_twosTogether 57 = some kX0_twosTogether_57 := rfl
def tX0_twosTogether : pT := pM KX0_twosTogether 4
theorem ct_X0_twosTogether (l : Launch) : pCtr l yX0_twosTogether wsX0_twosTogether rmX0_twosTogether 1 tX0_twosTogether := ctr_of (by decide +kernel) rfl (List.forall_mem_cons.mpr ⟨sX0_twosTogether_0 l, List.forall_mem_cons.mpr ⟨sX0_twosTogether_4 l, List.forall_mem_cons.mpr ⟨sX0_twosTogether_16 l, List.forall_mem_cons.mpr ⟨sX0_twosTogether_42 l, List.forall_mem_cons.mpr ⟨sX0_twosTogether_43 l, List.forall_mem_cons.mpr ⟨sX0_twosTogether_51 l, List.forall_mem_cons.mpr ⟨sX0_twosTogether_57 l, fun _ h => absurd h List.not_mem_nil⟩⟩⟩⟩⟩⟩⟩)
theorem dX0_mostHurt_0 : decode cX0_mostHurt 0 = .ok (.aload_n 0, 1) := by decide +kernel
theorem dX0_mostHurt_1 : decode cX0_mostHurt 1 = .ok (.getfield 34, 3) := by decide +kernel
theorem dX0_mostHurt_4 : decode cX0_mostHurt 4 = .ok (.ifCond .le 7, 3) := by decide +kernel
theorem dX0_mostHurt_7 : decode cX0_mostHurt 7 = .ok (.iconst 0, 1) := by decide +kernel
theorem dX0_mostHurt_8 : decode cX0_mostHurt 8 = .ok (.goto 5, 3) := by decide +kernel
theorem dX0_mostHurt_11 : decode cX0_mostHurt 11 = .ok (.bipush (-9), 2) := by decide +kernel
theorem dX0_mostHurt_13 : decode cX0_mostHurt 13 = .ok (.istore_n 1, 1) := by decide +kernel
theorem dX0_mostHurt_14 : decode cX0_mostHurt 14 = .ok (.iconst 1, 1) := by decide +kernel
theorem dX0_mostHurt_15 : decode cX0_mostHurt 15 = .ok (.istore_n 2, 1) := by decide +kernel
theorem dX0_mostHurt_16 : decode cX0_mostHurt 16 = .ok (.iload_n 2, 1) := by decide +kernel
theorem dX0_mostHurt_17 : decode cX0_mostHurt 17 = .ok (.aload_n 0, 1) := by decide +kernel
theorem dX0_mostHurt_18 : decode cX0_mostHurt 18 = .ok (.invokevirtual 108, 3) := by decide +kernel
theorem dX0_mostHurt_21 : decode cX0_mostHurt 21 = .ok (.if_icmp .ge 28, 3) := by decide +kernel
theorem dX0_mostHurt_24 : decode cX0_mostHurt 24 = .ok (.aload_n 0, 1) := by decide +kernel
theorem dX0_mostHurt_25 : decode cX0_mostHurt 25 = .ok (.iload_n 2, 1) := by decide +kernel
theorem dX0_mostHurt_26 : decode cX0_mostHurt 26 = .ok (.invokevirtual 57, 3) := by decide +kernel
theorem dX0_mostHurt_29 : decode cX0_mostHurt 29 = .ok (.aload_n 0, 1) := by decide +kernel
theorem dX0_mostHurt_30 : decode cX0_mostHurt 30 = .ok (.iload_n 1, 1) := by decide +kernel
theorem dX0_mostHurt_31 : decode cX0_mostHurt 31 = .ok (.invokevirtual 57, 3) := by decide +kernel
theorem dX0_mostHurt_34 : decode cX0_mostHurt 34 = .ok (.if_icmp .le 7, 3) := by decide +kernel
theorem dX0_mostHurt_37 : decode cX0_mostHurt 37 = .ok (.iload_n 2, 1) := by decide +kernel
theorem dX0_mostHurt_38 : decode cX0_mostHurt 38 = .ok (.goto 4, 3) := by decide +kernel
theorem dX0_mostHurt_41 : decode cX0_mostHurt 41 = .ok (.iload_n 1, 1) := by decide +kernel
theorem dX0_mostHurt_42 : decode cX0_mostHurt 42 = .ok (.istore_n 1, 1) := by decide +kernel
theorem dX0_mostHurt_43 : decode cX0_mostHurt 43 = .ok (.iinc 2 1, 3) := by decide +kernel
theorem dX0_mostHurt_46 : decode cX0_mostHurt 46 = .ok (.goto (-30), 3) := by decide +kernel
theorem dX0_mostHurt_49 : decode cX0_mostHurt 49 = .ok (.iload_n 1, 1) := by decide +kernel
theorem dX0_mostHurt_50 : decode cX0_mostHurt 50 = .ok (.ireturn, 1) := by decide +kernel
def rmX0_mostHurt : Room := { frames := 1, cells := 0, slots := 0, locals := 21 }
abbrev wsX0_mostHurt : List Cond := .code yX0_mostHurt cX0_mostHurt 3 (some .int) :: gw_tbl
def kX0_mostHurt_49 : pProg := (49, 1, a_iload 1) :: (50, 1, a_iret) :: []
def kX0_mostHurt_42 : pProg := (42, 1, a_istore 1) :: (43, 3, a_iinc 2 1) :: (46, 3, a_goto 16) :: []
def kX0_mostHurt_41 : pProg := (41, 1, a_iload 1) :: (42, 0, a_fall 42) :: []
def kX0_mostHurt_16 : pProg := (16, 1, a_iload 2) :: (17, 1, a_aload 0) :: (18, 3, a_callv 1 0 [0, 1, 2, 3, 4, 5, 6] tX0_miners) :: (21, 3, a_icmp_ge 49) :: (24, 1, a_aload 0) :: (25, 1, a_iload 2) :: (26, 3, a_callv 2 0 [0, 1, 2, 3, 4, 5, 6] tX0_bruisesOf) :: (29, 1, a_aload 0) :: (30, 1, a_iload 1) :: (31, 3, a_callv 2 0 [0, 1, 2, 3, 4, 5, 6] tX0_bruisesOf) :: (34, 3, a_icmp_le 41) :: (37, 1, a_iload 2) :: (38, 3, a_goto 42) :: []
def kX0_mostHurt_13 : pProg := (13, 1, a_istore 1) :: (14, 1, a_iconst 1) :: (15, 1, a_istore 2) :: (16, 0, a_fall 16) :: []
def kX0_mostHurt_11 : pProg := (11, 2, a_iconst (-9)) :: (13, 0, a_fall 13) :: []
def kX0_mostHurt_0 : pProg := (0, 1, a_aload 0) :: (1, 3, a_getf 0 0 6) :: (4, 3, a_if_le 11) :: (7, 1, a_iconst 0) :: (8, 3, a_goto 13) :: []
set_option maxRecDepth 100000 in
theorem sX0_mostHurt_49 (l : Launch) : AllS (pSnd l rmX0_mostHurt yX0_mostHurt.cls cX0_mostHurt wsX0_mostHurt 3 (some .int)) 49 kX0_mostHurt_49 :=
  alls _ (s_iload_n rfl dX0_mostHurt_49) <|
  alls _ (s_iret dX0_mostHurt_50) <|
  alls_nil _
set_option maxRecDepth 100000 in
theorem sX0_mostHurt_42 (l : Launch) : AllS (pSnd l rmX0_mostHurt yX0_mostHurt.cls cX0_mostHurt wsX0_mostHurt 3 (some .int)) 42 kX0_mostHurt_42 :=
  alls _ (s_istore_n rfl dX0_mostHurt_42) <|
  alls _ (s_iinc dX0_mostHurt_43) <|
  alls _ (s_goto (by decide) dX0_mostHurt_46) <|
  alls_nil _
set_option maxRecDepth 100000 in
theorem sX0_mostHurt_41 (l : Launch) : AllS (pSnd l rmX0_mostHurt yX0_mostHurt.cls cX0_mostHurt wsX0_mostHurt 3 (some .int)) 41 kX0_mostHurt_41 :=
  alls _ (s_iload_n rfl dX0_mostHurt_41) <|
  alls _ s_fall (alls_nil _)
set_option maxRecDepth 100000 in
theorem sX0_mostHurt_16 (l : Launch) : AllS (pSnd l rmX0_mostHurt yX0_mostHurt.cls cX0_mostHurt wsX0_mostHurt 3 (some .int)) 16 kX0_mostHurt_16 :=
  alls _ (s_iload_n rfl dX0_mostHurt_16) <|
  alls _ (s_aload_n rfl dX0_mostHurt_17) <|
  alls _ (s_callv (ct_X0_miners l) rfl rfl rfl (gdV wd_448 wd_240 wd_241 wd_61 wd_242) rfl rfl (by decide +kernel) ⟨Nat.le_of_ble_eq_true rfl, Nat.le_of_ble_eq_true rfl⟩ dX0_mostHurt_18) <|
  alls _ (s_icmp_ge (by decide) dX0_mostHurt_21) <|
  alls _ (s_aload_n rfl dX0_mostHurt_24) <|
  alls _ (s_iload_n rfl dX0_mostHurt_25) <|
  alls _ (s_callv (ct_X0_bruisesOf l) rfl rfl rfl (gdV wd_283 wd_284 wd_285 wd_61 wd_286) rfl rfl (by decide +kernel) ⟨Nat.le_of_ble_eq_true rfl, Nat.le_of_ble_eq_true rfl⟩ dX0_mostHurt_26) <|
  alls _ (s_aload_n rfl dX0_mostHurt_29) <|
  alls _ (s_iload_n rfl dX0_mostHurt_30) <|
  alls _ (s_callv (ct_X0_bruisesOf l) rfl rfl rfl (gdV wd_283 wd_284 wd_285 wd_61 wd_286) rfl rfl (by decide +kernel) ⟨Nat.le_of_ble_eq_true rfl, Nat.le_of_ble_eq_true rfl⟩ dX0_mostHurt_31) <|
  alls _ (s_icmp_le (by decide) dX0_mostHurt_34) <|
  alls _ (s_iload_n rfl dX0_mostHurt_37) <|
  alls _ (s_goto (by decide) dX0_mostHurt_38) <|
  alls_nil _
set_option maxRecDepth 100000 in
theorem sX0_mostHurt_13 (l : Launch) : AllS (pSnd l rmX0_mostHurt yX0_mostHurt.cls cX0_mostHurt wsX0_mostHurt 3 (some .int)) 13 kX0_mostHurt_13 :=
  alls _ (s_istore_n rfl dX0_mostHurt_13) <|
  alls _ (s_iconst dX0_mostHurt_14) <|
  alls _ (s_istore_n rfl dX0_mostHurt_15) <|
  alls _ s_fall (alls_nil _)
set_option maxRecDepth 100000 in
theorem sX0_mostHurt_11 (l : Launch) : AllS (pSnd l rmX0_mostHurt yX0_mostHurt.cls cX0_mostHurt wsX0_mostHurt 3 (some .int)) 11 kX0_mostHurt_11 :=
  alls _ (s_bipush (by decide) dX0_mostHurt_11) <|
  alls _ s_fall (alls_nil _)
set_option maxRecDepth 100000 in
theorem sX0_mostHurt_0 (l : Launch) : AllS (pSnd l rmX0_mostHurt yX0_mostHurt.cls cX0_mostHurt wsX0_mostHurt 3 (some .int)) 0 kX0_mostHurt_0 :=
  alls _ (s_aload_n rfl dX0_mostHurt_0) <|
  alls _ (s_getf (C := RX0) (T := TX0) (N := 8) rfl (in_c inX0) (by decide) (List.mem_cons_of_mem _ wd_89) rfl dX0_mostHurt_1) <|
  alls _ (s_if_le (by decide) dX0_mostHurt_4) <|
  alls _ (s_iconst dX0_mostHurt_7) <|
  alls _ (s_goto (by decide) dX0_mostHurt_8) <|
  alls_nil _
def KX0_mostHurt : List (Nat × pProg) := [(0, kX0_mostHurt_0), (11, kX0_mostHurt_11), (13, kX0_mostHurt_13), (16, kX0_mostHurt_16), (41, kX0_mostHurt_41), (42, kX0_mostHurt_42), (49, kX0_mostHurt_49)]
theorem bX0_mostHurt_0 : blkOf KX0_mostHurt 0 = some kX0_mostHurt_0 := rfl
theorem bX0_mostHurt_11 : blkOf KX0_mostHurt 11 = some kX0_mostHurt_11 := rfl
theorem bX0_mostHurt_13 : blkOf KX0_mostHurt 13 = some kX0_mostHurt_13 := rfl
theorem bX0_mostHurt_16 : blkOf KX0_mostHurt 16 = some kX0_mostHurt_16 := rfl
theorem bX0_mostHurt_41 : blkOf KX0_mostHurt 41 = some kX0_mostHurt_41 := rfl
theorem bX0_mostHurt_42 : blkOf KX0_mostHurt 42 = some kX0_mostHurt_42 := rfl
theorem bX0_mostHurt_49 : blkOf KX0_mostHurt 49 = some kX0_mostHurt_49 := rfl
def tX0_mostHurt : pT := pM KX0_mostHurt 3
theorem ct_X0_mostHurt (l : Launch) : pCtr l yX0_mostHurt wsX0_mostHurt rmX0_mostHurt 1 tX0_mostHurt := ctr_of (by decide +kernel) rfl (List.forall_mem_cons.mpr ⟨sX0_mostHurt_0 l, List.forall_mem_cons.mpr ⟨sX0_mostHurt_11 l, List.forall_mem_cons.mpr ⟨sX0_mostHurt_13 l, List.forall_mem_cons.mpr ⟨sX0_mostHurt_16 l, List.forall_mem_cons.mpr ⟨sX0_mostHurt_41 l, List.forall_mem_cons.mpr ⟨sX0_mostHurt_42 l, List.forall_mem_cons.mpr ⟨sX0_mostHurt_49 l, fun _ h => absurd h List.not_mem_nil⟩⟩⟩⟩⟩⟩⟩)
theorem dX0_leastFar_0 : decode cX0_leastFar 0 = .ok (.aload_n 0, 1) := by decide +kernel
theorem dX0_leastFar_1 : decode cX0_leastFar 1 = .ok (.getfield 34, 3) := by decide +kernel
theorem dX0_leastFar_4 : decode cX0_leastFar 4 = .ok (.ifCond .le 7, 3) := by decide +kernel
theorem dX0_leastFar_7 : decode cX0_leastFar 7 = .ok (.iconst 0, 1) := by decide +kernel
theorem dX0_leastFar_8 : decode cX0_leastFar 8 = .ok (.goto 5, 3) := by decide +kernel
theorem dX0_leastFar_11 : decode cX0_leastFar 11 = .ok (.bipush (-9), 2) := by decide +kernel
theorem dX0_leastFar_13 : decode cX0_leastFar 13 = .ok (.istore_n 1, 1) := by decide +kernel
theorem dX0_leastFar_14 : decode cX0_leastFar 14 = .ok (.iconst 1, 1) := by decide +kernel
theorem dX0_leastFar_15 : decode cX0_leastFar 15 = .ok (.istore_n 2, 1) := by decide +kernel
theorem dX0_leastFar_16 : decode cX0_leastFar 16 = .ok (.iload_n 2, 1) := by decide +kernel
theorem dX0_leastFar_17 : decode cX0_leastFar 17 = .ok (.aload_n 0, 1) := by decide +kernel
theorem dX0_leastFar_18 : decode cX0_leastFar 18 = .ok (.getfield 34, 3) := by decide +kernel
theorem dX0_leastFar_21 : decode cX0_leastFar 21 = .ok (.if_icmp .ge 28, 3) := by decide +kernel
theorem dX0_leastFar_24 : decode cX0_leastFar 24 = .ok (.aload_n 0, 1) := by decide +kernel
theorem dX0_leastFar_25 : decode cX0_leastFar 25 = .ok (.iload_n 2, 1) := by decide +kernel
theorem dX0_leastFar_26 : decode cX0_leastFar 26 = .ok (.invokevirtual 70, 3) := by decide +kernel
theorem dX0_leastFar_29 : decode cX0_leastFar 29 = .ok (.aload_n 0, 1) := by decide +kernel
theorem dX0_leastFar_30 : decode cX0_leastFar 30 = .ok (.iload_n 1, 1) := by decide +kernel
theorem dX0_leastFar_31 : decode cX0_leastFar 31 = .ok (.invokevirtual 70, 3) := by decide +kernel
theorem dX0_leastFar_34 : decode cX0_leastFar 34 = .ok (.if_icmp .ge 7, 3) := by decide +kernel
theorem dX0_leastFar_37 : decode cX0_leastFar 37 = .ok (.iload_n 2, 1) := by decide +kernel
theorem dX0_leastFar_38 : decode cX0_leastFar 38 = .ok (.goto 4, 3) := by decide +kernel
theorem dX0_leastFar_41 : decode cX0_leastFar 41 = .ok (.iload_n 1, 1) := by decide +kernel
theorem dX0_leastFar_42 : decode cX0_leastFar 42 = .ok (.istore_n 1, 1) := by decide +kernel
theorem dX0_leastFar_43 : decode cX0_leastFar 43 = .ok (.iinc 2 1, 3) := by decide +kernel
theorem dX0_leastFar_46 : decode cX0_leastFar 46 = .ok (.goto (-30), 3) := by decide +kernel
theorem dX0_leastFar_49 : decode cX0_leastFar 49 = .ok (.iload_n 1, 1) := by decide +kernel
theorem dX0_leastFar_50 : decode cX0_leastFar 50 = .ok (.ireturn, 1) := by decide +kernel
def rmX0_leastFar : Room := { frames := 1, cells := 0, slots := 0, locals := 21 }
abbrev wsX0_leastFar : List Cond := .code yX0_leastFar cX0_leastFar 3 (some .int) :: gw_tbl
def kX0_leastFar_49 : pProg := (49, 1, a_iload 1) :: (50, 1, a_iret) :: []
def kX0_leastFar_42 : pProg := (42, 1, a_istore 1) :: (43, 3, a_iinc 2 1) :: (46, 3, a_goto 16) :: []
def kX0_leastFar_41 : pProg := (41, 1, a_iload 1) :: (42, 0, a_fall 42) :: []
def kX0_leastFar_16 : pProg := (16, 1, a_iload 2) :: (17, 1, a_aload 0) :: (18, 3, a_getf 0 0 6) :: (21, 3, a_icmp_ge 49) :: (24, 1, a_aload 0) :: (25, 1, a_iload 2) :: (26, 3, a_callv 2 0 [0, 1, 2, 3, 4, 5, 6] tX0_cellOf) :: (29, 1, a_aload 0) :: (30, 1, a_iload 1) :: (31, 3, a_callv 2 0 [0, 1, 2, 3, 4, 5, 6] tX0_cellOf) :: (34, 3, a_icmp_ge 41) :: (37, 1, a_iload 2) :: (38, 3, a_goto 42) :: []
def kX0_leastFar_13 : pProg := (13, 1, a_istore 1) :: (14, 1, a_iconst 1) :: (15, 1, a_istore 2) :: (16, 0, a_fall 16) :: []
def kX0_leastFar_11 : pProg := (11, 2, a_iconst (-9)) :: (13, 0, a_fall 13) :: []
def kX0_leastFar_0 : pProg := (0, 1, a_aload 0) :: (1, 3, a_getf 0 0 6) :: (4, 3, a_if_le 11) :: (7, 1, a_iconst 0) :: (8, 3, a_goto 13) :: []
set_option maxRecDepth 100000 in
theorem sX0_leastFar_49 (l : Launch) : AllS (pSnd l rmX0_leastFar yX0_leastFar.cls cX0_leastFar wsX0_leastFar 3 (some .int)) 49 kX0_leastFar_49 :=
  alls _ (s_iload_n rfl dX0_leastFar_49) <|
  alls _ (s_iret dX0_leastFar_50) <|
  alls_nil _
set_option maxRecDepth 100000 in
theorem sX0_leastFar_42 (l : Launch) : AllS (pSnd l rmX0_leastFar yX0_leastFar.cls cX0_leastFar wsX0_leastFar 3 (some .int)) 42 kX0_leastFar_42 :=
  alls _ (s_istore_n rfl dX0_leastFar_42) <|
  alls _ (s_iinc dX0_leastFar_43) <|
  alls _ (s_goto (by decide) dX0_leastFar_46) <|
  alls_nil _
set_option maxRecDepth 100000 in
theorem sX0_leastFar_41 (l : Launch) : AllS (pSnd l rmX0_leastFar yX0_leastFar.cls cX0_leastFar wsX0_leastFar 3 (some .int)) 41 kX0_leastFar_41 :=
  alls _ (s_iload_n rfl dX0_leastFar_41) <|
  alls _ s_fall (alls_nil _)
set_option maxRecDepth 100000 in
theorem sX0_leastFar_16 (l : Launch) : AllS (pSnd l rmX0_leastFar yX0_leastFar.cls cX0_leastFar wsX0_leastFar 3 (some .int)) 16 kX0_leastFar_16 :=
  alls _ (s_iload_n rfl dX0_leastFar_16) <|
  alls _ (s_aload_n rfl dX0_leastFar_17) <|
  alls _ (s_getf (C := RX0) (T := TX0) (N := 8) rfl (in_c inX0) (by decide) (List.mem_cons_of_mem _ wd_89) rfl dX0_leastFar_18) <|
  alls _ (s_icmp_ge (by decide) dX0_leastFar_21) <|
  alls _ (s_aload_n rfl dX0_leastFar_24) <|
  alls _ (s_iload_n rfl dX0_leastFar_25) <|
  alls _ (s_callv (ct_X0_cellOf l) rfl rfl rfl (gdV wd_305 wd_306 wd_307 wd_61 wd_308) rfl rfl (by decide +kernel) ⟨Nat.le_of_ble_eq_true rfl, Nat.le_of_ble_eq_true rfl⟩ dX0_leastFar_26) <|
  alls _ (s_aload_n rfl dX0_leastFar_29) <|
  alls _ (s_iload_n rfl dX0_leastFar_30) <|
  alls _ (s_callv (ct_X0_cellOf l) rfl rfl rfl (gdV wd_305 wd_306 wd_307 wd_61 wd_308) rfl rfl (by decide +kernel) ⟨Nat.le_of_ble_eq_true rfl, Nat.le_of_ble_eq_true rfl⟩ dX0_leastFar_31) <|
  alls _ (s_icmp_ge (by decide) dX0_leastFar_34) <|
  alls _ (s_iload_n rfl dX0_leastFar_37) <|
  alls _ (s_goto (by decide) dX0_leastFar_38) <|
  alls_nil _
set_option maxRecDepth 100000 in
theorem sX0_leastFar_13 (l : Launch) : AllS (pSnd l rmX0_leastFar yX0_leastFar.cls cX0_leastFar wsX0_leastFar 3 (some .int)) 13 kX0_leastFar_13 :=
  alls _ (s_istore_n rfl dX0_leastFar_13) <|
  alls _ (s_iconst dX0_leastFar_14) <|
  alls _ (s_istore_n rfl dX0_leastFar_15) <|
  alls _ s_fall (alls_nil _)
set_option maxRecDepth 100000 in
theorem sX0_leastFar_11 (l : Launch) : AllS (pSnd l rmX0_leastFar yX0_leastFar.cls cX0_leastFar wsX0_leastFar 3 (some .int)) 11 kX0_leastFar_11 :=
  alls _ (s_bipush (by decide) dX0_leastFar_11) <|
  alls _ s_fall (alls_nil _)
set_option maxRecDepth 100000 in
theorem sX0_leastFar_0 (l : Launch) : AllS (pSnd l rmX0_leastFar yX0_leastFar.cls cX0_leastFar wsX0_leastFar 3 (some .int)) 0 kX0_leastFar_0 :=
  alls _ (s_aload_n rfl dX0_leastFar_0) <|
  alls _ (s_getf (C := RX0) (T := TX0) (N := 8) rfl (in_c inX0) (by decide) (List.mem_cons_of_mem _ wd_89) rfl dX0_leastFar_1) <|
  alls _ (s_if_le (by decide) dX0_leastFar_4) <|
  alls _ (s_iconst dX0_leastFar_7) <|
  alls _ (s_goto (by decide) dX0_leastFar_8) <|
  alls_nil _
def KX0_leastFar : List (Nat × pProg) := [(0, kX0_leastFar_0), (11, kX0_leastFar_11), (13, kX0_leastFar_13), (16, kX0_leastFar_16), (41, kX0_leastFar_41), (42, kX0_leastFar_42), (49, kX0_leastFar_49)]
theorem bX0_leastFar_0 : blkOf KX0_leastFar 0 = some kX0_leastFar_0 := rfl
theorem bX0_leastFar_11 : blkOf KX0_leastFar 11 = some kX0_leastFar_11 := rfl
theorem bX0_leastFar_13 : blkOf KX0_leastFar 13 = some kX0_leastFar_13 := rfl
theorem bX0_leastFar_16 : blkOf KX0_leastFar 16 = some kX0_leastFar_16 := rfl
theorem bX0_leastFar_41 : blkOf KX0_leastFar 41 = some kX0_leastFar_41 := rfl
theorem bX0_leastFar_42 : blkOf KX0_leastFar 42 = some kX0_leastFar_42 := rfl
theorem bX0_leastFar_49 : blkOf KX0_leastFar 49 = some kX0_leastFar_49 := rfl
def tX0_leastFar : pT := pM KX0_leastFar 3
theorem ct_X0_leastFar (l : Launch) : pCtr l yX0_leastFar wsX0_leastFar rmX0_leastFar 1 tX0_leastFar := ctr_of (by decide +kernel) rfl (List.forall_mem_cons.mpr ⟨sX0_leastFar_0 l, List.forall_mem_cons.mpr ⟨sX0_leastFar_11 l, List.forall_mem_cons.mpr ⟨sX0_leastFar_13 l, List.forall_mem_cons.mpr ⟨sX0_leastFar_16 l, List.forall_mem_cons.mpr ⟨sX0_leastFar_41 l, List.forall_mem_cons.mpr ⟨sX0_leastFar_42 l, List.forall_mem_cons.mpr ⟨sX0_leastFar_49 l, fun _ h => absurd h List.not_mem_nil⟩⟩⟩⟩⟩⟩⟩)
theorem dX0_farthestOn_0 : decode cX0_farthestOn 0 = .ok (.aload_n 0, 1) := by decide +kernel
theorem dX0_farthestOn_1 : decode cX0_farthestOn 1 = .ok (.getfield 34, 3) := by decide +kernel
theorem dX0_farthestOn_4 : decode cX0_farthestOn 4 = .ok (.ifCond .le 7, 3) := by decide +kernel
theorem dX0_farthestOn_7 : decode cX0_farthestOn 7 = .ok (.iconst 0, 1) := by decide +kernel
theorem dX0_farthestOn_8 : decode cX0_farthestOn 8 = .ok (.goto 5, 3) := by decide +kernel
theorem dX0_farthestOn_11 : decode cX0_farthestOn 11 = .ok (.bipush (-9), 2) := by decide +kernel
theorem dX0_farthestOn_13 : decode cX0_farthestOn 13 = .ok (.istore_n 1, 1) := by decide +kernel
theorem dX0_farthestOn_14 : decode cX0_farthestOn 14 = .ok (.iconst 1, 1) := by decide +kernel
theorem dX0_farthestOn_15 : decode cX0_farthestOn 15 = .ok (.istore_n 2, 1) := by decide +kernel
theorem dX0_farthestOn_16 : decode cX0_farthestOn 16 = .ok (.iload_n 2, 1) := by decide +kernel
theorem dX0_farthestOn_17 : decode cX0_farthestOn 17 = .ok (.aload_n 0, 1) := by decide +kernel
theorem dX0_farthestOn_18 : decode cX0_farthestOn 18 = .ok (.getfield 34, 3) := by decide +kernel
theorem dX0_farthestOn_21 : decode cX0_farthestOn 21 = .ok (.if_icmp .ge 28, 3) := by decide +kernel
theorem dX0_farthestOn_24 : decode cX0_farthestOn 24 = .ok (.aload_n 0, 1) := by decide +kernel
theorem dX0_farthestOn_25 : decode cX0_farthestOn 25 = .ok (.iload_n 2, 1) := by decide +kernel
theorem dX0_farthestOn_26 : decode cX0_farthestOn 26 = .ok (.invokevirtual 70, 3) := by decide +kernel
theorem dX0_farthestOn_29 : decode cX0_farthestOn 29 = .ok (.aload_n 0, 1) := by decide +kernel
theorem dX0_farthestOn_30 : decode cX0_farthestOn 30 = .ok (.iload_n 1, 1) := by decide +kernel
theorem dX0_farthestOn_31 : decode cX0_farthestOn 31 = .ok (.invokevirtual 70, 3) := by decide +kernel
theorem dX0_farthestOn_34 : decode cX0_farthestOn 34 = .ok (.if_icmp .le 7, 3) := by decide +kernel
theorem dX0_farthestOn_37 : decode cX0_farthestOn 37 = .ok (.iload_n 2, 1) := by decide +kernel
theorem dX0_farthestOn_38 : decode cX0_farthestOn 38 = .ok (.goto 4, 3) := by decide +kernel
theorem dX0_farthestOn_41 : decode cX0_farthestOn 41 = .ok (.iload_n 1, 1) := by decide +kernel
theorem dX0_farthestOn_42 : decode cX0_farthestOn 42 = .ok (.istore_n 1, 1) := by decide +kernel
theorem dX0_farthestOn_43 : decode cX0_farthestOn 43 = .ok (.iinc 2 1, 3) := by decide +kernel
theorem dX0_farthestOn_46 : decode cX0_farthestOn 46 = .ok (.goto (-30), 3) := by decide +kernel
theorem dX0_farthestOn_49 : decode cX0_farthestOn 49 = .ok (.iload_n 1, 1) := by decide +kernel
theorem dX0_farthestOn_50 : decode cX0_farthestOn 50 = .ok (.ireturn, 1) := by decide +kernel
def rmX0_farthestOn : Room := { frames := 1, cells := 0, slots := 0, locals := 21 }
abbrev wsX0_farthestOn : List Cond := .code yX0_farthestOn cX0_farthestOn 3 (some .int) :: gw_tbl
def kX0_farthestOn_49 : pProg := (49, 1, a_iload 1) :: (50, 1, a_iret) :: []
def kX0_farthestOn_42 : pProg := (42, 1, a_istore 1) :: (43, 3, a_iinc 2 1) :: (46, 3, a_goto 16) :: []
def kX0_farthestOn_41 : pProg := (41, 1, a_iload 1) :: (42, 0, a_fall 42) :: []
def kX0_farthestOn_16 : pProg := (16, 1, a_iload 2) :: (17, 1, a_aload 0) :: (18, 3, a_getf 0 0 6) :: (21, 3, a_icmp_ge 49) :: (24, 1, a_aload 0) :: (25, 1, a_iload 2) :: (26, 3, a_callv 2 0 [0, 1, 2, 3, 4, 5, 6] tX0_cellOf) :: (29, 1, a_aload 0) :: (30, 1, a_iload 1) :: (31, 3, a_callv 2 0 [0, 1, 2, 3, 4, 5, 6] tX0_cellOf) :: (34, 3, a_icmp_le 41) :: (37, 1, a_iload 2) :: (38, 3, a_goto 42) :: []
def kX0_farthestOn_13 : pProg := (13, 1, a_istore 1) :: (14, 1, a_iconst 1) :: (15, 1, a_istore 2) :: (16, 0, a_fall 16) :: []
def kX0_farthestOn_11 : pProg := (11, 2, a_iconst (-9)) :: (13, 0, a_fall 13) :: []
def kX0_farthestOn_0 : pProg := (0, 1, a_aload 0) :: (1, 3, a_getf 0 0 6) :: (4, 3, a_if_le 11) :: (7, 1, a_iconst 0) :: (8, 3, a_goto 13) :: []
set_option maxRecDepth 100000 in
theorem sX0_farthestOn_49 (l : Launch) : AllS (pSnd l rmX0_farthestOn yX0_farthestOn.cls cX0_farthestOn wsX0_farthestOn 3 (some .int)) 49 kX0_farthestOn_49 :=
  alls _ (s_iload_n rfl dX0_farthestOn_49) <|
  alls _ (s_iret dX0_farthestOn_50) <|
  alls_nil _
set_option maxRecDepth 100000 in
theorem sX0_farthestOn_42 (l : Launch) : AllS (pSnd l rmX0_farthestOn yX0_farthestOn.cls cX0_farthestOn wsX0_farthestOn 3 (some .int)) 42 kX0_farthestOn_42 :=
  alls _ (s_istore_n rfl dX0_farthestOn_42) <|
  alls _ (s_iinc dX0_farthestOn_43) <|
  alls _ (s_goto (by decide) dX0_farthestOn_46) <|
  alls_nil _
set_option maxRecDepth 100000 in
theorem sX0_farthestOn_41 (l : Launch) : AllS (pSnd l rmX0_farthestOn yX0_farthestOn.cls cX0_farthestOn wsX0_farthestOn 3 (some .int)) 41 kX0_farthestOn_41 :=
  alls _ (s_iload_n rfl dX0_farthestOn_41) <|
  alls _ s_fall (alls_nil _)
set_option maxRecDepth 100000 in
theorem sX0_farthestOn_16 (l : Launch) : AllS (pSnd l rmX0_farthestOn yX0_farthestOn.cls cX0_farthestOn wsX0_farthestOn 3 (some .int)) 16 kX0_farthestOn_16 :=
  alls _ (s_iload_n rfl dX0_farthestOn_16) <|
  alls _ (s_aload_n rfl dX0_farthestOn_17) <|
  alls _ (s_getf (C := RX0) (T := TX0) (N := 8) rfl (in_c inX0) (by decide) (List.mem_cons_of_mem _ wd_89) rfl dX0_farthestOn_18) <|
  alls _ (s_icmp_ge (by decide) dX0_farthestOn_21) <|
  alls _ (s_aload_n rfl dX0_farthestOn_24) <|
  alls _ (s_iload_n rfl dX0_farthestOn_25) <|
  alls _ (s_callv (ct_X0_cellOf l) rfl rfl rfl (gdV wd_305 wd_306 wd_307 wd_61 wd_308) rfl rfl (by decide +kernel) ⟨Nat.le_of_ble_eq_true rfl, Nat.le_of_ble_eq_true rfl⟩ dX0_farthestOn_26) <|
  alls _ (s_aload_n rfl dX0_farthestOn_29) <|
  alls _ (s_iload_n rfl dX0_farthestOn_30) <|
  alls _ (s_callv (ct_X0_cellOf l) rfl rfl rfl (gdV wd_305 wd_306 wd_307 wd_61 wd_308) rfl rfl (by decide +kernel) ⟨Nat.le_of_ble_eq_true rfl, Nat.le_of_ble_eq_true rfl⟩ dX0_farthestOn_31) <|
  alls _ (s_icmp_le (by decide) dX0_farthestOn_34) <|
  alls _ (s_iload_n rfl dX0_farthestOn_37) <|
  alls _ (s_goto (by decide) dX0_farthestOn_38) <|
  alls_nil _
set_option maxRecDepth 100000 in
theorem sX0_farthestOn_13 (l : Launch) : AllS (pSnd l rmX0_farthestOn yX0_farthestOn.cls cX0_farthestOn wsX0_farthestOn 3 (some .int)) 13 kX0_farthestOn_13 :=
  alls _ (s_istore_n rfl dX0_farthestOn_13) <|
  alls _ (s_iconst dX0_farthestOn_14) <|
  alls _ (s_istore_n rfl dX0_farthestOn_15) <|
  alls _ s_fall (alls_nil _)
set_option maxRecDepth 100000 in
theorem sX0_farthestOn_11 (l : Launch) : AllS (pSnd l rmX0_farthestOn yX0_farthestOn.cls cX0_farthestOn wsX0_farthestOn 3 (some .int)) 11 kX0_farthestOn_11 :=
  alls _ (s_bipush (by decide) dX0_farthestOn_11) <|
  alls _ s_fall (alls_nil _)
set_option maxRecDepth 100000 in
theorem sX0_farthestOn_0 (l : Launch) : AllS (pSnd l rmX0_farthestOn yX0_farthestOn.cls cX0_farthestOn wsX0_farthestOn 3 (some .int)) 0 kX0_farthestOn_0 :=
  alls _ (s_aload_n rfl dX0_farthestOn_0) <|
  alls _ (s_getf (C := RX0) (T := TX0) (N := 8) rfl (in_c inX0) (by decide) (List.mem_cons_of_mem _ wd_89) rfl dX0_farthestOn_1) <|
  alls _ (s_if_le (by decide) dX0_farthestOn_4) <|
  alls _ (s_iconst dX0_farthestOn_7) <|
  alls _ (s_goto (by decide) dX0_farthestOn_8) <|
  alls_nil _
def KX0_farthestOn : List (Nat × pProg) := [(0, kX0_farthestOn_0), (11, kX0_farthestOn_11), (13, kX0_farthestOn_13), (16, kX0_farthestOn_16), (41, kX0_farthestOn_41), (42, kX0_farthestOn_42), (49, kX0_farthestOn_49)]
theorem bX0_farthestOn_0 : blkOf KX0_farthestOn 0 = some kX0_farthestOn_0 := rfl
theorem bX0_farthestOn_11 : blkOf KX0_farthestOn 11 = some kX0_farthestOn_11 := rfl
theorem bX0_farthestOn_13 : blkOf KX0_farthestOn 13 = some kX0_farthestOn_13 := rfl
theorem bX0_farthestOn_16 : blkOf KX0_farthestOn 16 = some kX0_farthestOn_16 := rfl
theorem bX0_farthestOn_41 : blkOf KX0_farthestOn 41 = some kX0_farthestOn_41 := rfl
theorem bX0_farthestOn_42 : blkOf KX0_farthestOn 42 = some kX0_farthestOn_42 := rfl
theorem bX0_farthestOn_49 : blkOf KX0_farthestOn 49 = some kX0_farthestOn_49 := rfl
def tX0_farthestOn : pT := pM KX0_farthestOn 3
theorem ct_X0_farthestOn (l : Launch) : pCtr l yX0_farthestOn wsX0_farthestOn rmX0_farthestOn 1 tX0_farthestOn := ctr_of (by decide +kernel) rfl (List.forall_mem_cons.mpr ⟨sX0_farthestOn_0 l, List.forall_mem_cons.mpr ⟨sX0_farthestOn_11 l, List.forall_mem_cons.mpr ⟨sX0_farthestOn_13 l, List.forall_mem_cons.mpr ⟨sX0_farthestOn_16 l, List.forall_mem_cons.mpr ⟨sX0_farthestOn_41 l, List.forall_mem_cons.mpr ⟨sX0_farthestOn_42 l, List.forall_mem_cons.mpr ⟨sX0_farthestOn_49 l, fun _ h => absurd h List.not_mem_nil⟩⟩⟩⟩⟩⟩⟩)
theorem dX0_freeBits_0 : decode cX0_freeBits 0 = .ok (.iconst 0, 1) := by decide +kernel
theorem dX0_freeBits_1 : decode cX0_freeBits 1 = .ok (.istore_n 1, 1) := by decide +kernel
theorem dX0_freeBits_2 : decode cX0_freeBits 2 = .ok (.iconst 0, 1) := by decide +kernel
theorem dX0_freeBits_3 : decode cX0_freeBits 3 = .ok (.istore_n 2, 1) := by decide +kernel
theorem dX0_freeBits_4 : decode cX0_freeBits 4 = .ok (.iload_n 2, 1) := by decide +kernel
theorem dX0_freeBits_5 : decode cX0_freeBits 5 = .ok (.bipush 20, 2) := by decide +kernel
theorem dX0_freeBits_7 : decode cX0_freeBits 7 = .ok (.if_icmp .ge 27, 3) := by decide +kernel
theorem dX0_freeBits_10 : decode cX0_freeBits 10 = .ok (.iload_n 1, 1) := by decide +kernel
theorem dX0_freeBits_11 : decode cX0_freeBits 11 = .ok (.aload_n 0, 1) := by decide +kernel
theorem dX0_freeBits_12 : decode cX0_freeBits 12 = .ok (.iload_n 2, 1) := by decide +kernel
theorem dX0_freeBits_13 : decode cX0_freeBits 13 = .ok (.invokevirtual 80, 3) := by decide +kernel
theorem dX0_freeBits_16 : decode cX0_freeBits 16 = .ok (.ifCond .ne 9, 3) := by decide +kernel
theorem dX0_freeBits_19 : decode cX0_freeBits 19 = .ok (.iconst 1, 1) := by decide +kernel
theorem dX0_freeBits_20 : decode cX0_freeBits 20 = .ok (.iload_n 2, 1) := by decide +kernel
theorem dX0_freeBits_21 : decode cX0_freeBits 21 = .ok (.ishl, 1) := by decide +kernel
theorem dX0_freeBits_22 : decode cX0_freeBits 22 = .ok (.goto 4, 3) := by decide +kernel
theorem dX0_freeBits_25 : decode cX0_freeBits 25 = .ok (.iconst 0, 1) := by decide +kernel
theorem dX0_freeBits_26 : decode cX0_freeBits 26 = .ok (.ior, 1) := by decide +kernel
theorem dX0_freeBits_27 : decode cX0_freeBits 27 = .ok (.istore_n 1, 1) := by decide +kernel
theorem dX0_freeBits_28 : decode cX0_freeBits 28 = .ok (.iinc 2 1, 3) := by decide +kernel
theorem dX0_freeBits_31 : decode cX0_freeBits 31 = .ok (.goto (-27), 3) := by decide +kernel
theorem dX0_freeBits_34 : decode cX0_freeBits 34 = .ok (.iload_n 1, 1) := by decide +kernel
theorem dX0_freeBits_35 : decode cX0_freeBits 35 = .ok (.ireturn, 1) := by decide +kernel
def rmX0_freeBits : Room := { frames := 1, cells := 0, slots := 0, locals := 21 }
abbrev wsX0_freeBits : List Cond := .code yX0_freeBits cX0_freeBits 3 (some .int) :: gw_tbl
def kX0_freeBits_34 : pProg := (34, 1, a_iload 1) :: (35, 1, a_iret) :: []
def kX0_freeBits_26 : pProg := (26, 1, a_ior) :: (27, 1, a_istore 1) :: (28, 3, a_iinc 2 1) :: (31, 3, a_goto 4) :: []
def kX0_freeBits_25 : pProg := (25, 1, a_iconst 0) :: (26, 0, a_fall 26) :: []
def kX0_freeBits_4 : pProg := (4, 1, a_iload 2) :: (5, 2, a_iconst 20) :: (7, 3, a_icmp_ge 34) :: (10, 1, a_iload 1) :: (11, 1, a_aload 0) :: (12, 1, a_iload 2) :: (13, 3, a_callv 2 0 [0, 1, 2, 3, 4, 5, 6] tX0_beamsIn) :: (16, 3, a_if_ne 25) :: (19, 1, a_iconst 1) :: (20, 1, a_iload 2) :: (21, 1, a_ishl) :: (22, 3, a_goto 26) :: []
def kX0_freeBits_0 : pProg := (0, 1, a_iconst 0) :: (1, 1, a_istore 1) :: (2, 1, a_iconst 0) :: (3, 1, a_istore 2) :: (4, 0, a_fall 4) :: []
set_option maxRecDepth 100000 in
theorem sX0_freeBits_34 (l : Launch) : AllS (pSnd l rmX0_freeBits yX0_freeBits.cls cX0_freeBits wsX0_freeBits 3 (some .int)) 34 kX0_freeBits_34 :=
  alls _ (s_iload_n rfl dX0_freeBits_34) <|
  alls _ (s_iret dX0_freeBits_35) <|
  alls_nil _
set_option maxRecDepth 100000 in
theorem sX0_freeBits_26 (l : Launch) : AllS (pSnd l rmX0_freeBits yX0_freeBits.cls cX0_freeBits wsX0_freeBits 3 (some .int)) 26 kX0_freeBits_26 :=
  alls _ (s_ior dX0_freeBits_26) <|
  alls _ (s_istore_n rfl dX0_freeBits_27) <|
  alls _ (s_iinc dX0_freeBits_28) <|
  alls _ (s_goto (by decide) dX0_freeBits_31) <|
  alls_nil _
set_option maxRecDepth 100000 in
theorem sX0_freeBits_25 (l : Launch) : AllS (pSnd l rmX0_freeBits yX0_freeBits.cls cX0_freeBits wsX0_freeBits 3 (some .int)) 25 kX0_freeBits_25 :=
  alls _ (s_iconst dX0_freeBits_25) <|
  alls _ s_fall (alls_nil _)
set_option maxRecDepth 100000 in
theorem sX0_freeBits_4 (l : Launch) : AllS (pSnd l rmX0_freeBits yX0_freeBits.cls cX0_freeBits wsX0_freeBits 3 (some .int)) 4 kX0_freeBits_4 :=
  alls _ (s_iload_n rfl dX0_freeBits_4) <|
  alls _ (s_bipush (by decide) dX0_freeBits_5) <|
  alls _ (s_icmp_ge (by decide) dX0_freeBits_7) <|
  alls _ (s_iload_n rfl dX0_freeBits_10) <|
  alls _ (s_aload_n rfl dX0_freeBits_11) <|
  alls _ (s_iload_n rfl dX0_freeBits_12) <|
  alls _ (s_callv (ct_X0_beamsIn l) rfl rfl rfl (gdV wd_310 wd_311 wd_312 wd_61 wd_313) rfl rfl (by decide +kernel) ⟨Nat.le_of_ble_eq_true rfl, Nat.le_of_ble_eq_true rfl⟩ dX0_freeBits_13) <|
  alls _ (s_if_ne (by decide) dX0_freeBits_16) <|
  alls _ (s_iconst dX0_freeBits_19) <|
  alls _ (s_iload_n rfl dX0_freeBits_20) <|
  alls _ (s_ishl dX0_freeBits_21) <|
  alls _ (s_goto (by decide) dX0_freeBits_22) <|
  alls_nil _
set_option maxRecDepth 100000 in
theorem sX0_freeBits_0 (l : Launch) : AllS (pSnd l rmX0_freeBits yX0_freeBits.cls cX0_freeBits wsX0_freeBits 3 (some .int)) 0 kX0_freeBits_0 :=
  alls _ (s_iconst dX0_freeBits_0) <|
  alls _ (s_istore_n rfl dX0_freeBits_1) <|
  alls _ (s_iconst dX0_freeBits_2) <|
  alls _ (s_istore_n rfl dX0_freeBits_3) <|
  alls _ s_fall (alls_nil _)
def KX0_freeBits : List (Nat × pProg) := [(0, kX0_freeBits_0), (4, kX0_freeBits_4), (25, kX0_freeBits_25), (26, kX0_freeBits_26), (34, kX0_freeBits_34)]
theorem bX0_freeBits_0 : blkOf KX0_freeBits 0 = some kX0_freeBits_0 := rfl
theorem bX0_freeBits_4 : blkOf KX0_freeBits 4 = some kX0_freeBits_4 := rfl
theorem bX0_freeBits_25 : blkOf KX0_freeBits 25 = some kX0_freeBits_25 := rfl
theorem bX0_freeBits_26 : blkOf KX0_freeBits 26 = some kX0_freeBits_26 := rfl
theorem bX0_freeBits_34 : blkOf KX0_freeBits 34 = some kX0_freeBits_34 := rfl
def tX0_freeBits : pT := pM KX0_freeBits 3
theorem ct_X0_freeBits (l : Launch) : pCtr l yX0_freeBits wsX0_freeBits rmX0_freeBits 1 tX0_freeBits := ctr_of (by decide +kernel) rfl (List.forall_mem_cons.mpr ⟨sX0_freeBits_0 l, List.forall_mem_cons.mpr ⟨sX0_freeBits_4 l, List.forall_mem_cons.mpr ⟨sX0_freeBits_25 l, List.forall_mem_cons.mpr ⟨sX0_freeBits_26 l, List.forall_mem_cons.mpr ⟨sX0_freeBits_34 l, fun _ h => absurd h List.not_mem_nil⟩⟩⟩⟩⟩)
theorem dX0_cellOfMost_0 : decode cX0_cellOfMost 0 = .ok (.iconst 0, 1) := by decide +kernel
theorem dX0_cellOfMost_1 : decode cX0_cellOfMost 1 = .ok (.istore_n 1, 1) := by decide +kernel
theorem dX0_cellOfMost_2 : decode cX0_cellOfMost 2 = .ok (.iconst 1, 1) := by decide +kernel
theorem dX0_cellOfMost_3 : decode cX0_cellOfMost 3 = .ok (.istore_n 2, 1) := by decide +kernel
theorem dX0_cellOfMost_4 : decode cX0_cellOfMost 4 = .ok (.iload_n 2, 1) := by decide +kernel
theorem dX0_cellOfMost_5 : decode cX0_cellOfMost 5 = .ok (.bipush 20, 2) := by decide +kernel
theorem dX0_cellOfMost_7 : decode cX0_cellOfMost 7 = .ok (.if_icmp .ge 28, 3) := by decide +kernel
theorem dX0_cellOfMost_10 : decode cX0_cellOfMost 10 = .ok (.aload_n 0, 1) := by decide +kernel
theorem dX0_cellOfMost_11 : decode cX0_cellOfMost 11 = .ok (.iload_n 2, 1) := by decide +kernel
theorem dX0_cellOfMost_12 : decode cX0_cellOfMost 12 = .ok (.invokevirtual 80, 3) := by decide +kernel
theorem dX0_cellOfMost_15 : decode cX0_cellOfMost 15 = .ok (.aload_n 0, 1) := by decide +kernel
theorem dX0_cellOfMost_16 : decode cX0_cellOfMost 16 = .ok (.iload_n 1, 1) := by decide +kernel
theorem dX0_cellOfMost_17 : decode cX0_cellOfMost 17 = .ok (.invokevirtual 80, 3) := by decide +kernel
theorem dX0_cellOfMost_20 : decode cX0_cellOfMost 20 = .ok (.if_icmp .le 7, 3) := by decide +kernel
theorem dX0_cellOfMost_23 : decode cX0_cellOfMost 23 = .ok (.iload_n 2, 1) := by decide +kernel
theorem dX0_cellOfMost_24 : decode cX0_cellOfMost 24 = .ok (.goto 4, 3) := by decide +kernel
theorem dX0_cellOfMost_27 : decode cX0_cellOfMost 27 = .ok (.iload_n 1, 1) := by decide +kernel
theorem dX0_cellOfMost_28 : decode cX0_cellOfMost 28 = .ok (.istore_n 1, 1) := by decide +kernel
theorem dX0_cellOfMost_29 : decode cX0_cellOfMost 29 = .ok (.iinc 2 1, 3) := by decide +kernel
theorem dX0_cellOfMost_32 : decode cX0_cellOfMost 32 = .ok (.goto (-28), 3) := by decide +kernel
theorem dX0_cellOfMost_35 : decode cX0_cellOfMost 35 = .ok (.iload_n 1, 1) := by decide +kernel
theorem dX0_cellOfMost_36 : decode cX0_cellOfMost 36 = .ok (.ireturn, 1) := by decide +kernel
def rmX0_cellOfMost : Room := { frames := 1, cells := 0, slots := 0, locals := 21 }
abbrev wsX0_cellOfMost : List Cond := .code yX0_cellOfMost cX0_cellOfMost 3 (some .int) :: gw_tbl
def kX0_cellOfMost_35 : pProg := (35, 1, a_iload 1) :: (36, 1, a_iret) :: []
def kX0_cellOfMost_28 : pProg := (28, 1, a_istore 1) :: (29, 3, a_iinc 2 1) :: (32, 3, a_goto 4) :: []
def kX0_cellOfMost_27 : pProg := (27, 1, a_iload 1) :: (28, 0, a_fall 28) :: []
def kX0_cellOfMost_4 : pProg := (4, 1, a_iload 2) :: (5, 2, a_iconst 20) :: (7, 3, a_icmp_ge 35) :: (10, 1, a_aload 0) :: (11, 1, a_iload 2) :: (12, 3, a_callv 2 0 [0, 1, 2, 3, 4, 5, 6] tX0_beamsIn) :: (15, 1, a_aload 0) :: (16, 1, a_iload 1) :: (17, 3, a_callv 2 0 [0, 1, 2, 3, 4, 5, 6] tX0_beamsIn) :: (20, 3, a_icmp_le 27) :: (23, 1, a_iload 2) :: (24, 3, a_goto 28) :: []
def kX0_cellOfMost_0 : pProg := (0, 1, a_iconst 0) :: (1, 1, a_istore 1) :: (2, 1, a_iconst 1) :: (3, 1, a_istore 2) :: (4, 0, a_fall 4) :: []
set_option maxRecDepth 100000 in
theorem sX0_cellOfMost_35 (l : Launch) : AllS (pSnd l rmX0_cellOfMost yX0_cellOfMost.cls cX0_cellOfMost wsX0_cellOfMost 3 (some .int)) 35 kX0_cellOfMost_35 :=
  alls _ (s_iload_n rfl dX0_cellOfMost_35) <|
  alls _ (s_iret dX0_cellOfMost_36) <|
  alls_nil _
set_option maxRecDepth 100000 in
theorem sX0_cellOfMost_28 (l : Launch) : AllS (pSnd l rmX0_cellOfMost yX0_cellOfMost.cls cX0_cellOfMost wsX0_cellOfMost 3 (some .int)) 28 kX0_cellOfMost_28 :=
  alls _ (s_istore_n rfl dX0_cellOfMost_28) <|
  alls _ (s_iinc dX0_cellOfMost_29) <|
  alls _ (s_goto (by decide) dX0_cellOfMost_32) <|
  alls_nil _
set_option maxRecDepth 100000 in
theorem sX0_cellOfMost_27 (l : Launch) : AllS (pSnd l rmX0_cellOfMost yX0_cellOfMost.cls cX0_cellOfMost wsX0_cellOfMost 3 (some .int)) 27 kX0_cellOfMost_27 :=
  alls _ (s_iload_n rfl dX0_cellOfMost_27) <|
  alls _ s_fall (alls_nil _)
set_option maxRecDepth 100000 in
theorem sX0_cellOfMost_4 (l : Launch) : AllS (pSnd l rmX0_cellOfMost yX0_cellOfMost.cls cX0_cellOfMost wsX0_cellOfMost 3 (some .int)) 4 kX0_cellOfMost_4 :=
  alls _ (s_iload_n rfl dX0_cellOfMost_4) <|
  alls _ (s_bipush (by decide) dX0_cellOfMost_5) <|
  alls _ (s_icmp_ge (by decide) dX0_cellOfMost_7) <|
  alls _ (s_aload_n rfl dX0_cellOfMost_10) <|
  alls _ (s_iload_n rfl dX0_cellOfMost_11) <|
  alls _ (s_callv (ct_X0_beamsIn l) rfl rfl rfl (gdV wd_310 wd_311 wd_312 wd_61 wd_313) rfl rfl (by decide +kernel) ⟨Nat.le_of_ble_eq_true rfl, Nat.le_of_ble_eq_true rfl⟩ dX0_cellOfMost_12) <|
  alls _ (s_aload_n rfl dX0_cellOfMost_15) <|
  alls _ (s_iload_n rfl dX0_cellOfMost_16) <|
  alls _ (s_callv (ct_X0_beamsIn l) rfl rfl rfl (gdV wd_310 wd_311 wd_312 wd_61 wd_313) rfl rfl (by decide +kernel) ⟨Nat.le_of_ble_eq_true rfl, Nat.le_of_ble_eq_true rfl⟩ dX0_cellOfMost_17) <|
  alls _ (s_icmp_le (by decide) dX0_cellOfMost_20) <|
  alls _ (s_iload_n rfl dX0_cellOfMost_23) <|
  alls _ (s_goto (by decide) dX0_cellOfMost_24) <|
  alls_nil _
set_option maxRecDepth 100000 in
theorem sX0_cellOfMost_0 (l : Launch) : AllS (pSnd l rmX0_cellOfMost yX0_cellOfMost.cls cX0_cellOfMost wsX0_cellOfMost 3 (some .int)) 0 kX0_cellOfMost_0 :=
  alls _ (s_iconst dX0_cellOfMost_0) <|
  alls _ (s_istore_n rfl dX0_cellOfMost_1) <|
  alls _ (s_iconst dX0_cellOfMost_2) <|
  alls _ (s_istore_n rfl dX0_cellOfMost_3) <|
  alls _ s_fall (alls_nil _)
def KX0_cellOfMost : List (Nat × pProg) := [(0, kX0_cellOfMost_0), (4, kX0_cellOfMost_4), (27, kX0_cellOfMost_27), (28, kX0_cellOfMost_28), (35, kX0_cellOfMost_35)]
theorem bX0_cellOfMost_0 : blkOf KX0_cellOfMost 0 = some kX0_cellOfMost_0 := rfl
theorem bX0_cellOfMost_4 : blkOf KX0_cellOfMost 4 = some kX0_cellOfMost_4 := rfl
theorem bX0_cellOfMost_27 : blkOf KX0_cellOfMost 27 = some kX0_cellOfMost_27 := rfl
theorem bX0_cellOfMost_28 : blkOf KX0_cellOfMost 28 = some kX0_cellOfMost_28 := rfl
theorem bX0_cellOfMost_35 : blkOf KX0_cellOfMost 35 = some kX0_cellOfMost_35 := rfl
def tX0_cellOfMost : pT := pM KX0_cellOfMost 3
theorem ct_X0_cellOfMost (l : Launch) : pCtr l yX0_cellOfMost wsX0_cellOfMost rmX0_cellOfMost 1 tX0_cellOfMost := ctr_of (by decide +kernel) rfl (List.forall_mem_cons.mpr ⟨sX0_cellOfMost_0 l, List.forall_mem_cons.mpr ⟨sX0_cellOfMost_4 l, List.forall_mem_cons.mpr ⟨sX0_cellOfMost_27 l, List.forall_mem_cons.mpr ⟨sX0_cellOfMost_28 l, List.forall_mem_cons.mpr ⟨sX0_cellOfMost_35 l, fun _ h => absurd h List.not_mem_nil⟩⟩⟩⟩⟩)
theorem dX0_allBeams_0 : decode cX0_allBeams 0 = .ok (.iconst 0, 1) := by decide +kernel
theorem dX0_allBeams_1 : decode cX0_allBeams 1 = .ok (.istore_n 1, 1) := by decide +kernel
theorem dX0_allBeams_2 : decode cX0_allBeams 2 = .ok (.iconst 0, 1) := by decide +kernel
theorem dX0_allBeams_3 : decode cX0_allBeams 3 = .ok (.istore_n 2, 1) := by decide +kernel
theorem dX0_allBeams_4 : decode cX0_allBeams 4 = .ok (.iload_n 2, 1) := by decide +kernel
theorem dX0_allBeams_5 : decode cX0_allBeams 5 = .ok (.bipush 20, 2) := by decide +kernel
theorem dX0_allBeams_7 : decode cX0_allBeams 7 = .ok (.if_icmp .ge 17, 3) := by decide +kernel
theorem dX0_allBeams_10 : decode cX0_allBeams 10 = .ok (.iload_n 1, 1) := by decide +kernel
theorem dX0_allBeams_11 : decode cX0_allBeams 11 = .ok (.aload_n 0, 1) := by decide +kernel
theorem dX0_allBeams_12 : decode cX0_allBeams 12 = .ok (.iload_n 2, 1) := by decide +kernel
theorem dX0_allBeams_13 : decode cX0_allBeams 13 = .ok (.invokevirtual 80, 3) := by decide +kernel
theorem dX0_allBeams_16 : decode cX0_allBeams 16 = .ok (.iadd, 1) := by decide +kernel
theorem dX0_allBeams_17 : decode cX0_allBeams 17 = .ok (.istore_n 1, 1) := by decide +kernel
theorem dX0_allBeams_18 : decode cX0_allBeams 18 = .ok (.iinc 2 1, 3) := by decide +kernel
theorem dX0_allBeams_21 : decode cX0_allBeams 21 = .ok (.goto (-17), 3) := by decide +kernel
theorem dX0_allBeams_24 : decode cX0_allBeams 24 = .ok (.iload_n 1, 1) := by decide +kernel
theorem dX0_allBeams_25 : decode cX0_allBeams 25 = .ok (.ireturn, 1) := by decide +kernel
def rmX0_allBeams : Room := { frames := 1, cells := 0, slots := 0, locals := 21 }
abbrev wsX0_allBeams : List Cond := .code yX0_allBeams cX0_allBeams 3 (some .int) :: gw_tbl
def kX0_allBeams_24 : pProg := (24, 1, a_iload 1) :: (25, 1, a_iret) :: []
def kX0_allBeams_4 : pProg := (4, 1, a_iload 2) :: (5, 2, a_iconst 20) :: (7, 3, a_icmp_ge 24) :: (10, 1, a_iload 1) :: (11, 1, a_aload 0) :: (12, 1, a_iload 2) :: (13, 3, a_callv 2 0 [0, 1, 2, 3, 4, 5, 6] tX0_beamsIn) :: (16, 1, a_iadd) :: (17, 1, a_istore 1) :: (18, 3, a_iinc 2 1) :: (21, 3, a_goto 4) :: []
def kX0_allBeams_0 : pProg := (0, 1, a_iconst 0) :: (1, 1, a_istore 1) :: (2, 1, a_iconst 0) :: (3, 1, a_istore 2) :: (4, 0, a_fall 4) :: []
set_option maxRecDepth 100000 in
theorem sX0_allBeams_24 (l : Launch) : AllS (pSnd l rmX0_allBeams yX0_allBeams.cls cX0_allBeams wsX0_allBeams 3 (some .int)) 24 kX0_allBeams_24 :=
  alls _ (s_iload_n rfl dX0_allBeams_24) <|
  alls _ (s_iret dX0_allBeams_25) <|
  alls_nil _
set_option maxRecDepth 100000 in
theorem sX0_allBeams_4 (l : Launch) : AllS (pSnd l rmX0_allBeams yX0_allBeams.cls cX0_allBeams wsX0_allBeams 3 (some .int)) 4 kX0_allBeams_4 :=
  alls _ (s_iload_n rfl dX0_allBeams_4) <|
  alls _ (s_bipush (by decide) dX0_allBeams_5) <|
  alls _ (s_icmp_ge (by decide) dX0_allBeams_7) <|
  alls _ (s_iload_n rfl dX0_allBeams_10) <|
  alls _ (s_aload_n rfl dX0_allBeams_11) <|
  alls _ (s_iload_n rfl dX0_allBeams_12) <|
  alls _ (s_callv (ct_X0_beamsIn l) rfl rfl rfl (gdV wd_310 wd_311 wd_312 wd_61 wd_313) rfl rfl (by decide +kernel) ⟨Nat.le_of_ble_eq_true rfl, Nat.le_of_ble_eq_true rfl⟩ dX0_allBeams_13) <|
  alls _ (s_iadd dX0_allBeams_16) <|
  alls _ (s_istore_n rfl dX0_allBeams_17) <|
  alls _ (s_iinc dX0_allBeams_18) <|
  alls _ (s_goto (by decide) dX0_allBeams_21) <|
  alls_nil _
set_option maxRecDepth 100000 in
theorem sX0_allBeams_0 (l : Launch) : AllS (pSnd l rmX0_allBeams yX0_allBeams.cls cX0_allBeams wsX0_allBeams 3 (some .int)) 0 kX0_allBeams_0 :=
  alls _ (s_iconst dX0_allBeams_0) <|
  alls _ (s_istore_n rfl dX0_allBeams_1) <|
  alls _ (s_iconst dX0_allBeams_2) <|
  alls _ (s_istore_n rfl dX0_allBeams_3) <|
  alls _ s_fall (alls_nil _)
def KX0_allBeams : List (Nat × pProg) := [(0, kX0_allBeams_0), (4, kX0_allBeams_4), (24, kX0_allBeams_24)]
theorem bX0_allBeams_0 : blkOf KX0_allBeams 0 = some kX0_allBeams_0 := rfl
theorem bX0_allBeams_4 : blkOf KX0_allBeams 4 = some kX0_allBeams_4 := rfl
theorem bX0_allBeams_24 : blkOf KX0_allBeams 24 = some kX0_allBeams_24 := rfl
def tX0_allBeams : pT := pM KX0_allBeams 3
theorem ct_X0_allBeams (l : Launch) : pCtr l yX0_allBeams wsX0_allBeams rmX0_allBeams 1 tX0_allBeams := ctr_of (by decide +kernel) rfl (List.forall_mem_cons.mpr ⟨sX0_allBeams_0 l, List.forall_mem_cons.mpr ⟨sX0_allBeams_4 l, List.forall_mem_cons.mpr ⟨sX0_allBeams_24 l, fun _ h => absurd h List.not_mem_nil⟩⟩⟩)
theorem dX0_eagerBits_0 : decode cX0_eagerBits 0 = .ok (.iconst 0, 1) := by decide +kernel
theorem dX0_eagerBits_1 : decode cX0_eagerBits 1 = .ok (.istore_n 1, 1) := by decide +kernel
theorem dX0_eagerBits_2 : decode cX0_eagerBits 2 = .ok (.iconst 0, 1) := by decide +kernel
theorem dX0_eagerBits_3 : decode cX0_eagerBits 3 = .ok (.istore_n 2, 1) := by decide +kernel
theorem dX0_eagerBits_4 : decode cX0_eagerBits 4 = .ok (.iload_n 2, 1) := by decide +kernel
theorem dX0_eagerBits_5 : decode cX0_eagerBits 5 = .ok (.aload_n 0, 1) := by decide +kernel
theorem dX0_eagerBits_6 : decode cX0_eagerBits 6 = .ok (.invokevirtual 108, 3) := by decide +kernel
theorem dX0_eagerBits_9 : decode cX0_eagerBits 9 = .ok (.if_icmp .ge 33, 3) := by decide +kernel
theorem dX0_eagerBits_12 : decode cX0_eagerBits 12 = .ok (.iload_n 1, 1) := by decide +kernel
theorem dX0_eagerBits_13 : decode cX0_eagerBits 13 = .ok (.aload_n 0, 1) := by decide +kernel
theorem dX0_eagerBits_14 : decode cX0_eagerBits 14 = .ok (.iload_n 2, 1) := by decide +kernel
theorem dX0_eagerBits_15 : decode cX0_eagerBits 15 = .ok (.aload_n 0, 1) := by decide +kernel
theorem dX0_eagerBits_16 : decode cX0_eagerBits 16 = .ok (.getfield 38, 3) := by decide +kernel
theorem dX0_eagerBits_19 : decode cX0_eagerBits 19 = .ok (.iconst 1, 1) := by decide +kernel
theorem dX0_eagerBits_20 : decode cX0_eagerBits 20 = .ok (.iadd, 1) := by decide +kernel
theorem dX0_eagerBits_21 : decode cX0_eagerBits 21 = .ok (.invokevirtual 89, 3) := by decide +kernel
theorem dX0_eagerBits_24 : decode cX0_eagerBits 24 = .ok (.ifCond .eq 9, 3) := by decide +kernel
theorem dX0_eagerBits_27 : decode cX0_eagerBits 27 = .ok (.iconst 1, 1) := by decide +kernel
theorem dX0_eagerBits_28 : decode cX0_eagerBits 28 = .ok (.iload_n 2, 1) := by decide +kernel
theorem dX0_eagerBits_29 : decode cX0_eagerBits 29 = .ok (.ishl, 1) := by decide +kernel
theorem dX0_eagerBits_30 : decode cX0_eagerBits 30 = .ok (.goto 4, 3) := by decide +kernel
theorem dX0_eagerBits_33 : decode cX0_eagerBits 33 = .ok (.iconst 0, 1) := by decide +kernel
theorem dX0_eagerBits_34 : decode cX0_eagerBits 34 = .ok (.ior, 1) := by decide +kernel
theorem dX0_eagerBits_35 : decode cX0_eagerBits 35 = .ok (.istore_n 1, 1) := by decide +kernel
theorem dX0_eagerBits_36 : decode cX0_eagerBits 36 = .ok (.iinc 2 1, 3) := by decide +kernel
theorem dX0_eagerBits_39 : decode cX0_eagerBits 39 = .ok (.goto (-35), 3) := by decide +kernel
theorem dX0_eagerBits_42 : decode cX0_eagerBits 42 = .ok (.iload_n 1, 1) := by decide +kernel
theorem dX0_eagerBits_43 : decode cX0_eagerBits 43 = .ok (.ireturn, 1) := by decide +kernel
def rmX0_eagerBits : Room := { frames := 2, cells := 0, slots := 0, locals := 49 }
abbrev wsX0_eagerBits : List Cond := .code yX0_eagerBits cX0_eagerBits 3 (some .int) :: gw_tbl
def kX0_eagerBits_42 : pProg := (42, 1, a_iload 1) :: (43, 1, a_iret) :: []
def kX0_eagerBits_34 : pProg := (34, 1, a_ior) :: (35, 1, a_istore 1) :: (36, 3, a_iinc 2 1) :: (39, 3, a_goto 4) :: []
def kX0_eagerBits_33 : pProg := (33, 1, a_iconst 0) :: (34, 0, a_fall 34) :: []
def kX0_eagerBits_4 : pProg := (4, 1, a_iload 2) :: (5, 1, a_aload 0) :: (6, 3, a_callv 1 0 [0, 1, 2, 3, 4, 5, 6] tX0_miners) :: (9, 3, a_icmp_ge 42) :: (12, 1, a_iload 1) :: (13, 1, a_aload 0) :: (14, 1, a_iload 2) :: (15, 1, a_aload 0) :: (16, 3, a_getf 0 0 7) :: (19, 1, a_iconst 1) :: (20, 1, a_iadd) :: (21, 3, a_callv 3 0 [0, 1, 2, 3, 4, 5, 6] tX0_wantsIn) :: (24, 3, a_if_eq 33) :: (27, 1, a_iconst 1) :: (28, 1, a_iload 2) :: (29, 1, a_ishl) :: (30, 3, a_goto 34) :: []
def kX0_eagerBits_0 : pProg := (0, 1, a_iconst 0) :: (1, 1, a_istore 1) :: (2, 1, a_iconst 0) :: (3, 1, a_istore 2) :: (4, 0, a_fall 4) :: []
set_option maxRecDepth 100000 in
theorem sX0_eagerBits_42 (l : Launch) : AllS (pSnd l rmX0_eagerBits yX0_eagerBits.cls cX0_eagerBits wsX0_eagerBits 3 (some .int)) 42 kX0_eagerBits_42 :=
  alls _ (s_iload_n rfl dX0_eagerBits_42) <|
  alls _ (s_iret dX0_eagerBits_43) <|
  alls_nil _
set_option maxRecDepth 100000 in
theorem sX0_eagerBits_34 (l : Launch) : AllS (pSnd l rmX0_eagerBits yX0_eagerBits.cls cX0_eagerBits wsX0_eagerBits 3 (some .int)) 34 kX0_eagerBits_34 :=
  alls _ (s_ior dX0_eagerBits_34) <|
  alls _ (s_istore_n rfl dX0_eagerBits_35) <|
  alls _ (s_iinc dX0_eagerBits_36) <|
  alls _ (s_goto (by decide) dX0_eagerBits_39) <|
  alls_nil _
set_option maxRecDepth 100000 in
theorem sX0_eagerBits_33 (l : Launch) : AllS (pSnd l rmX0_eagerBits yX0_eagerBits.cls cX0_eagerBits wsX0_eagerBits 3 (some .int)) 33 kX0_eagerBits_33 :=
  alls _ (s_iconst dX0_eagerBits_33) <|
  alls _ s_fall (alls_nil _)
set_option maxRecDepth 100000 in
theorem sX0_eagerBits_4 (l : Launch) : AllS (pSnd l rmX0_eagerBits yX0_eagerBits.cls cX0_eagerBits wsX0_eagerBits 3 (some .int)) 4 kX0_eagerBits_4 :=
  alls _ (s_iload_n rfl dX0_eagerBits_4) <|
  alls _ (s_aload_n rfl dX0_eagerBits_5) <|
  alls _ (s_callv (ct_X0_miners l) rfl rfl rfl (gdV wd_448 wd_240 wd_241 wd_61 wd_242) rfl rfl (by decide +kernel) ⟨Nat.le_of_ble_eq_true rfl, Nat.le_of_ble_eq_true rfl⟩ dX0_eagerBits_6) <|
  alls _ (s_icmp_ge (by decide) dX0_eagerBits_9) <|
  alls _ (s_iload_n rfl dX0_eagerBits_12) <|
  alls _ (s_aload_n rfl dX0_eagerBits_13) <|
  alls _ (s_iload_n rfl dX0_eagerBits_14) <|
  alls _ (s_aload_n rfl dX0_eagerBits_15) <|
  alls _ (s_getf (C := RX0) (T := TX0) (N := 8) rfl (in_c inX0) (by decide) (List.mem_cons_of_mem _ wd_90) rfl dX0_eagerBits_16) <|
  alls _ (s_iconst dX0_eagerBits_19) <|
  alls _ (s_iadd dX0_eagerBits_20) <|
  alls _ (s_callv (ct_X0_wantsIn l) rfl rfl rfl (gdV wd_301 wd_302 wd_303 wd_61 wd_304) rfl rfl (by decide +kernel) ⟨Nat.le_of_ble_eq_true rfl, Nat.le_of_ble_eq_true rfl⟩ dX0_eagerBits_21) <|
  alls _ (s_if_eq (by decide) dX0_eagerBits_24) <|
  alls _ (s_iconst dX0_eagerBits_27) <|
  alls _ (s_iload_n rfl dX0_eagerBits_28) <|
  alls _ (s_ishl dX0_eagerBits_29) <|
  alls _ (s_goto (by decide) dX0_eagerBits_30) <|
  alls_nil _
set_option maxRecDepth 100000 in
theorem sX0_eagerBits_0 (l : Launch) : AllS (pSnd l rmX0_eagerBits yX0_eagerBits.cls cX0_eagerBits wsX0_eagerBits 3 (some .int)) 0 kX0_eagerBits_0 :=
  alls _ (s_iconst dX0_eagerBits_0) <|
  alls _ (s_istore_n rfl dX0_eagerBits_1) <|
  alls _ (s_iconst dX0_eagerBits_2) <|
  alls _ (s_istore_n rfl dX0_eagerBits_3) <|
  alls _ s_fall (alls_nil _)
def KX0_eagerBits : List (Nat × pProg) := [(0, kX0_eagerBits_0), (4, kX0_eagerBits_4), (33, kX0_eagerBits_33), (34, kX0_eagerBits_34), (42, kX0_eagerBits_42)]
theorem bX0_eagerBits_0 : blkOf KX0_eagerBits 0 = some kX0_eagerBits_0 := rfl
theorem bX0_eagerBits_4 : blkOf KX0_eagerBits 4 = some kX0_eagerBits_4 := rfl
theorem bX0_eagerBits_33 : blkOf KX0_eagerBits 33 = some kX0_eagerBits_33 := rfl
theorem bX0_eagerBits_34 : blkOf KX0_eagerBits 34 = some kX0_eagerBits_34 := rfl
theorem bX0_eagerBits_42 : blkOf KX0_eagerBits 42 = some kX0_eagerBits_42 := rfl
def tX0_eagerBits : pT := pM KX0_eagerBits 3
theorem ct_X0_eagerBits (l : Launch) : pCtr l yX0_eagerBits wsX0_eagerBits rmX0_eagerBits 1 tX0_eagerBits := ctr_of (by decide +kernel) rfl (List.forall_mem_cons.mpr ⟨sX0_eagerBits_0 l, List.forall_mem_cons.mpr ⟨sX0_eagerBits_4 l, List.forall_mem_cons.mpr ⟨sX0_eagerBits_33 l, List.forall_mem_cons.mpr ⟨sX0_eagerBits_34 l, List.forall_mem_cons.mpr ⟨sX0_eagerBits_42 l, fun _ h => absurd h List.not_mem_nil⟩⟩⟩⟩⟩)
theorem dX0_firstNotSo_0 : decode cX0_firstNotSo 0 = .ok (.aload_n 1, 1) := by decide +kernel
theorem dX0_firstNotSo_1 : decode cX0_firstNotSo 1 = .ok (.ifnonnull 6, 3) := by decide +kernel
theorem dX0_firstNotSo_7 : decode cX0_firstNotSo 7 = .ok (.iconst 0, 1) := by decide +kernel
theorem dX0_firstNotSo_8 : decode cX0_firstNotSo 8 = .ok (.istore_n 2, 1) := by decide +kernel
theorem dX0_firstNotSo_9 : decode cX0_firstNotSo 9 = .ok (.iload_n 2, 1) := by decide +kernel
theorem dX0_firstNotSo_10 : decode cX0_firstNotSo 10 = .ok (.aload_n 1, 1) := by decide +kernel
theorem dX0_firstNotSo_11 : decode cX0_firstNotSo 11 = .ok (.invokevirtual 112, 3) := by decide +kernel
theorem dX0_firstNotSo_14 : decode cX0_firstNotSo 14 = .ok (.if_icmp .ge 24, 3) := by decide +kernel
theorem dX0_firstNotSo_17 : decode cX0_firstNotSo 17 = .ok (.aload_n 0, 1) := by decide +kernel
theorem dX0_firstNotSo_18 : decode cX0_firstNotSo 18 = .ok (.iload_n 2, 1) := by decide +kernel
theorem dX0_firstNotSo_19 : decode cX0_firstNotSo 19 = .ok (.invokevirtual 80, 3) := by decide +kernel
theorem dX0_firstNotSo_22 : decode cX0_firstNotSo 22 = .ok (.aload_n 1, 1) := by decide +kernel
theorem dX0_firstNotSo_23 : decode cX0_firstNotSo 23 = .ok (.iload_n 2, 1) := by decide +kernel
theorem dX0_firstNotSo_24 : decode cX0_firstNotSo 24 = .ok (.invokevirtual 117, 3) := by decide +kernel
theorem dX0_firstNotSo_27 : decode cX0_firstNotSo 27 = .ok (.if_icmp .eq 5, 3) := by decide +kernel
theorem dX0_firstNotSo_30 : decode cX0_firstNotSo 30 = .ok (.iload_n 2, 1) := by decide +kernel
theorem dX0_firstNotSo_31 : decode cX0_firstNotSo 31 = .ok (.ireturn, 1) := by decide +kernel
theorem dX0_firstNotSo_32 : decode cX0_firstNotSo 32 = .ok (.iinc 2 1, 3) := by decide +kernel
theorem dX0_firstNotSo_35 : decode cX0_firstNotSo 35 = .ok (.goto (-26), 3) := by decide +kernel
theorem dX0_firstNotSo_38 : decode cX0_firstNotSo 38 = .ok (.bipush (-9), 2) := by decide +kernel
theorem dX0_firstNotSo_40 : decode cX0_firstNotSo 40 = .ok (.ireturn, 1) := by decide +kernel
def rmX0_firstNotSo : Room := { frames := 1, cells := 0, slots := 0, locals := 21 }
abbrev wsX0_firstNotSo : List Cond := .code yX0_firstNotSo cX0_firstNotSo 3 (some .int) :: gw_tbl
def kX0_firstNotSo_38 : pProg := (38, 2, a_iconst (-9)) :: (40, 1, a_iret) :: []
def kX0_firstNotSo_32 : pProg := (32, 3, a_iinc 2 1) :: (35, 3, a_goto 9) :: []
def kX0_firstNotSo_9 : pProg := (9, 1, a_iload 2) :: (10, 1, a_aload 1) :: (11, 3, a_callv 1 1 [7, 8] tX2_size) :: (14, 3, a_icmp_ge 38) :: (17, 1, a_aload 0) :: (18, 1, a_iload 2) :: (19, 3, a_callv 2 0 [0, 1, 2, 3, 4, 5, 6] tX0_beamsIn) :: (22, 1, a_aload 1) :: (23, 1, a_iload 2) :: (24, 3, a_callv 2 1 [7, 8] tX2_at) :: (27, 3, a_icmp_eq 32) :: (30, 1, a_iload 2) :: (31, 1, a_iret) :: []
def kX0_firstNotSo_7 : pProg := (7, 1, a_iconst 0) :: (8, 1, a_istore 2) :: (9, 0, a_fall 9) :: []
def kX0_firstNotSo_0 : pProg := (0, 1, a_aload 1) :: (1, 3, a_ifnonnull 7) :: []
set_option maxRecDepth 100000 in
theorem sX0_firstNotSo_38 (l : Launch) : AllS (pSnd l rmX0_firstNotSo yX0_firstNotSo.cls cX0_firstNotSo wsX0_firstNotSo 3 (some .int)) 38 kX0_firstNotSo_38 :=
  alls _ (s_bipush (by decide) dX0_firstNotSo_38) <|
  alls _ (s_iret dX0_firstNotSo_40) <|
  alls_nil _
set_option maxRecDepth 100000 in
theorem sX0_firstNotSo_32 (l : Launch) : AllS (pSnd l rmX0_firstNotSo yX0_firstNotSo.cls cX0_firstNotSo wsX0_firstNotSo 3 (some .int)) 32 kX0_firstNotSo_32 :=
  alls _ (s_iinc dX0_firstNotSo_32) <|
  alls _ (s_goto (by decide) dX0_firstNotSo_35) <|
  alls_nil _
set_option maxRecDepth 100000 in
theorem sX0_firstNotSo_9 (l : Launch) : AllS (pSnd l rmX0_firstNotSo yX0_firstNotSo.cls cX0_firstNotSo wsX0_firstNotSo 3 (some .int)) 9 kX0_firstNotSo_9 :=
  alls _ (s_iload_n rfl dX0_firstNotSo_9) <|
  alls _ (s_aload_n rfl dX0_firstNotSo_10) <|
  alls _ (s_callv (ct_X2_size l) rfl rfl rfl (gdV wd_698 wd_192 wd_193 wd_63 wd_194) rfl rfl (by decide +kernel) ⟨Nat.le_of_ble_eq_true rfl, Nat.le_of_ble_eq_true rfl⟩ dX0_firstNotSo_11) <|
  alls _ (s_icmp_ge (by decide) dX0_firstNotSo_14) <|
  alls _ (s_aload_n rfl dX0_firstNotSo_17) <|
  alls _ (s_iload_n rfl dX0_firstNotSo_18) <|
  alls _ (s_callv (ct_X0_beamsIn l) rfl rfl rfl (gdV wd_310 wd_311 wd_312 wd_61 wd_313) rfl rfl (by decide +kernel) ⟨Nat.le_of_ble_eq_true rfl, Nat.le_of_ble_eq_true rfl⟩ dX0_firstNotSo_19) <|
  alls _ (s_aload_n rfl dX0_firstNotSo_22) <|
  alls _ (s_iload_n rfl dX0_firstNotSo_23) <|
  alls _ (s_callv (ct_X2_at l) rfl rfl rfl (gdV wd_699 wd_196 wd_197 wd_63 wd_198) rfl rfl (by decide +kernel) ⟨Nat.le_of_ble_eq_true rfl, Nat.le_of_ble_eq_true rfl⟩ dX0_firstNotSo_24) <|
  alls _ (s_icmp_eq (by decide) dX0_firstNotSo_27) <|
  alls _ (s_iload_n rfl dX0_firstNotSo_30) <|
  alls _ (s_iret dX0_firstNotSo_31) <|
  alls_nil _
set_option maxRecDepth 100000 in
theorem sX0_firstNotSo_7 (l : Launch) : AllS (pSnd l rmX0_firstNotSo yX0_firstNotSo.cls cX0_firstNotSo wsX0_firstNotSo 3 (some .int)) 7 kX0_firstNotSo_7 :=
  alls _ (s_iconst dX0_firstNotSo_7) <|
  alls _ (s_istore_n rfl dX0_firstNotSo_8) <|
  alls _ s_fall (alls_nil _)
set_option maxRecDepth 100000 in
theorem sX0_firstNotSo_0 (l : Launch) : AllS (pSnd l rmX0_firstNotSo yX0_firstNotSo.cls cX0_firstNotSo wsX0_firstNotSo 3 (some .int)) 0 kX0_firstNotSo_0 :=
  alls _ (s_aload_n rfl dX0_firstNotSo_0) <|
  alls _ (s_ifnonnull (by decide) dX0_firstNotSo_1) <|
  alls_nil _
def KX0_firstNotSo : List (Nat × pProg) := [(0, kX0_firstNotSo_0), (7, kX0_firstNotSo_7), (9, kX0_firstNotSo_9), (32, kX0_firstNotSo_32), (38, kX0_firstNotSo_38)]
theorem bX0_firstNotSo_0 : blkOf KX0_firstNotSo 0 = some kX0_firstNotSo_0 := rfl
theorem bX0_firstNotSo_7 : blkOf KX0_firstNotSo 7 = some kX0_firstNotSo_7 := rfl
theorem bX0_firstNotSo_9 : blkOf KX0_firstNotSo 9 = some kX0_firstNotSo_9 := rfl
theorem bX0_firstNotSo_32 : blkOf KX0_firstNotSo 32 = some kX0_firstNotSo_32 := rfl
theorem bX0_firstNotSo_38 : blkOf KX0_firstNotSo 38 = some kX0_firstNotSo_38 := rfl
def tX0_firstNotSo : pT := pM KX0_firstNotSo 3
theorem ct_X0_firstNotSo (l : Launch) : pCtr l yX0_firstNotSo wsX0_firstNotSo rmX0_firstNotSo 2 tX0_firstNotSo := ctr_of (by decide +kernel) rfl (List.forall_mem_cons.mpr ⟨sX0_firstNotSo_0 l, List.forall_mem_cons.mpr ⟨sX0_firstNotSo_7 l, List.forall_mem_cons.mpr ⟨sX0_firstNotSo_9 l, List.forall_mem_cons.mpr ⟨sX0_firstNotSo_32 l, List.forall_mem_cons.mpr ⟨sX0_firstNotSo_38 l, fun _ h => absurd h List.not_mem_nil⟩⟩⟩⟩⟩)
theorem dX0_allToSay_0 : decode cX0_allToSay 0 = .ok (.iconst 0, 1) := by decide +kernel
theorem dX0_allToSay_1 : decode cX0_allToSay 1 = .ok (.istore_n 1, 1) := by decide +kernel
theorem dX0_allToSay_2 : decode cX0_allToSay 2 = .ok (.iconst 0, 1) := by decide +kernel
theorem dX0_allToSay_3 : decode cX0_allToSay 3 = .ok (.istore_n 2, 1) := by decide +kernel
theorem dX0_allToSay_4 : decode cX0_allToSay 4 = .ok (.iload_n 2, 1) := by decide +kernel
theorem dX0_allToSay_5 : decode cX0_allToSay 5 = .ok (.aload_n 0, 1) := by decide +kernel
theorem dX0_allToSay_6 : decode cX0_allToSay 6 = .ok (.getfield 34, 3) := by decide +kernel
theorem dX0_allToSay_9 : decode cX0_allToSay 9 = .ok (.if_icmp .ge 17, 3) := by decide +kernel
theorem dX0_allToSay_12 : decode cX0_allToSay 12 = .ok (.iload_n 1, 1) := by decide +kernel
theorem dX0_allToSay_13 : decode cX0_allToSay 13 = .ok (.aload_n 0, 1) := by decide +kernel
theorem dX0_allToSay_14 : decode cX0_allToSay 14 = .ok (.iload_n 2, 1) := by decide +kernel
theorem dX0_allToSay_15 : decode cX0_allToSay 15 = .ok (.invokevirtual 77, 3) := by decide +kernel
theorem dX0_allToSay_18 : decode cX0_allToSay 18 = .ok (.iadd, 1) := by decide +kernel
theorem dX0_allToSay_19 : decode cX0_allToSay 19 = .ok (.istore_n 1, 1) := by decide +kernel
theorem dX0_allToSay_20 : decode cX0_allToSay 20 = .ok (.iinc 2 1, 3) := by decide +kernel
theorem dX0_allToSay_23 : decode cX0_allToSay 23 = .ok (.goto (-19), 3) := by decide +kernel
theorem dX0_allToSay_26 : decode cX0_allToSay 26 = .ok (.iload_n 1, 1) := by decide +kernel
theorem dX0_allToSay_27 : decode cX0_allToSay 27 = .ok (.ireturn, 1) := by decide +kernel
def rmX0_allToSay : Room := { frames := 1, cells := 0, slots := 0, locals := 21 }
abbrev wsX0_allToSay : List Cond := .code yX0_allToSay cX0_allToSay 3 (some .int) :: gw_tbl
def kX0_allToSay_26 : pProg := (26, 1, a_iload 1) :: (27, 1, a_iret) :: []
def kX0_allToSay_4 : pProg := (4, 1, a_iload 2) :: (5, 1, a_aload 0) :: (6, 3, a_getf 0 0 6) :: (9, 3, a_icmp_ge 26) :: (12, 1, a_iload 1) :: (13, 1, a_aload 0) :: (14, 1, a_iload 2) :: (15, 3, a_callv 2 0 [0, 1, 2, 3, 4, 5, 6] tX0_toSayOf) :: (18, 1, a_iadd) :: (19, 1, a_istore 1) :: (20, 3, a_iinc 2 1) :: (23, 3, a_goto 4) :: []
def kX0_allToSay_0 : pProg := (0, 1, a_iconst 0) :: (1, 1, a_istore 1) :: (2, 1, a_iconst 0) :: (3, 1, a_istore 2) :: (4, 0, a_fall 4) :: []
set_option maxRecDepth 100000 in
theorem sX0_allToSay_26 (l : Launch) : AllS (pSnd l rmX0_allToSay yX0_allToSay.cls cX0_allToSay wsX0_allToSay 3 (some .int)) 26 kX0_allToSay_26 :=
  alls _ (s_iload_n rfl dX0_allToSay_26) <|
  alls _ (s_iret dX0_allToSay_27) <|
  alls_nil _
set_option maxRecDepth 100000 in
theorem sX0_allToSay_4 (l : Launch) : AllS (pSnd l rmX0_allToSay yX0_allToSay.cls cX0_allToSay wsX0_allToSay 3 (some .int)) 4 kX0_allToSay_4 :=
  alls _ (s_iload_n rfl dX0_allToSay_4) <|
  alls _ (s_aload_n rfl dX0_allToSay_5) <|
  alls _ (s_getf (C := RX0) (T := TX0) (N := 8) rfl (in_c inX0) (by decide) (List.mem_cons_of_mem _ wd_89) rfl dX0_allToSay_6) <|
  alls _ (s_icmp_ge (by decide) dX0_allToSay_9) <|
  alls _ (s_iload_n rfl dX0_allToSay_12) <|
  alls _ (s_aload_n rfl dX0_allToSay_13) <|
  alls _ (s_iload_n rfl dX0_allToSay_14) <|
  alls _ (s_callv (ct_X0_toSayOf l) rfl rfl rfl (gdV wd_309 wd_263 wd_264 wd_61 wd_265) rfl rfl (by decide +kernel) ⟨Nat.le_of_ble_eq_true rfl, Nat.le_of_ble_eq_true rfl⟩ dX0_allToSay_15) <|
  alls _ (s_iadd dX0_allToSay_18) <|
  alls _ (s_istore_n rfl dX0_allToSay_19) <|
  alls _ (s_iinc dX0_allToSay_20) <|
  alls _ (s_goto (by decide) dX0_allToSay_23) <|
  alls_nil _
set_option maxRecDepth 100000 in
theorem sX0_allToSay_0 (l : Launch) : AllS (pSnd l rmX0_allToSay yX0_allToSay.cls cX0_allToSay wsX0_allToSay 3 (some .int)) 0 kX0_allToSay_0 :=
  alls _ (s_iconst dX0_allToSay_0) <|
  alls _ (s_istore_n rfl dX0_allToSay_1) <|
  alls _ (s_iconst dX0_allToSay_2) <|
  alls _ (s_istore_n rfl dX0_allToSay_3) <|
  alls _ s_fall (alls_nil _)
def KX0_allToSay : List (Nat × pProg) := [(0, kX0_allToSay_0), (4, kX0_allToSay_4), (26, kX0_allToSay_26)]
theorem bX0_allToSay_0 : blkOf KX0_allToSay 0 = some kX0_allToSay_0 := rfl
theorem bX0_allToSay_4 : blkOf KX0_allToSay 4 = some kX0_allToSay_4 := rfl
theorem bX0_allToSay_26 : blkOf KX0_allToSay 26 = some kX0_allToSay_26 := rfl
def tX0_allToSay : pT := pM KX0_allToSay 3
theorem ct_X0_allToSay (l : Launch) : pCtr l yX0_allToSay wsX0_allToSay rmX0_allToSay 1 tX0_allToSay := ctr_of (by decide +kernel) rfl (List.forall_mem_cons.mpr ⟨sX0_allToSay_0 l, List.forall_mem_cons.mpr ⟨sX0_allToSay_4 l, List.forall_mem_cons.mpr ⟨sX0_allToSay_26 l, fun _ h => absurd h List.not_mem_nil⟩⟩⟩)
